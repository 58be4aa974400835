/-! the worth of a formula, how many are met, as numbers of a row and of values -/
theorem gg_ldcw {l : Launch} {Γ : gC} {mt : gY} {B : gB} {pc : Nat} {ls : List (Nat × Value)} {st : List Value} {μ : gM} {Q : Option Value → gM → Prop} {a : Int} {w : Int32} {own : String} {idx : Nat} (ho : mt.1.cls = own) (hq : Cond.constant own idx w ∈ WT) (d : decode mt.2.1 pc = .ok (.ldc_w idx, 3)) (hv : w = iv a) (k : gG l Γ mt B (pc + 3) ls (.int (iv a) :: st) μ Q) : gG l Γ mt B pc ls st μ Q := fun p e R s m args below meth c Zf H locs lr X hR hW hS hl =>
  lv_ldcw X.1 X.2.1 (own := own) (by rw [← ho]; exact X.2.2.2.1) (X.2.2.2.2.1 _ hq) d (by rw [hv]; exact k p e R s m args below meth c Zf H locs lr X hR hW hS hl)
theorem gwF_locn {n : Nat} {K : Nat → Nat} {N : Nat → Int64} {Z : Nat → Nat} (hW : gWf n K N Z) {v v' : Nat → Int} (hv : ∀ q, q < 8 → v q = v' q) {W W' : Nat → Int64} {j : Nat} (hj : j < n) (h : ∀ t, j < t → t < n → W t = W' t) : gwF K N Z v W j = gwF K N Z v' W' j := by
  obtain ⟨hK, hZ1, hZ2, he0, he1, he2, he3, hc1, hc2, hc3, hnm, hpw, hz⟩ := hW.2.2 j hj
  have q1 : 1 ≤ gPar (K j) → W (j + 1) = W' (j + 1) := fun g => h _ (by omega) (hc1 g)
  have q2 : 2 ≤ gPar (K j) → W (gPt Z j 1) = W' (gPt Z j 1) := fun g => h _ (gPt_gt Z j 1) (hc2 g)
  have q3 : 3 ≤ gPar (K j) → W (gPt Z j 2) = W' (gPt Z j 2) := fun g => h _ (gPt_gt Z j 2) (hc3 g)
  clear h hc1 hc2 hc3 he0 he1 he2 he3 hz hW hpw
  obtain hk | hk | hk | hk | hk | hk | hk | hk : K j = 0 ∨ K j = 1 ∨ K j = 2 ∨ K j = 3 ∨ K j = 4 ∨ K j = 5 ∨ K j = 6 ∨ K j = 7 := by omega
  · simp [gwF, hk]
  · obtain ⟨m0, hm0, hN⟩ := hnm hk
    simp [gwF, hk, hN, gnum_of (show m0 < 2147483648 by omega), hv m0 hm0]
  all_goals simp_all [gwF, gPar]
theorem gIsW_uni {n : Nat} {K : Nat → Nat} {N : Nat → Int64} {Z : Nat → Nat} (hW : gWf n K N Z) {v v' : Nat → Int} (hv : ∀ q, q < 8 → v q = v' q) {W W' : Nat → Int64} (h : gIsW n K N Z v W) (h' : gIsW n K N Z v' W') : ∀ j, j < n → W j = W' j := by
  have key : ∀ k, ∀ j, n - k ≤ j → j < n → W j = W' j := by
    intro k
    induction k with
    | zero => intro j h1 h2; omega
    | succ k ih =>
      intro j h1 h2
      by_cases hj : n - k ≤ j
      · exact ih j hj h2
      · rw [h j h2, h' j h2]
        exact gwF_locn hW hv h2 (fun t ht htn => ih t (by omega) htn)
  exact fun j hj => key n j (by omega) hj
noncomputable def gWc (n : Nat) (K : Nat → Nat) (N : Nat → Int64) (Z : Nat → Nat) (v : Nat → Int) : Nat → Int64 := Classical.choose (gIsW_ex n K N Z v)
theorem gWc_is (n : Nat) (K : Nat → Nat) (N : Nat → Int64) (Z : Nat → Nat) (v : Nat → Int) : gIsW n K N Z v (gWc n K N Z v) := Classical.choose_spec (gIsW_ex n K N Z v)
/-- the worth of the tree that the row is -/
noncomputable def gWo (n : Nat) (K : Nat → Nat) (N : Nat → Int64) (Z : Nat → Nat) (v : Nat → Int) : Int64 := gWc n K N Z v 0
theorem gWo_v {n : Nat} {K : Nat → Nat} {N : Nat → Int64} {Z : Nat → Nat} (hW : gWf n K N Z) {v v' : Nat → Int} (hv : ∀ q, q < 8 → v q = v' q) (hn : 0 < n) : gWo n K N Z v = gWo n K N Z v' := gIsW_uni hW hv (gWc_is n K N Z v) (gWc_is n K N Z v') 0 hn
noncomputable def gMc (n : Nat) (K : Nat → Nat) (N : Nat → Int64) (Z : Nat → Nat) (v : Nat → Int) (q : Nat) : Nat → Nat := Classical.choose (gIsM_ex n K Z (gWc n K N Z v) q)
theorem gMc_is (n : Nat) (K : Nat → Nat) (N : Nat → Int64) (Z : Nat → Nat) (v : Nat → Int) (q : Nat) : gIsM n K Z (gWc n K N Z v) q (gMc n K N Z v q) := Classical.choose_spec (gIsM_ex n K Z (gWc n K N Z v) q)
theorem gIsM_uni {n : Nat} {K : Nat → Nat} {N : Nat → Int64} {Z : Nat → Nat} (hW : gWf n K N Z) {W W' : Nat → Int64} (hWW : ∀ j, j < n → W j = W' j) {q : Nat} {M M' : Nat → Nat} (h : gIsM n K Z W q M) (h' : gIsM n K Z W' q M') : ∀ j, j < n → M j = M' j := by
  have key : ∀ k, ∀ j, n - k ≤ j → j < n → M j = M' j := by
    intro k
    induction k with
    | zero => intro j h1 h2; omega
    | succ k ih =>
      intro j h1 h2
      by_cases hj : n - k ≤ j
      · exact ih j hj h2
      · rw [h j h2, h' j h2]
        obtain ⟨hK, hZ1, hZ2, he0, he1, he2, he3, hc1, hc2, hc3, hnm, hpw, hz⟩ := hW.2.2 j h2
        clear hnm hpw hz
        have q1 : 1 ≤ gPar (K j) → M (j + 1) = M' (j + 1) := fun g => ih _ (by omega) (hc1 g)
        have q1w : 1 ≤ gPar (K j) → W (j + 1) = W' (j + 1) := fun g => hWW _ (hc1 g)
        have q2 : 2 ≤ gPar (K j) → M (gPt Z j 1) = M' (gPt Z j 1) := fun g => ih _ (by have := gPt_gt Z j 1; omega) (hc2 g)
        have q3 : 3 ≤ gPar (K j) → M (gPt Z j 2) = M' (gPt Z j 2) := fun g => ih _ (by have := gPt_gt Z j 2; omega) (hc3 g)
        clear ih hc1 hc2 hc3 he0 he1 he2 he3 hW h h' hWW
        obtain hk | hk | hk | hk | hk | hk | hk | hk : K j = 0 ∨ K j = 1 ∨ K j = 2 ∨ K j = 3 ∨ K j = 4 ∨ K j = 5 ∨ K j = 6 ∨ K j = 7 := by omega
        all_goals simp_all [gmF, gPar]
  exact fun j hj => key n j (by omega) hj
noncomputable def gMo (n : Nat) (K : Nat → Nat) (N : Nat → Int64) (Z : Nat → Nat) (v : Nat → Int) (q : Nat) : Nat := if q = 8 then gMc n K N Z v 0 0 + gMc n K N Z v 1 0 + gMc n K N Z v 2 0 + gMc n K N Z v 3 0 + gMc n K N Z v 4 0 + gMc n K N Z v 5 0 + gMc n K N Z v 6 0 + gMc n K N Z v 7 0 else gMc n K N Z v q 0
theorem gMo_v {n : Nat} {K : Nat → Nat} {N : Nat → Int64} {Z : Nat → Nat} (hW : gWf n K N Z) {v v' : Nat → Int} (hv : ∀ q, q < 8 → v q = v' q) (hn : 0 < n) (q : Nat) : gMo n K N Z v q = gMo n K N Z v' q := by
  have key : ∀ q, gMc n K N Z v q 0 = gMc n K N Z v' q 0 := fun q => gIsM_uni hW (gIsW_uni hW hv (gWc_is n K N Z v) (gWc_is n K N Z v')) (gMc_is n K N Z v q) (gMc_is n K N Z v' q) 0 hn
  unfold gMo
  simp only [key]
set_option maxRecDepth 10000 in
theorem w_X10_worthNow {l : Launch} {Γ : gC} {ad : Nat → Nat} {I0 : Nat → Nat → Int} {J : Nat → Nat → Int64} {d : Nat} {f n : Nat} {K : Nat → Nat} {N : Nat → Int64} {Z : Nat → Nat} (hf : f < 12) (hW : gWf n K N Z) (hn : 0 < n) (hM : gMt I0 J f n K N Z) (hd : n + 3 ≤ d) : ∀ (m : Nat) (i : Nat) (I : Nat → Nat → Int), 8 - i < m → (i ≤ 8) → (∀ p, p ≠ 190 → I p = I0 p) → (∀ q, q < i → I 190 q = 0) → gG l Γ gm_X10_worthNow (d, 0, 0, 0, 0) 2 [(2, .int (iv (i : Int))), (0, .ref (gad (gSS ad) 145)), (1, .int (iv (f : Int)))] [] (gSS ad, I, J) (gDl (fun e μ => ∃ I', μ = (gSS ad, I', J) ∧ e = gWo n K N Z (I0 186) ∧ (∀ p, p ≠ 190 → I' p = I0 p) ∧ ∀ q, q < 8 → I' 190 q = (gMc n K N Z (I0 186) q 0 : Int))) := by
  intro m
  induction m with
  | zero => intros; omega
  | succ m ih =>
    intro i I hm hi hI hz
    refine gg_iload_n dX10_worthNow_2 0 rfl ?_
    refine gg_bipush dX10_worthNow_3 (by decide) ?_
    refine gg_icmp_ge (tgt := 21) dX10_worthNow_5 (by decide) (by omega) (fun hb => ?_) (fun hb => ?_)
    · have h8 : i = 8 := by omega
      subst h8
      refine gg_aload_n dX10_worthNow_21 1 rfl ?_
      refine gg_iload_n dX10_worthNow_22 2 rfl ?_
      refine gg_iconst dX10_worthNow_23 ?_
      refine gg_callVl (own := RX10) (yt := gm_X10_worthOf) rfl gl_RX10_243 gk_X10_worthOf gr_X10_worthOf dX10_worthNow_24 (r_X10_worthOf hf hW (gWc_is n K N Z (I0 186)) (M := gMc n K N Z (I0 186)) (fun q hq => gMc_is n K N Z (I0 186) q) n 0 hn (by rw [hW.2.1 hn]; exact Nat.le_refl _) (d - 1) (by omega) I (gMt_I rfl hf hM hI) (fun q => by rw [hI 186 (by omega)])) sh_145 pl_145 (by decide) rfl rfl rfl (Nat.le_of_ble_eq_true rfl) (by show _ ≤ d; omega) ⟨Nat.le_refl _, Nat.le_refl _⟩ (fun e1 μ' hc => ?_)
      obtain ⟨I2, rfl, rfl, hI2, hq2⟩ := hc
      refine gg_lretl dX10_worthNow_27 rfl ⟨rfl, rfl⟩ ?_
      exact ⟨I2, rfl, rfl, fun p hp => by rw [hI2 p hp, hI p hp], fun q hq => by rw [hq2 q hq, hz q hq]; omega⟩
    · have h8 : i < 8 := by omega
      refine gg_aload_n dX10_worthNow_8 1 rfl ?_
      refine gg_getR (k' := 190) rfl gf_RX10_39 dX10_worthNow_9 sh_145 pl_145 (by decide) (by decide) rr_145_17 ?_
      refine gg_iload_n dX10_worthNow_12 0 rfl ?_
      refine gg_iconst dX10_worthNow_13 ?_
      refine gg_iastj i dX10_worthNow_14 sh_190 pl_190 (by decide) rfl (by omega) ?_
      refine gg_memI (fun I1 hI1 => ?_)
      refine gg_iincv (ls' := [(2, .int (iv ((i + 1 : Nat) : Int))), (0, .ref (gad (gSS ad) 145)), (1, .int (iv (f : Int)))]) dX10_worthNow_15 0 rfl (by omega) (by decide) rfl ?_
      refine gg_goto (tgt := 2) dX10_worthNow_18 (by decide) ?_
      refine ih (i + 1) I1 (by omega) (by omega) (fun p hp => by rw [hI1, gu_other hp]; exact hI p hp) (fun q hq => ?_)
      rw [hI1]
      by_cases hqi : q = i
      · subst hqi
        exact gu_s
      · rw [gu_n (by omega)]
        exact hz q (by omega)

set_option maxRecDepth 10000 in
theorem c_X10_worthNow {l : Launch} {Γ : gC} {ad : Nat → Nat} {I : Nat → Nat → Int} {J : Nat → Nat → Int64} {d : Nat} {f n : Nat} {K : Nat → Nat} {N : Nat → Int64} {Z : Nat → Nat} (hf : f < 12) (hM : gMt I J f n K N Z) (hW : gWf n K N Z) (hn : 0 < n) (hd : n + 3 ≤ d) : gKl l Γ gm_X10_worthNow d [.ref (gad (gSS ad) 145), .int (iv (f : Int))] (gSS ad, I, J) (fun e μ => ∃ I', μ = (gSS ad, I', J) ∧ e = gWo n K N Z (I 186) ∧ (∀ p, p ≠ 190 → I' p = I p) ∧ ∀ q, q < 8 → I' 190 q = (gMc n K N Z (I 186) q 0 : Int)) := by
  refine gKl_of gk_X10_worthNow.1 (Nat.le_of_ble_eq_true rfl) ?_
  show gG l Γ gm_X10_worthNow (d, 0, 0, 0, 0) 0 [(0, .ref (gad (gSS ad) 145)), (1, .int (iv (f : Int)))] [] _ _
  refine gg_iconst dX10_worthNow_0 ?_
  refine gg_istore_n (ls' := [(2, .int (iv 0)), (0, .ref (gad (gSS ad) 145)), (1, .int (iv (f : Int)))]) dX10_worthNow_1 rfl (by decide) rfl ?_
  refine gg_sub [0, 1, 2] rfl ?_
  exact w_X10_worthNow hf hW hn hM hd 9 0 I (by omega) (by omega) (fun _ _ => rfl) (fun q hq => absurd hq (Nat.not_lt_zero _))

set_option maxRecDepth 10000 in
theorem c_X10_asLong {l : Launch} {Γ : gC} {ad : Nat → Nat} {I : Nat → Nat → Int} {J : Nat → Nat → Int64} {d : Nat} {i : Int} : gKl l Γ gm_X10_asLong d [.int (iv i)] (gSS ad, I, J) (fun e μ => μ = (gSS ad, I, J) ∧ e = gi2l i - 1000000) := by
  refine gKl_of gk_X10_asLong.1 (Nat.le_of_ble_eq_true rfl) ?_
  show gG l Γ gm_X10_asLong (d, 0, 0, 0, 0) 0 [(0, .int (iv i))] [] _ _
  refine gg_iload_n dX10_asLong_0 0 rfl ?_
  refine gg_i2l dX10_asLong_1 ?_
  refine gg_ldc2 rfl gq_RX10_88 dX10_asLong_2 ?_
  refine gg_lsub dX10_asLong_5 ?_
  refine gg_lretl dX10_asLong_6 rfl ⟨rfl, rfl⟩ ?_
  exact ⟨rfl, rfl⟩

set_option maxRecDepth 10000 in
theorem c_X10_refusal {l : Launch} {Γ : gC} {ad : Nat → Nat} {I : Nat → Nat → Int} {J : Nat → Nat → Int64} {d : Nat} {f n : Nat} {K : Nat → Nat} {N : Nat → Int64} {Z : Nat → Nat} (hf : f < 12) (hM : gMt I J f n K N Z) (hW : gWf n K N Z) (hd : 2 ≤ d) : gKi l Γ gm_X10_refusal d [.ref (gad (gSS ad) 145), .int (iv (f : Int))] (gSS ad, I, J) (fun e μ => μ = (gSS ad, I, J) ∧ ((e = -3 ∧ n = 0) ∨ (e = 0 ∧ ¬ n = 0))) := by
  refine gKi_of gk_X10_refusal.1 (Nat.le_of_ble_eq_true rfl) ?_
  show gG l Γ gm_X10_refusal (d, 0, 0, 0, 0) 0 [(0, .ref (gad (gSS ad) 145)), (1, .int (iv (f : Int)))] [] _ _
  have hn := hW.1
  refine gg_iload_n dX10_refusal_0 1 rfl ?_
  refine gg_callSi (own := RX10) (yt := gm_X10_isFormula) rfl gl_RX10_181 gk_X10_isFormula gr_X10_isFormula dX10_refusal_1 (c_X10_isFormula (d := d - 1) (i := (f : Int)) (by omega) (by omega)) rfl rfl (Nat.le_of_ble_eq_true rfl) (by show _ ≤ d; omega) ⟨Nat.le_refl _, Nat.le_refl _⟩ (fun e1 μ' hc => ?_)
  obtain ⟨rfl, ⟨rfl, hb1⟩ | ⟨rfl, hb1⟩⟩ := hc
  rotate_left
  · omega
  refine gg_if_ne_t (tgt := 12) dX10_refusal_4 (by decide) (by decide) (by decide) ?_
  refine gg_aload_n dX10_refusal_12 0 rfl ?_
  refine gg_getR (k' := 146) rfl gf_RX10_9 dX10_refusal_13 sh_145 pl_145 (by decide) (by decide) rr_145_0 ?_
  refine gg_iload_n dX10_refusal_16 1 rfl ?_
  refine gg_ialdj f dX10_refusal_17 sh_146 pl_146 (by decide) rfl hf ?_
  refine gg_toI (b := (n : Int)) hM.1 ?_
  refine gg_if_ne (tgt := 26) dX10_refusal_18 (by decide) (by omega) (fun hb => ?_) (fun hb => ?_)
  · refine gg_iconst dX10_refusal_26 ?_
    refine gg_ireti dX10_refusal_27 rfl ⟨rfl, rfl⟩ ?_
    refine ⟨rfl, ?_⟩ <;> omega
  · refine gg_bipush dX10_refusal_21 (by decide) ?_
    refine gg_goto (tgt := 27) dX10_refusal_23 (by decide) ?_
    refine gg_ireti dX10_refusal_27 rfl ⟨rfl, rfl⟩ ?_
    refine ⟨rfl, ?_⟩ <;> omega

set_option maxRecDepth 10000 in
theorem c_X10_refusal_out {l : Launch} {Γ : gC} {ad : Nat → Nat} {I : Nat → Nat → Int} {J : Nat → Nat → Int64} {d : Nat} {i : Int} (hi : -2147483648 ≤ i ∧ i ≤ 2147483647) (ho : ¬ (0 ≤ i ∧ i ≤ 11)) (hd : 2 ≤ d) : gKi l Γ gm_X10_refusal d [.ref (gad (gSS ad) 145), .int (iv i)] (gSS ad, I, J) (fun e μ => μ = (gSS ad, I, J) ∧ e = -2) := by
  refine gKi_of gk_X10_refusal.1 (Nat.le_of_ble_eq_true rfl) ?_
  show gG l Γ gm_X10_refusal (d, 0, 0, 0, 0) 0 [(0, .ref (gad (gSS ad) 145)), (1, .int (iv i))] [] _ _
  refine gg_iload_n dX10_refusal_0 1 rfl ?_
  refine gg_callSi (own := RX10) (yt := gm_X10_isFormula) rfl gl_RX10_181 gk_X10_isFormula gr_X10_isFormula dX10_refusal_1 (c_X10_isFormula (d := d - 1) hi (by omega)) rfl rfl (Nat.le_of_ble_eq_true rfl) (by show _ ≤ d; omega) ⟨Nat.le_refl _, Nat.le_refl _⟩ (fun e1 μ' hc => ?_)
  obtain ⟨rfl, ⟨rfl, hb1⟩ | ⟨rfl, hb1⟩⟩ := hc
  · omega
  refine gg_if_ne_f (tgt := 12) dX10_refusal_4 (by decide) (by decide) (by decide) ?_
  refine gg_bipush dX10_refusal_7 (by decide) ?_
  refine gg_goto (tgt := 27) dX10_refusal_9 (by decide) ?_
  refine gg_ireti dX10_refusal_27 rfl ⟨rfl, rfl⟩ ?_
  exact ⟨rfl, rfl⟩

set_option maxRecDepth 10000 in
theorem c_X10_worth {l : Launch} {Γ : gC} {ad : Nat → Nat} {I : Nat → Nat → Int} {J : Nat → Nat → Int64} {d : Nat} {f n : Nat} {K : Nat → Nat} {N : Nat → Int64} {Z : Nat → Nat} (hf : f < 12) (hM : gMt I J f n K N Z) (hW : gWf n K N Z) (hd : 205 ≤ d) : gKl l Γ gm_X10_worth d [.ref (gad (gSS ad) 145), .int (iv (f : Int))] (gSS ad, I, J) (fun e μ => ∃ I', μ = (gSS ad, I', J) ∧ (∀ p, p ≠ 190 → I' p = I p) ∧ e = (if n = 0 then -1000003 else gWo n K N Z (I 186))) := by
  refine gKl_of gk_X10_worth.1 (Nat.le_of_ble_eq_true rfl) ?_
  show gG l Γ gm_X10_worth (d, 0, 0, 0, 0) 0 [(0, .ref (gad (gSS ad) 145)), (1, .int (iv (f : Int)))] [] _ _
  refine gg_aload_n dX10_worth_0 0 rfl ?_
  refine gg_iload_n dX10_worth_1 1 rfl ?_
  refine gg_callVi (own := RX10) (yt := gm_X10_refusal) rfl gl_RX10_247 gk_X10_refusal gr_X10_refusal dX10_worth_2 (c_X10_refusal (d := d - 1) hf hM hW (by omega)) sh_145 pl_145 (by decide) rfl rfl rfl (Nat.le_of_ble_eq_true rfl) (by show _ ≤ d; omega) ⟨Nat.le_refl _, Nat.le_refl _⟩ (fun e1 μ' hc => ?_)
  obtain ⟨rfl, ⟨rfl, hn0⟩ | ⟨rfl, hn0⟩⟩ := hc
  · refine gg_istore_n (ls' := [(2, .int (iv (-3))), (0, .ref (gad (gSS ad) 145)), (1, .int (iv (f : Int)))]) dX10_worth_5 rfl (by decide) rfl ?_
    refine gg_iload_n dX10_worth_6 0 rfl ?_
    refine gg_if_eq_f (tgt := 17) dX10_worth_7 (by decide) (by decide) (by decide) ?_
    refine gg_iload_n dX10_worth_10 0 rfl ?_
    refine gg_callSl (own := RX10) (yt := gm_X10_asLong) rfl gl_RX10_250 gk_X10_asLong gr_X10_asLong dX10_worth_11 (c_X10_asLong (d := d - 1) (i := (-3))) rfl rfl (Nat.le_of_ble_eq_true rfl) (by show _ ≤ d; omega) ⟨Nat.le_refl _, Nat.le_refl _⟩ (fun e2 μ' hc => ?_)
    obtain ⟨rfl, rfl⟩ := hc
    refine gg_goto (tgt := 22) dX10_worth_14 (by decide) ?_
    refine gg_lretl dX10_worth_22 rfl ⟨rfl, rfl⟩ ?_
    exact ⟨I, rfl, fun _ _ => rfl, by rw [if_pos hn0]; decide⟩
  · refine gg_istore_n (ls' := [(2, .int (iv 0)), (0, .ref (gad (gSS ad) 145)), (1, .int (iv (f : Int)))]) dX10_worth_5 rfl (by decide) rfl ?_
    refine gg_iload_n dX10_worth_6 0 rfl ?_
    refine gg_if_eq_t (tgt := 17) dX10_worth_7 (by decide) (by decide) (by decide) ?_
    refine gg_aload_n dX10_worth_17 1 rfl ?_
    refine gg_iload_n dX10_worth_18 2 rfl ?_
    refine gg_callVl (own := RX10) (yt := gm_X10_worthNow) rfl gl_RX10_254 gk_X10_worthNow gr_X10_worthNow dX10_worth_19 (c_X10_worthNow (d := d - 1) hf hM hW (by omega) (by have := hW.1; omega)) sh_145 pl_145 (by decide) rfl rfl rfl (Nat.le_of_ble_eq_true rfl) (by show _ ≤ d; omega) ⟨Nat.le_refl _, Nat.le_refl _⟩ (fun e3 μ' hc => ?_)
    obtain ⟨I2, rfl, rfl, hI2, hq2⟩ := hc
    refine gg_lretl dX10_worth_22 rfl ⟨rfl, rfl⟩ ?_
    exact ⟨I2, rfl, hI2, by rw [if_neg hn0]⟩

set_option maxRecDepth 10000 in
theorem c_X10_worth_out {l : Launch} {Γ : gC} {ad : Nat → Nat} {I : Nat → Nat → Int} {J : Nat → Nat → Int64} {d : Nat} {i : Int} (hi : -2147483648 ≤ i ∧ i ≤ 2147483647) (ho : ¬ (0 ≤ i ∧ i ≤ 11)) (hd : 3 ≤ d) : gKl l Γ gm_X10_worth d [.ref (gad (gSS ad) 145), .int (iv i)] (gSS ad, I, J) (fun e μ => μ = (gSS ad, I, J) ∧ e = -1000002) := by
  refine gKl_of gk_X10_worth.1 (Nat.le_of_ble_eq_true rfl) ?_
  show gG l Γ gm_X10_worth (d, 0, 0, 0, 0) 0 [(0, .ref (gad (gSS ad) 145)), (1, .int (iv i))] [] _ _
  refine gg_aload_n dX10_worth_0 0 rfl ?_
  refine gg_iload_n dX10_worth_1 1 rfl ?_
  refine gg_callVi (own := RX10) (yt := gm_X10_refusal) rfl gl_RX10_247 gk_X10_refusal gr_X10_refusal dX10_worth_2 (c_X10_refusal_out (d := d - 1) hi ho (by omega)) sh_145 pl_145 (by decide) rfl rfl rfl (Nat.le_of_ble_eq_true rfl) (by show _ ≤ d; omega) ⟨Nat.le_refl _, Nat.le_refl _⟩ (fun e1 μ' hc => ?_)
  obtain ⟨rfl, rfl⟩ := hc
  refine gg_istore_n (ls' := [(2, .int (iv (-2))), (0, .ref (gad (gSS ad) 145)), (1, .int (iv i))]) dX10_worth_5 rfl (by decide) rfl ?_
  refine gg_iload_n dX10_worth_6 0 rfl ?_
  refine gg_if_eq_f (tgt := 17) dX10_worth_7 (by decide) (by decide) (by decide) ?_
  refine gg_iload_n dX10_worth_10 0 rfl ?_
  refine gg_callSl (own := RX10) (yt := gm_X10_asLong) rfl gl_RX10_250 gk_X10_asLong gr_X10_asLong dX10_worth_11 (c_X10_asLong (d := d - 1) (i := (-2))) rfl rfl (Nat.le_of_ble_eq_true rfl) (by show _ ≤ d; omega) ⟨Nat.le_refl _, Nat.le_refl _⟩ (fun e2 μ' hc => ?_)
  obtain ⟨rfl, rfl⟩ := hc
  refine gg_goto (tgt := 22) dX10_worth_14 (by decide) ?_
  refine gg_lretl dX10_worth_22 rfl ⟨rfl, rfl⟩ ?_
  exact ⟨rfl, by decide⟩

set_option maxRecDepth 10000 in
theorem c_X9_refusalOf {l : Launch} {Γ : gC} {ad : Nat → Nat} {I : Nat → Nat → Int} {J : Nat → Nat → Int64} {d : Nat} {f n : Nat} {K : Nat → Nat} {N : Nat → Int64} {Z : Nat → Nat} (hf : f < 12) (hA : gAt I J (41 + 8 * f) n K N Z) (hW : gWf n K N Z) (hd : 1 ≤ d) : gKi l Γ gm_X9_refusalOf d [.ref (gad (gSS ad) 0), .int (iv (f : Int)), .int (iv 1)] (gSS ad, I, J) (fun e μ => μ = (gSS ad, I, J) ∧ ((e = -3 ∧ n = 0) ∨ (e = 0 ∧ ¬ n = 0))) := by
  refine gKi_of gk_X9_refusalOf.1 (Nat.le_of_ble_eq_true rfl) ?_
  show gG l Γ gm_X9_refusalOf (d, 0, 0, 0, 0) 0 [(0, .ref (gad (gSS ad) 0)), (1, .int (iv (f : Int))), (2, .int (iv 1))] [] _ _
  refine gg_iload_n dX9_refusalOf_0 1 rfl ?_
  refine gg_callSi (own := RX9) (yt := gm_X9_isFormula) rfl gl_RX9_106 gk_X9_isFormula gr_X9_isFormula dX9_refusalOf_1 (c_X9_isFormula (d := d - 1) (i := (f : Int)) (by omega)) rfl rfl (Nat.le_of_ble_eq_true rfl) (by show _ ≤ d; omega) ⟨Nat.le_refl _, Nat.le_refl _⟩ (fun e1 μ' hc => ?_)
  obtain ⟨rfl, ⟨rfl, hb1⟩ | ⟨rfl, hb1⟩⟩ := hc
  rotate_left
  · omega
  refine gg_if_eq_f (tgt := 11) dX9_refusalOf_4 (by decide) (by decide) (by decide) ?_
  refine gg_iload_n dX9_refusalOf_7 2 rfl ?_
  refine gg_if_ne_t (tgt := 14) dX9_refusalOf_8 (by decide) (by decide) (by decide) ?_
  refine gg_aload_n dX9_refusalOf_14 0 rfl ?_
  refine gg_getR (k' := 1) rfl gf_RX9_11 dX9_refusalOf_15 sh_0 pl_0 (by decide) (by decide) rr_0_0 ?_
  refine gg_iload_n dX9_refusalOf_18 1 rfl ?_
  refine gg_aaldj (t := 4) f (k' := (41 + 8 * f)) dX9_refusalOf_19 sh_1 (by decide) pl_1 (by decide) rfl hf (rr_1 hf) ?_
  refine gg_callVi (own := RX9) (yt := gm_X1_isEmpty) rfl gl_RX9_128 gk_X1_isEmpty gr_X1_isEmpty dX9_refusalOf_20 (c_X1_isEmpty (d := d - 1) (gF_fo f hf) hA hW.1) (gFsh (gF_fo f hf)) (gFlt (gF_fo f hf)) (by decide) rfl rfl rfl (Nat.le_of_ble_eq_true rfl) (by show _ ≤ d; omega) ⟨Nat.le_refl _, Nat.le_refl _⟩ (fun e2 μ' hc => ?_)
  obtain ⟨rfl, ⟨rfl, hb2⟩ | ⟨rfl, hb2⟩⟩ := hc
  · refine gg_if_eq_f (tgt := 31) dX9_refusalOf_23 (by decide) (by decide) (by decide) ?_
    refine gg_bipush dX9_refusalOf_26 (by decide) ?_
    refine gg_goto (tgt := 32) dX9_refusalOf_28 (by decide) ?_
    refine gg_ireti dX9_refusalOf_32 rfl ⟨rfl, rfl⟩ ?_
    refine ⟨rfl, ?_⟩ <;> omega
  · refine gg_if_eq_t (tgt := 31) dX9_refusalOf_23 (by decide) (by decide) (by decide) ?_
    refine gg_iconst dX9_refusalOf_31 ?_
    refine gg_ireti dX9_refusalOf_32 rfl ⟨rfl, rfl⟩ ?_
    refine ⟨rfl, ?_⟩ <;> omega

set_option maxRecDepth 10000 in
theorem c_X9_refusalOf_out {l : Launch} {Γ : gC} {ad : Nat → Nat} {I : Nat → Nat → Int} {J : Nat → Nat → Int64} {d : Nat} {i b : Int} (hi : -2147483648 ≤ i ∧ i ≤ 2147483647) (hb : b = 0 ∨ b = 1) (ho : ¬ (0 ≤ i ∧ i ≤ 11 ∧ b = 1)) (hd : 1 ≤ d) : gKi l Γ gm_X9_refusalOf d [.ref (gad (gSS ad) 0), .int (iv i), .int (iv b)] (gSS ad, I, J) (fun e μ => μ = (gSS ad, I, J) ∧ e = -2) := by
  refine gKi_of gk_X9_refusalOf.1 (Nat.le_of_ble_eq_true rfl) ?_
  show gG l Γ gm_X9_refusalOf (d, 0, 0, 0, 0) 0 [(0, .ref (gad (gSS ad) 0)), (1, .int (iv i)), (2, .int (iv b))] [] _ _
  refine gg_iload_n dX9_refusalOf_0 1 rfl ?_
  refine gg_callSi (own := RX9) (yt := gm_X9_isFormula) rfl gl_RX9_106 gk_X9_isFormula gr_X9_isFormula dX9_refusalOf_1 (c_X9_isFormula (d := d - 1) hi) rfl rfl (Nat.le_of_ble_eq_true rfl) (by show _ ≤ d; omega) ⟨Nat.le_refl _, Nat.le_refl _⟩ (fun e1 μ' hc => ?_)
  obtain ⟨rfl, ⟨rfl, hb1⟩ | ⟨rfl, hb1⟩⟩ := hc
  · refine gg_if_eq_f (tgt := 11) dX9_refusalOf_4 (by decide) (by decide) (by decide) ?_
    refine gg_iload_n dX9_refusalOf_7 2 rfl ?_
    refine gg_if_ne_f (tgt := 14) dX9_refusalOf_8 (by decide) (by omega) (by omega) ?_
    refine gg_bipush dX9_refusalOf_11 (by decide) ?_
    refine gg_ireti dX9_refusalOf_13 rfl ⟨rfl, rfl⟩ ?_
    exact ⟨rfl, rfl⟩
  · refine gg_if_eq_t (tgt := 11) dX9_refusalOf_4 (by decide) (by decide) (by decide) ?_
    refine gg_bipush dX9_refusalOf_11 (by decide) ?_
    refine gg_ireti dX9_refusalOf_13 rfl ⟨rfl, rfl⟩ ?_
    exact ⟨rfl, rfl⟩

set_option maxRecDepth 10000 in
theorem c_X9_worth {l : Launch} {Γ : gC} {ad : Nat → Nat} {I : Nat → Nat → Int} {J : Nat → Nat → Int64} {d : Nat} {f n : Nat} {K : Nat → Nat} {N : Nat → Int64} {Z : Nat → Nat} (hf : f < 12) (hA : gAt I J (41 + 8 * f) n K N Z) (hW : gWf n K N Z) (hd : 5 ≤ d) : gKl l Γ gm_X9_worth d [.ref (gad (gSS ad) 0), .int (iv (f : Int))] (gSS ad, I, J) (fun e μ => ∃ J', μ = (gSS ad, I, J') ∧ (∀ p, p ≠ 26 → J' p = J p) ∧ e = (if n = 0 then -1000003 else gWo n K N Z (I 3))) := by
  refine gKl_of gk_X9_worth.1 (Nat.le_of_ble_eq_true rfl) ?_
  show gG l Γ gm_X9_worth (d, 0, 0, 0, 0) 0 [(0, .ref (gad (gSS ad) 0)), (1, .int (iv (f : Int)))] [] _ _
  refine gg_aload_n dX9_worth_0 0 rfl ?_
  refine gg_iload_n dX9_worth_1 1 rfl ?_
  refine gg_iconst dX9_worth_2 ?_
  refine gg_callVi (own := RX9) (yt := gm_X9_refusalOf) rfl gl_RX9_166 gk_X9_refusalOf gr_X9_refusalOf dX9_worth_3 (c_X9_refusalOf (d := d - 1) hf hA hW (by omega)) sh_0 pl_0 (by decide) rfl rfl rfl (Nat.le_of_ble_eq_true rfl) (by show _ ≤ d; omega) ⟨Nat.le_refl _, Nat.le_refl _⟩ (fun e1 μ' hc => ?_)
  obtain ⟨rfl, ⟨rfl, hn0⟩ | ⟨rfl, hn0⟩⟩ := hc
  · refine gg_istore_n (ls' := [(2, .int (iv (-3))), (0, .ref (gad (gSS ad) 0)), (1, .int (iv (f : Int)))]) dX9_worth_6 rfl (by decide) rfl ?_
    refine gg_iload_n dX9_worth_7 0 rfl ?_
    refine gg_if_eq_f (tgt := 20) dX9_worth_8 (by decide) (by decide) (by decide) ?_
    refine gg_iload_n dX9_worth_11 0 rfl ?_
    refine gg_i2l dX9_worth_12 ?_
    refine gg_ldc2 rfl gq_RX9_170 dX9_worth_13 ?_
    refine gg_lsub dX9_worth_16 ?_
    refine gg_goto (tgt := 37) dX9_worth_17 (by decide) ?_
    refine gg_lretl dX9_worth_37 rfl ⟨rfl, rfl⟩ ?_
    exact ⟨J, rfl, fun _ _ => rfl, by rw [if_pos hn0]; decide⟩
  · refine gg_istore_n (ls' := [(2, .int (iv 0)), (0, .ref (gad (gSS ad) 0)), (1, .int (iv (f : Int)))]) dX9_worth_6 rfl (by decide) rfl ?_
    refine gg_iload_n dX9_worth_7 0 rfl ?_
    refine gg_if_eq_t (tgt := 20) dX9_worth_8 (by decide) (by decide) (by decide) ?_
    refine gg_aload_n dX9_worth_20 1 rfl ?_
    refine gg_getR (k' := 25) rfl gf_RX9_68 dX9_worth_21 sh_0 pl_0 (by decide) (by decide) rr_0_12 ?_
    refine gg_aload_n dX9_worth_24 1 rfl ?_
    refine gg_getR (k' := 1) rfl gf_RX9_11 dX9_worth_25 sh_0 pl_0 (by decide) (by decide) rr_0_0 ?_
    refine gg_iload_n dX9_worth_28 2 rfl ?_
    refine gg_aaldj (t := 4) f (k' := (41 + 8 * f)) dX9_worth_29 sh_1 (by decide) pl_1 (by decide) rfl hf (rr_1 hf) ?_
    refine gg_aload_n dX9_worth_30 1 rfl ?_
    refine gg_getR (k' := 3) rfl gf_RX9_18 dX9_worth_31 sh_0 pl_0 (by decide) (by decide) rr_0_2 ?_
    refine gg_callVl (own := RX9) (yt := gm_X8_worthOf) rfl gl_RX9_172 gk_X8_worthOf gr_X8_worthOf dX9_worth_34 (c_X8_worthOf (d := d - 1) (gF_fo f hf) hA hW (p := 3) sh_3 pl_3 (by omega)) sh_25 pl_25 (by decide) rfl rfl rfl (Nat.le_of_ble_eq_true rfl) (by show _ ≤ d; omega) ⟨Nat.le_refl _, Nat.le_refl _⟩ (fun e2 μ' hc => ?_)
    obtain ⟨J2, rfl, hw2, rfl, hJ2⟩ := hc
    refine gg_lretl dX9_worth_37 rfl ⟨rfl, rfl⟩ ?_
    exact ⟨J2, rfl, hJ2, by rw [if_neg hn0]; exact gIsW_uni hW (fun _ _ => rfl) hw2 (gWc_is n K N Z (I 3)) 0 (by omega)⟩

set_option maxRecDepth 10000 in
theorem c_X9_worth_out {l : Launch} {Γ : gC} {ad : Nat → Nat} {I : Nat → Nat → Int} {J : Nat → Nat → Int64} {d : Nat} {i : Int} (hi : -2147483648 ≤ i ∧ i ≤ 2147483647) (ho : ¬ (0 ≤ i ∧ i ≤ 11)) (hd : 2 ≤ d) : gKl l Γ gm_X9_worth d [.ref (gad (gSS ad) 0), .int (iv i)] (gSS ad, I, J) (fun e μ => μ = (gSS ad, I, J) ∧ e = -1000002) := by
  refine gKl_of gk_X9_worth.1 (Nat.le_of_ble_eq_true rfl) ?_
  show gG l Γ gm_X9_worth (d, 0, 0, 0, 0) 0 [(0, .ref (gad (gSS ad) 0)), (1, .int (iv i))] [] _ _
  refine gg_aload_n dX9_worth_0 0 rfl ?_
  refine gg_iload_n dX9_worth_1 1 rfl ?_
  refine gg_iconst dX9_worth_2 ?_
  refine gg_callVi (own := RX9) (yt := gm_X9_refusalOf) rfl gl_RX9_166 gk_X9_refusalOf gr_X9_refusalOf dX9_worth_3 (c_X9_refusalOf_out (d := d - 1) (b := 1) hi (Or.inr rfl) (by omega) (by omega)) sh_0 pl_0 (by decide) rfl rfl rfl (Nat.le_of_ble_eq_true rfl) (by show _ ≤ d; omega) ⟨Nat.le_refl _, Nat.le_refl _⟩ (fun e1 μ' hc => ?_)
  obtain ⟨rfl, rfl⟩ := hc
  refine gg_istore_n (ls' := [(2, .int (iv (-2))), (0, .ref (gad (gSS ad) 0)), (1, .int (iv i))]) dX9_worth_6 rfl (by decide) rfl ?_
  refine gg_iload_n dX9_worth_7 0 rfl ?_
  refine gg_if_eq_f (tgt := 20) dX9_worth_8 (by decide) (by decide) (by decide) ?_
  refine gg_iload_n dX9_worth_11 0 rfl ?_
  refine gg_i2l dX9_worth_12 ?_
  refine gg_ldc2 rfl gq_RX9_170 dX9_worth_13 ?_
  refine gg_lsub dX9_worth_16 ?_
  refine gg_goto (tgt := 37) dX9_worth_17 (by decide) ?_
  refine gg_lretl dX9_worth_37 rfl ⟨rfl, rfl⟩ ?_
  exact ⟨rfl, by decide⟩

