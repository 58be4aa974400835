/-! what was told of worth, read back: the reference; the whole calls -/
theorem gMt_R {I I' : Nat → Nat → Int} {J : Nat → Nat → Int64} {f n : Nat} {K : Nat → Nat} {N : Nat → Int64} {Z : Nat → Nat} (hf : f < 12) (h : gMt I J f n K N Z) (hI : ∀ p, p ≠ 186 → p ≠ 190 → I' p = I p) : gMt I' J f n K N Z := gMt_lo hf h (fun p h1 h2 => hI p (by omega) (by omega))
set_option maxRecDepth 10000 in
theorem w_X10_otherwise {l : Launch} {Γ : gC} {ad : Nat → Nat} {I0 : Nat → Nat → Int} {J : Nat → Nat → Int64} {d : Nat} {f n : Nat} {K : Nat → Nat} {N : Nat → Int64} {Z : Nat → Nat} (hf : f < 12) (hW : gWf n K N Z) (hn : 0 < n) (hM : gMt I0 J f n K N Z) {s sn : Nat} {T v : Nat → Int} (hs : s < 4) (hsn : I0 238 s = (sn : Int)) (hn2 : sn ≤ 20) (hTr : ∀ j, j < sn → -2147483648 ≤ T j ∧ T j ≤ 2147483647) (hv : I0 186 = v) (hT : I0 (240 + s) = T) {nm : Nat} (hnm : nm < 8) (hd : n + 4 ≤ d) : ∀ (m : Nat) (i : Nat) (I : Nat → Nat → Int), sn - i < m → (i ≤ sn) → (∀ p, p ≠ 186 → p ≠ 190 → I p = I0 p) → (∀ q, q ≠ nm → I 186 q = v q) → gG l Γ gm_X10_otherwise (d, 0, 0, 0, 0) 14 [(6, .int (iv (i : Int))), (5, .int (iv (gFi (gOt n K N Z v nm T) i))), (4, .int (iv (v nm))), (0, .ref (gad (gSS ad) 145)), (1, .int (iv (s : Int))), (2, .int (iv (f : Int))), (3, .int (iv (nm : Int)))] [] (gSS ad, I, J) (gDi (fun e μ => ∃ I', μ = (gSS ad, I', J) ∧ (∀ p, p ≠ 190 → I' p = I0 p) ∧ e = gFi (gOt n K N Z v nm T) sn)) := by
  intro m
  induction m with
  | zero => intros; omega
  | succ m ih =>
    intro i I hm hi hI hs7
    refine gg_iload dX10_otherwise_14 0 rfl ?_
    refine gg_aload_n dX10_otherwise_16 3 rfl ?_
    refine gg_getR (k' := 238) rfl gf_RX10_75 dX10_otherwise_17 sh_145 pl_145 (by decide) (by decide) rr_145_34 ?_
    refine gg_iload_n dX10_otherwise_20 4 rfl ?_
    have hfr := gFi_rng (P := (gOt n K N Z v nm T)) i
    refine gg_ialdj s dX10_otherwise_21 sh_238 pl_238 (by decide) rfl hs ?_
    refine gg_toI (b := (sn : Int)) (by rw [hI _ (by omega) (by omega)]; exact hsn) ?_
    refine gg_icmp_ge (tgt := 67) dX10_otherwise_22 (by decide) (by omega) (fun hx => ?_) (fun hx => ?_)
    · have hend : gFi (gOt n K N Z v nm T) sn = gFi (gOt n K N Z v nm T) i := by rw [show sn = i by omega]
      refine gg_aload_n dX10_otherwise_67 3 rfl ?_
      refine gg_getR (k' := 186) rfl gf_RX10_26 dX10_otherwise_68 sh_145 pl_145 (by decide) (by decide) rr_145_4 ?_
      refine gg_iload_n dX10_otherwise_71 6 rfl ?_
      refine gg_iload dX10_otherwise_72 2 rfl ?_
      refine gg_iastj nm dX10_otherwise_74 sh_186 pl_186 (by decide) rfl hnm ?_
      refine gg_memI (fun I3 hI3 => ?_)
      have hv3 : I3 186 = I0 186 := by
        funext q
        rw [hI3, hv]
        by_cases hqn : q = nm
        · rw [hqn, gu_s]
        · rw [gu_n (by omega), hs7 q hqn]
      refine gg_iload dX10_otherwise_75 1 rfl ?_
      refine gg_ireti dX10_otherwise_77 rfl ⟨rfl, rfl⟩ ?_
      exact ⟨I3, rfl, fun p h1 => if hp : p = 186 then by rw [hp]; exact hv3 else by rw [hI3, gu_other hp]; exact hI p hp h1, hend.symm⟩
    · have h8 : i < sn := by omega
      have hTi := hTr i h8
      refine gg_iload dX10_otherwise_25 1 rfl ?_
      refine gg_iconst dX10_otherwise_27 ?_
      refine gg_icmp_ne (tgt := 67) dX10_otherwise_28 (by decide) (by omega) (fun hg => ?_) (fun hg => ?_)
      · have hend : gFi (gOt n K N Z v nm T) sn = gFi (gOt n K N Z v nm T) i := gFi_stay hg sn hi
        refine gg_aload_n dX10_otherwise_67 3 rfl ?_
        refine gg_getR (k' := 186) rfl gf_RX10_26 dX10_otherwise_68 sh_145 pl_145 (by decide) (by decide) rr_145_4 ?_
        refine gg_iload_n dX10_otherwise_71 6 rfl ?_
        refine gg_iload dX10_otherwise_72 2 rfl ?_
        refine gg_iastj nm dX10_otherwise_74 sh_186 pl_186 (by decide) rfl hnm ?_
        refine gg_memI (fun I3 hI3 => ?_)
        have hv3 : I3 186 = I0 186 := by
          funext q
          rw [hI3, hv]
          by_cases hqn : q = nm
          · rw [hqn, gu_s]
          · rw [gu_n (by omega), hs7 q hqn]
        refine gg_iload dX10_otherwise_75 1 rfl ?_
        refine gg_ireti dX10_otherwise_77 rfl ⟨rfl, rfl⟩ ?_
        exact ⟨I3, rfl, fun p h1 => if hp : p = 186 then by rw [hp]; exact hv3 else by rw [hI3, gu_other hp]; exact hI p hp h1, hend.symm⟩
      · refine gg_aload_n dX10_otherwise_31 3 rfl ?_
        refine gg_getR (k' := 186) rfl gf_RX10_26 dX10_otherwise_32 sh_145 pl_145 (by decide) (by decide) rr_145_4 ?_
        refine gg_iload_n dX10_otherwise_35 6 rfl ?_
        refine gg_iload dX10_otherwise_36 0 rfl ?_
        refine gg_iastj nm dX10_otherwise_38 sh_186 pl_186 (by decide) rfl hnm ?_
        refine gg_memI (fun I1 hI1 => ?_)
        have hup : ∀ q, q < 8 → I1 186 q = gup (v) nm (i : Int) q := by
          intro q hq
          rw [hI1]
          by_cases hqn : q = nm
          · rw [hqn, gu_s]; simp [gup]
          · rw [gu_n (by omega), hs7 q hqn]; simp [gup, hqn]
        have hI1n : ∀ q, q ≠ nm → I1 186 q = I 186 q := fun q hqn => by rw [hI1, gu_n (by omega)]
        have hI1o : ∀ p, p ≠ 186 → p ≠ 190 → I1 p = I0 p := fun p h1 h2 => by rw [hI1, gu_other h1]; exact hI p h1 h2
        clear hI1
        refine gg_aload_n dX10_otherwise_39 3 rfl ?_
        refine gg_iload_n dX10_otherwise_40 5 rfl ?_
        refine gg_callVl (own := RX10) (yt := gm_X10_worthNow) rfl gl_RX10_254 gk_X10_worthNow gr_X10_worthNow dX10_otherwise_41 (c_X10_worthNow (d := d - 1) hf (gMt_R hf hM hI1o) hW hn (by omega)) sh_145 pl_145 (by decide) rfl rfl rfl (Nat.le_of_ble_eq_true rfl) (by show _ ≤ d; omega) ⟨Nat.le_refl _, Nat.le_refl _⟩ (fun e1 μ' hc => ?_)
        obtain ⟨I2, rfl, rfl, hI2, hq2⟩ := hc
        refine gg_toL (b := (gWo n K N Z (gup v nm (i : Int)))) (gWo_v hW hup hn) ?_
        refine gg_l2i dX10_otherwise_44 ?_
        refine gg_aload_n dX10_otherwise_45 3 rfl ?_
        refine gg_getR (k' := 239) rfl gf_RX10_78 dX10_otherwise_46 sh_145 pl_145 (by decide) (by decide) rr_145_35 ?_
        refine gg_iload_n dX10_otherwise_49 4 rfl ?_
        refine gg_aaldj (t := 6) s (k' := (240 + s)) dX10_otherwise_50 sh_239 (by decide) pl_239 (by decide) rfl hs (rr_239 hs) ?_
        refine gg_iload dX10_otherwise_51 0 rfl ?_
        refine gg_ialdj i dX10_otherwise_53 (rs_239 hs) (rl_239 hs) (by decide) rfl (by omega) ?_
        refine gg_toI (b := T i) (by rw [hI2 _ (by omega), hI1o _ (by omega) (by omega), hT]) ?_
        refine gg_icmp_eq (tgt := 61) dX10_otherwise_54 (by decide) (by have := gl2i_rng (gWo n K N Z (gup v nm (i : Int))); omega) (fun hc => ?_) (fun hc => ?_)
        · have hnc : ¬ gOt n K N Z v nm T i := fun hh => hh hc
          refine gg_iincv (ls' := [(6, .int (iv ((i + 1 : Nat) : Int))), (5, .int (iv (gFi (gOt n K N Z v nm T) i))), (4, .int (iv (v nm))), (0, .ref (gad (gSS ad) 145)), (1, .int (iv (s : Int))), (2, .int (iv (f : Int))), (3, .int (iv (nm : Int)))]) dX10_otherwise_61 0 rfl (by omega) (by decide) rfl ?_
          refine gg_goto (tgt := 14) dX10_otherwise_64 (by decide) ?_
          rw [← gFi_s3 hnc]
          exact ih (i + 1) I2 (by omega) (by omega) (fun p h1 h2 => by rw [hI2 p h2, hI1o p h1 h2]) (fun q hqn => by rw [hI2 186 (by omega), hI1n q hqn]; exact hs7 q hqn)
        · have hc2 : gOt n K N Z v nm T i := hc
          refine gg_iload dX10_otherwise_57 0 rfl ?_
          refine gg_toI (b := gFi (gOt n K N Z v nm T) (i + 1)) (gFi_s hg hc2).symm ?_
          refine gg_istore (ls' := [(5, .int (iv (gFi (gOt n K N Z v nm T) (i + 1)))), (6, .int (iv (i : Int))), (4, .int (iv (v nm))), (0, .ref (gad (gSS ad) 145)), (1, .int (iv (s : Int))), (2, .int (iv (f : Int))), (3, .int (iv (nm : Int)))]) dX10_otherwise_59 (by decide) rfl ?_
          refine gg_iincv (ls' := [(6, .int (iv ((i + 1 : Nat) : Int))), (5, .int (iv (gFi (gOt n K N Z v nm T) (i + 1)))), (4, .int (iv (v nm))), (0, .ref (gad (gSS ad) 145)), (1, .int (iv (s : Int))), (2, .int (iv (f : Int))), (3, .int (iv (nm : Int)))]) dX10_otherwise_61 1 rfl (by omega) (by decide) rfl ?_
          refine gg_goto (tgt := 14) dX10_otherwise_64 (by decide) ?_
          exact ih (i + 1) I2 (by omega) (by omega) (fun p h1 h2 => by rw [hI2 p h2, hI1o p h1 h2]) (fun q hqn => by rw [hI2 186 (by omega), hI1n q hqn]; exact hs7 q hqn)

set_option maxRecDepth 10000 in
theorem c_X10_otherwise {l : Launch} {Γ : gC} {ad : Nat → Nat} {I : Nat → Nat → Int} {J : Nat → Nat → Int64} {d : Nat} {f n : Nat} {K : Nat → Nat} {N : Nat → Int64} {Z : Nat → Nat} (hf : f < 12) (hM : gMt I J f n K N Z) (hW : gWf n K N Z) {s sn : Nat} {T v : Nat → Int} (hs : s < 4) (hsn : I 238 s = (sn : Int)) (hn2 : sn ≤ 20) (hTr : ∀ j, j < sn → -2147483648 ≤ T j ∧ T j ≤ 2147483647) (hv : I 186 = v) (hT : I (240 + s) = T) (hn : 0 < n) {nm : Nat} (hnm : nm < 8) (hd : n + 4 ≤ d) : gKi l Γ gm_X10_otherwise d [.ref (gad (gSS ad) 145), .int (iv (s : Int)), .int (iv (f : Int)), .int (iv (nm : Int))] (gSS ad, I, J) (fun e μ => ∃ I', μ = (gSS ad, I', J) ∧ (∀ p, p ≠ 190 → I' p = I p) ∧ e = gFi (gOt n K N Z v nm T) sn) := by
  refine gKi_of gk_X10_otherwise.1 (Nat.le_of_ble_eq_true rfl) ?_
  show gG l Γ gm_X10_otherwise (d, 0, 0, 0, 0) 0 [(0, .ref (gad (gSS ad) 145)), (1, .int (iv (s : Int))), (2, .int (iv (f : Int))), (3, .int (iv (nm : Int)))] [] _ _
  refine gg_aload_n dX10_otherwise_0 0 rfl ?_
  refine gg_getR (k' := 186) rfl gf_RX10_26 dX10_otherwise_1 sh_145 pl_145 (by decide) (by decide) rr_145_4 ?_
  refine gg_iload_n dX10_otherwise_4 3 rfl ?_
  refine gg_ialdj nm dX10_otherwise_5 sh_186 pl_186 (by decide) rfl hnm ?_
  refine gg_toI (b := v nm) (by rw [hv]) ?_
  refine gg_istore (ls' := [(4, .int (iv (v nm))), (0, .ref (gad (gSS ad) 145)), (1, .int (iv (s : Int))), (2, .int (iv (f : Int))), (3, .int (iv (nm : Int)))]) dX10_otherwise_6 (by decide) rfl ?_
  refine gg_iconst dX10_otherwise_8 ?_
  refine gg_istore (ls' := [(5, .int (iv (-1))), (4, .int (iv (v nm))), (0, .ref (gad (gSS ad) 145)), (1, .int (iv (s : Int))), (2, .int (iv (f : Int))), (3, .int (iv (nm : Int)))]) dX10_otherwise_9 (by decide) rfl ?_
  refine gg_iconst dX10_otherwise_11 ?_
  refine gg_istore (ls' := [(6, .int (iv 0)), (5, .int (iv (-1))), (4, .int (iv (v nm))), (0, .ref (gad (gSS ad) 145)), (1, .int (iv (s : Int))), (2, .int (iv (f : Int))), (3, .int (iv (nm : Int)))]) dX10_otherwise_12 (by decide) rfl ?_
  refine gg_sub [0, 1, 2, 3, 4, 5, 6] rfl ?_
  exact w_X10_otherwise hf hW hn hM hs hsn hn2 hTr hv hT hnm hd (sn + 1) 0 I (by omega) (by omega) (fun _ _ _ => rfl) (fun q _ => by rw [hv])

set_option maxRecDepth 10000 in
theorem w_X10_numberAt {l : Launch} {Γ : gC} {ad : Nat → Nat} {I : Nat → Nat → Int} {J : Nat → Nat → Int64} {d : Nat} {f n : Nat} {K : Nat → Nat} {N : Nat → Int64} {Z : Nat → Nat} (hf : f < 12) (hM : gMt I J f n K N Z) (hW : gWf n K N Z) {k : Int} (hk : 0 ≤ k ∧ k ≤ 40) : ∀ (m : Nat) (i : Nat), n - i < m → (i ≤ n) → (∀ t, t < i → K t = 0 → (gCnt K t : Int) ≠ k) → gG l Γ gm_X10_numberAt (d, 0, 0, 0, 0) 5 [(4, .int (iv (i : Int))), (3, .int (iv (k - (gCnt K i : Int)))), (0, .ref (gad (gSS ad) 145)), (1, .int (iv (f : Int))), (2, .int (iv k))] [] (gSS ad, I, J) (gDi (fun e μ => μ = (gSS ad, I, J) ∧ gPno K n k e)) := by
  intro m
  induction m with
  | zero => intros; omega
  | succ m ih =>
    intro i hm hi hno
    refine gg_iload dX10_numberAt_5 0 rfl ?_
    refine gg_aload_n dX10_numberAt_7 2 rfl ?_
    refine gg_getR (k' := 146) rfl gf_RX10_9 dX10_numberAt_8 sh_145 pl_145 (by decide) (by decide) rr_145_0 ?_
    refine gg_iload_n dX10_numberAt_11 3 rfl ?_
    refine gg_ialdj f dX10_numberAt_12 sh_146 pl_146 (by decide) rfl hf ?_
    refine gg_toI (b := (n : Int)) hM.1 ?_
    refine gg_icmp_ge (tgt := 47) dX10_numberAt_13 (by decide) (by have := hW.1; omega) (fun hb => ?_) (fun hb => ?_)
    · have hin : i = n := by omega
      refine gg_iconst dX10_numberAt_47 ?_
      refine gg_ireti dX10_numberAt_48 rfl ⟨rfl, rfl⟩ ?_
      exact ⟨rfl, Or.inr ⟨rfl, fun t ht => hno t (by omega)⟩⟩
    · have hb1 : i < n := by omega
      have hc := gCnt_le K i
      have hz := (hM.2 i hb1).1
      have hn := hW.1
      refine gg_aload_n dX10_numberAt_16 2 rfl ?_
      refine gg_getR (k' := 147) rfl gf_RX10_15 dX10_numberAt_17 sh_145 pl_145 (by decide) (by decide) rr_145_1 ?_
      refine gg_iload_n dX10_numberAt_20 3 rfl ?_
      refine gg_aaldj (t := 6) f (k' := (148 + f)) dX10_numberAt_21 sh_147 (by decide) pl_147 (by decide) rfl hf (rr_147 hf) ?_
      refine gg_iload dX10_numberAt_22 0 rfl ?_
      refine gg_ialdj i dX10_numberAt_24 (rs_147 hf) (rl_147 hf) (by decide) rfl (by omega) ?_
      refine gg_toI (b := (K i : Int)) hz ?_
      refine gg_if_eq (tgt := 31) dX10_numberAt_25 (by decide) (by have := (hW.2.2 i hb1).1; omega) (fun hk9 => ?_) (fun hk9 => ?_)
      · have hk0 : K i = 0 := by omega
        refine gg_iload_n dX10_numberAt_31 1 rfl ?_
        refine gg_if_ne (tgt := 38) dX10_numberAt_32 (by decide) (by omega) (fun hk1 => ?_) (fun hk1 => ?_)
        · refine gg_iincv (ls' := [(3, .int (iv (k - (gCnt K (i + 1) : Int)))), (4, .int (iv (i : Int))), (0, .ref (gad (gSS ad) 145)), (1, .int (iv (f : Int))), (2, .int (iv k))]) dX10_numberAt_38 1 rfl (by simp [gCnt, hk0]; omega) (by decide) rfl ?_
          refine gg_iincv (ls' := [(4, .int (iv ((i + 1 : Nat) : Int))), (3, .int (iv (k - (gCnt K (i + 1) : Int)))), (0, .ref (gad (gSS ad) 145)), (1, .int (iv (f : Int))), (2, .int (iv k))]) dX10_numberAt_41 1 rfl (by omega) (by decide) rfl ?_
          refine gg_goto (tgt := 5) dX10_numberAt_44 (by decide) ?_
          exact ih (i + 1) (by omega) (by omega) (fun t ht hz => by
            rcases Nat.lt_succ_iff_lt_or_eq.mp ht with h | h
            · exact hno t h hz
            · subst h
              omega)
        · refine gg_iload dX10_numberAt_35 0 rfl ?_
          refine gg_ireti dX10_numberAt_37 rfl ⟨rfl, rfl⟩ ?_
          exact ⟨rfl, Or.inl ⟨i, hb1, rfl, hk0, by omega⟩⟩
      · have hk0 : ¬ K i = 0 := by omega
        refine gg_goto (tgt := 41) dX10_numberAt_28 (by decide) ?_
        refine gg_iincv (ls' := [(4, .int (iv ((i + 1 : Nat) : Int))), (3, .int (iv (k - (gCnt K i : Int)))), (0, .ref (gad (gSS ad) 145)), (1, .int (iv (f : Int))), (2, .int (iv k))]) dX10_numberAt_41 0 rfl (by omega) (by decide) rfl ?_
        refine gg_goto (tgt := 5) dX10_numberAt_44 (by decide) ?_
        rw [← show gCnt K (i + 1) = gCnt K i by simp [gCnt, hk0]]
        exact ih (i + 1) (by omega) (by omega) (fun t ht hz => by
          rcases Nat.lt_succ_iff_lt_or_eq.mp ht with h | h
          · exact hno t h hz
          · subst h
            omega)

set_option maxRecDepth 10000 in
theorem c_X10_numberAt {l : Launch} {Γ : gC} {ad : Nat → Nat} {I : Nat → Nat → Int} {J : Nat → Nat → Int64} {d : Nat} {f n : Nat} {K : Nat → Nat} {N : Nat → Int64} {Z : Nat → Nat} (hf : f < 12) (hM : gMt I J f n K N Z) (hW : gWf n K N Z) {k : Int} (hk : 0 ≤ k ∧ k ≤ 40) : gKi l Γ gm_X10_numberAt d [.ref (gad (gSS ad) 145), .int (iv (f : Int)), .int (iv k)] (gSS ad, I, J) (fun e μ => μ = (gSS ad, I, J) ∧ gPno K n k e) := by
  refine gKi_of gk_X10_numberAt.1 (Nat.le_of_ble_eq_true rfl) ?_
  show gG l Γ gm_X10_numberAt (d, 0, 0, 0, 0) 0 [(0, .ref (gad (gSS ad) 145)), (1, .int (iv (f : Int))), (2, .int (iv k))] [] _ _
  refine gg_iload_n dX10_numberAt_0 2 rfl ?_
  refine gg_toI (b := k - (gCnt K 0 : Int)) (by simp [gCnt]) ?_
  refine gg_istore_n (ls' := [(3, .int (iv (k - (gCnt K 0 : Int)))), (0, .ref (gad (gSS ad) 145)), (1, .int (iv (f : Int))), (2, .int (iv k))]) dX10_numberAt_1 rfl (by decide) rfl ?_
  refine gg_iconst dX10_numberAt_2 ?_
  refine gg_istore (ls' := [(4, .int (iv 0)), (3, .int (iv (k - (gCnt K 0 : Int)))), (0, .ref (gad (gSS ad) 145)), (1, .int (iv (f : Int))), (2, .int (iv k))]) dX10_numberAt_3 (by decide) rfl ?_
  refine gg_sub [0, 1, 2, 3, 4] rfl ?_
  exact w_X10_numberAt hf hM hW hk (n + 1) 0 (by omega) (by omega) (fun t ht => absurd ht (Nat.not_lt_zero _))

theorem gMt_st {I : Nat → Nat → Int} {J : Nat → Nat → Int64} {f n : Nat} {K : Nat → Nat} {M N : Nat → Int64} {Z : Nat → Nat} {p : Nat} {x : Int64} (h : gMt I J f n K M Z) (hM : ∀ j, j ≠ p → M j = N j) : gMt I (gv J (161 + f) p x) f n K (gst N p x) Z := by
  refine ⟨h.1, fun j hj => ⟨(h.2 j hj).1, ?_, (h.2 j hj).2.2⟩⟩
  by_cases he : j = p
  · rw [he, gv_s]; simp [gst]
  · rw [gv_n (by omega), (h.2 j hj).2.1, hM j he]; simp [gst, he]
set_option maxRecDepth 10000 in
theorem w_X10_numbersBy {l : Launch} {Γ : gC} {ad : Nat → Nat} {I0 : Nat → Nat → Int} {J0 : Nat → Nat → Int64} {d : Nat} {f n : Nat} {K : Nat → Nat} {N : Nat → Int64} {Z : Nat → Nat} {x0 : Int64} (hf : f < 12) (hW : gWf n K N Z) {pl : Nat} (hx0 : J0 (161 + f) pl = x0) {s sn : Nat} {T v : Nat → Int} (hs : s < 4) (hsn : I0 238 s = (sn : Int)) (hn2 : sn ≤ 20) (hTr : ∀ j, j < sn → -2147483648 ≤ T j ∧ T j ≤ 2147483647) (hv : I0 186 = v) (hT : I0 (240 + s) = T) {nm : Nat} {le : Int} (hnm : nm < 8) (hpl : pl < n) (hk0 : K pl = 0) (hle : le = 0 ∨ le = 1) (hd : n + 5 ≤ d) : ∀ (m : Nat) (i : Nat) (I : Nat → Nat → Int) (J : Nat → Nat → Int64) (M : Nat → Int64), 100 - i < m → (i ≤ 100) → (∀ p, p ≠ 190 → I p = I0 p) → (∀ p, p ≠ 161 + f → J p = J0 p) → (∀ j, j ≠ pl → J (161 + f) j = J0 (161 + f) j) → (gMt I J f n K M Z) → (∀ j, j ≠ pl → M j = N j) → gG l Γ gm_X10_numbersBy (d, 0, 0, 0, 0) 20 [(10, .int (iv (i : Int))), (9, .int (iv (gFi (fun t : Nat => gFi (gOt n K (gst N pl (gi2l (t : Int))) Z v nm T) sn = -1) i))), (8, .int (iv (gCo (fun t : Nat => gFi (gOt n K (gst N pl (gi2l (t : Int))) Z v nm T) sn = -1) i : Int))), (6, .long x0), (0, .ref (gad (gSS ad) 145)), (1, .int (iv (s : Int))), (2, .int (iv (f : Int))), (3, .int (iv (nm : Int))), (4, .int (iv (pl : Int))), (5, .int (iv le))] [] (gSS ad, I, J) (gDi (fun e μ => ∃ I' J', μ = (gSS ad, I', J') ∧ (∀ p, p ≠ 190 → I' p = I0 p) ∧ (∀ p, J' p = J0 p) ∧ e = (if le = 1 then gFi (fun t : Nat => gFi (gOt n K (gst N pl (gi2l (t : Int))) Z v nm T) sn = -1) 100 else (gCo (fun t : Nat => gFi (gOt n K (gst N pl (gi2l (t : Int))) Z v nm T) sn = -1) 100 : Int)))) := by
  intro m
  induction m with
  | zero => intros; omega
  | succ m ih =>
    intro i I J M hm hi hI hJ hJ2 hMM hMN
    refine gg_iload dX10_numbersBy_20 0 rfl ?_
    refine gg_bipush dX10_numbersBy_22 (by decide) ?_
    refine gg_icmp_ge (tgt := 76) dX10_numbersBy_24 (by decide) (by omega) (fun hx => ?_) (fun hx => ?_)
    · have h8 : i = 100 := by omega
      have hnn := hW.1
      refine gg_aload_n dX10_numbersBy_76 4 rfl ?_
      refine gg_getR (k' := 160) rfl gf_RX10_20 dX10_numbersBy_77 sh_145 pl_145 (by decide) (by decide) rr_145_2 ?_
      refine gg_iload_n dX10_numbersBy_80 6 rfl ?_
      refine gg_aaldj (t := 7) f (k' := (161 + f)) dX10_numbersBy_81 sh_160 (by decide) pl_160 (by decide) rfl hf (rr_160 hf) ?_
      refine gg_iload dX10_numbersBy_82 8 rfl ?_
      refine gg_lload dX10_numbersBy_84 3 rfl ?_
      refine gg_lastj pl dX10_numbersBy_86 (rs_160 hf) (rl_160 hf) (by decide) rfl (by omega) ?_
      refine gg_memJ (fun J3 hJ3 => ?_)
      have hJ3o : ∀ p, J3 p = J0 p := fun p => by
        rw [hJ3]
        by_cases hp : p = 161 + f
        · rw [hp]
          funext j
          by_cases hj : j = pl
          · rw [hj, gv_s, hx0]
          · rw [gv_n (by omega)]
            exact hJ2 j hj
        · rw [gv_other hp]
          exact hJ p hp
      refine gg_iload dX10_numbersBy_87 9 rfl ?_
      refine gg_if_eq (tgt := 97) dX10_numbersBy_89 (by decide) (by omega) (fun hl2 => ?_) (fun hl2 => ?_)
      · refine gg_iload dX10_numbersBy_97 2 rfl ?_
        refine gg_ireti dX10_numbersBy_99 rfl ⟨rfl, rfl⟩ ?_
        subst h8
        refine ⟨I, J3, rfl, hI, hJ3o, ?_⟩
        first | rw [if_pos (show le = 1 by omega)] | rw [if_neg (show ¬ le = 1 by omega)]
      · refine gg_iload dX10_numbersBy_92 1 rfl ?_
        refine gg_goto (tgt := 99) dX10_numbersBy_94 (by decide) ?_
        refine gg_ireti dX10_numbersBy_99 rfl ⟨rfl, rfl⟩ ?_
        subst h8
        refine ⟨I, J3, rfl, hI, hJ3o, ?_⟩
        first | rw [if_pos (show le = 1 by omega)] | rw [if_neg (show ¬ le = 1 by omega)]
    · have h8 : i < 100 := by omega
      have hfr := gFi_rng (P := gOt n K (gst N pl (gi2l (i : Int))) Z v nm T) sn
      have hnn := hW.1
      have hcl := gCo_le (fun t : Nat => gFi (gOt n K (gst N pl (gi2l (t : Int))) Z v nm T) sn = -1) i
      have hco := gFi_co (P := (fun t : Nat => gFi (gOt n K (gst N pl (gi2l (t : Int))) Z v nm T) sn = -1)) i
      refine gg_aload_n dX10_numbersBy_27 4 rfl ?_
      refine gg_getR (k' := 160) rfl gf_RX10_20 dX10_numbersBy_28 sh_145 pl_145 (by decide) (by decide) rr_145_2 ?_
      refine gg_iload_n dX10_numbersBy_31 6 rfl ?_
      refine gg_aaldj (t := 7) f (k' := (161 + f)) dX10_numbersBy_32 sh_160 (by decide) pl_160 (by decide) rfl (by omega) (rr_160 (by omega)) ?_
      refine gg_iload dX10_numbersBy_33 8 rfl ?_
      refine gg_iload dX10_numbersBy_35 0 rfl ?_
      refine gg_i2l dX10_numbersBy_37 ?_
      refine gg_lastj pl dX10_numbersBy_38 (rs_160 (by omega)) (rl_160 (by omega)) (by decide) rfl (by omega) ?_
      refine gg_memJ (fun J1 hJ1 => ?_)
      have hJ1o : ∀ p, p ≠ 161 + f → J1 p = J p := fun p hp => by rw [hJ1]; exact gv_other hp
      have hJ1n : ∀ j, j ≠ pl → J1 (161 + f) j = J (161 + f) j := fun j hj => by rw [hJ1, gv_n (by omega)]
      have hM9 : gMt I J1 f n K (gst N pl (gi2l (i : Int))) Z := by rw [hJ1]; exact gMt_st hMM hMN
      clear hJ1
      refine gg_aload_n dX10_numbersBy_39 4 rfl ?_
      refine gg_iload_n dX10_numbersBy_40 5 rfl ?_
      refine gg_iload_n dX10_numbersBy_41 6 rfl ?_
      refine gg_iload_n dX10_numbersBy_42 7 rfl ?_
      refine gg_callVi (own := RX10) (yt := gm_X10_otherwise) rfl gl_RX10_344 gk_X10_otherwise gr_X10_otherwise dX10_numbersBy_43 (c_X10_otherwise (d := d - 1) hf hM9 (gWf_st hW hk0) (sn := sn) (T := T) (v := v) hs (by rw [hI _ (by omega)]; exact hsn) hn2 hTr (by rw [hI _ (by omega)]; exact hv) (by rw [hI _ (by omega)]; exact hT) (by omega) (nm := nm) hnm (by omega)) sh_145 pl_145 (by decide) rfl rfl rfl (Nat.le_of_ble_eq_true rfl) (by show _ ≤ d; omega) ⟨Nat.le_refl _, Nat.le_refl _⟩ (fun e1 μ' hc => ?_)
      obtain ⟨I2, rfl, hI2, rfl⟩ := hc
      refine gg_iconst dX10_numbersBy_46 ?_
      refine gg_icmp_eq (tgt := 53) dX10_numbersBy_47 (by decide) (by omega) (fun hc => ?_) (fun hc => ?_)
      · have hpp : (fun t : Nat => gFi (gOt n K (gst N pl (gi2l (t : Int))) Z v nm T) sn = -1) i := hc
        refine gg_iload dX10_numbersBy_53 2 rfl ?_
        refine gg_if_ne (tgt := 63) dX10_numbersBy_55 (by decide) (by omega) (fun hz => ?_) (fun hz => ?_)
        · refine gg_iload dX10_numbersBy_63 1 rfl ?_
          refine gg_toI (b := gFi (fun t : Nat => gFi (gOt n K (gst N pl (gi2l (t : Int))) Z v nm T) sn = -1) (i + 1)) ((gFi_s2 (P := (fun t : Nat => gFi (gOt n K (gst N pl (gi2l (t : Int))) Z v nm T) sn = -1)) (fun hh => hz (by rw [hco.1 hh]; rfl))).symm) ?_
          refine gg_istore (ls' := [(9, .int (iv (gFi (fun t : Nat => gFi (gOt n K (gst N pl (gi2l (t : Int))) Z v nm T) sn = -1) (i + 1)))), (10, .int (iv (i : Int))), (8, .int (iv (gCo (fun t : Nat => gFi (gOt n K (gst N pl (gi2l (t : Int))) Z v nm T) sn = -1) i : Int))), (6, .long x0), (0, .ref (gad (gSS ad) 145)), (1, .int (iv (s : Int))), (2, .int (iv (f : Int))), (3, .int (iv (nm : Int))), (4, .int (iv (pl : Int))), (5, .int (iv le))]) dX10_numbersBy_65 (by decide) rfl ?_
          refine gg_iincv (ls' := [(8, .int (iv (gCo (fun t : Nat => gFi (gOt n K (gst N pl (gi2l (t : Int))) Z v nm T) sn = -1) (i + 1) : Int))), (9, .int (iv (gFi (fun t : Nat => gFi (gOt n K (gst N pl (gi2l (t : Int))) Z v nm T) sn = -1) (i + 1)))), (10, .int (iv (i : Int))), (6, .long x0), (0, .ref (gad (gSS ad) 145)), (1, .int (iv (s : Int))), (2, .int (iv (f : Int))), (3, .int (iv (nm : Int))), (4, .int (iv (pl : Int))), (5, .int (iv le))]) dX10_numbersBy_67 2 rfl (by rw [gCo_t (P := (fun t : Nat => gFi (gOt n K (gst N pl (gi2l (t : Int))) Z v nm T) sn = -1)) hpp]; rfl) (by decide) rfl ?_
          refine gg_iincv (ls' := [(10, .int (iv ((i + 1 : Nat) : Int))), (8, .int (iv (gCo (fun t : Nat => gFi (gOt n K (gst N pl (gi2l (t : Int))) Z v nm T) sn = -1) (i + 1) : Int))), (9, .int (iv (gFi (fun t : Nat => gFi (gOt n K (gst N pl (gi2l (t : Int))) Z v nm T) sn = -1) (i + 1)))), (6, .long x0), (0, .ref (gad (gSS ad) 145)), (1, .int (iv (s : Int))), (2, .int (iv (f : Int))), (3, .int (iv (nm : Int))), (4, .int (iv (pl : Int))), (5, .int (iv le))]) dX10_numbersBy_70 2 rfl (by omega) (by decide) rfl ?_
          refine gg_goto (tgt := 20) dX10_numbersBy_73 (by decide) ?_
          refine gg_sub [0, 2, 1, 3, 4, 5, 6, 7, 8, 9] rfl ?_
          refine ih (i + 1) I2 J1 (gst N pl (gi2l (i : Int))) (by omega) (by omega) (fun p hp => by rw [hI2 p hp]; exact hI p hp) (fun p hp => by rw [hJ1o p hp]; exact hJ p hp) (fun j hj => by rw [hJ1n j hj]; exact hJ2 j hj) (gMt_lo hf hM9 (fun p h1 h2 => hI2 p (by omega))) (fun j hj => by simp [gst, hj])
        · refine gg_iload dX10_numbersBy_58 0 rfl ?_
          refine gg_goto (tgt := 65) dX10_numbersBy_60 (by decide) ?_
          refine gg_toI (b := gFi (fun t : Nat => gFi (gOt n K (gst N pl (gi2l (t : Int))) Z v nm T) sn = -1) (i + 1)) ((gFi_s (P := (fun t : Nat => gFi (gOt n K (gst N pl (gi2l (t : Int))) Z v nm T) sn = -1)) (hco.2 (by omega)) hpp).symm) ?_
          refine gg_istore (ls' := [(9, .int (iv (gFi (fun t : Nat => gFi (gOt n K (gst N pl (gi2l (t : Int))) Z v nm T) sn = -1) (i + 1)))), (10, .int (iv (i : Int))), (8, .int (iv (gCo (fun t : Nat => gFi (gOt n K (gst N pl (gi2l (t : Int))) Z v nm T) sn = -1) i : Int))), (6, .long x0), (0, .ref (gad (gSS ad) 145)), (1, .int (iv (s : Int))), (2, .int (iv (f : Int))), (3, .int (iv (nm : Int))), (4, .int (iv (pl : Int))), (5, .int (iv le))]) dX10_numbersBy_65 (by decide) rfl ?_
          refine gg_iincv (ls' := [(8, .int (iv (gCo (fun t : Nat => gFi (gOt n K (gst N pl (gi2l (t : Int))) Z v nm T) sn = -1) (i + 1) : Int))), (9, .int (iv (gFi (fun t : Nat => gFi (gOt n K (gst N pl (gi2l (t : Int))) Z v nm T) sn = -1) (i + 1)))), (10, .int (iv (i : Int))), (6, .long x0), (0, .ref (gad (gSS ad) 145)), (1, .int (iv (s : Int))), (2, .int (iv (f : Int))), (3, .int (iv (nm : Int))), (4, .int (iv (pl : Int))), (5, .int (iv le))]) dX10_numbersBy_67 2 rfl (by rw [gCo_t (P := (fun t : Nat => gFi (gOt n K (gst N pl (gi2l (t : Int))) Z v nm T) sn = -1)) hpp]; rfl) (by decide) rfl ?_
          refine gg_iincv (ls' := [(10, .int (iv ((i + 1 : Nat) : Int))), (8, .int (iv (gCo (fun t : Nat => gFi (gOt n K (gst N pl (gi2l (t : Int))) Z v nm T) sn = -1) (i + 1) : Int))), (9, .int (iv (gFi (fun t : Nat => gFi (gOt n K (gst N pl (gi2l (t : Int))) Z v nm T) sn = -1) (i + 1)))), (6, .long x0), (0, .ref (gad (gSS ad) 145)), (1, .int (iv (s : Int))), (2, .int (iv (f : Int))), (3, .int (iv (nm : Int))), (4, .int (iv (pl : Int))), (5, .int (iv le))]) dX10_numbersBy_70 2 rfl (by omega) (by decide) rfl ?_
          refine gg_goto (tgt := 20) dX10_numbersBy_73 (by decide) ?_
          refine gg_sub [0, 2, 1, 3, 4, 5, 6, 7, 8, 9] rfl ?_
          refine ih (i + 1) I2 J1 (gst N pl (gi2l (i : Int))) (by omega) (by omega) (fun p hp => by rw [hI2 p hp]; exact hI p hp) (fun p hp => by rw [hJ1o p hp]; exact hJ p hp) (fun j hj => by rw [hJ1n j hj]; exact hJ2 j hj) (gMt_lo hf hM9 (fun p h1 h2 => hI2 p (by omega))) (fun j hj => by simp [gst, hj])
      · have hnp : ¬ (fun t : Nat => gFi (gOt n K (gst N pl (gi2l (t : Int))) Z v nm T) sn = -1) i := hc
        refine gg_goto (tgt := 70) dX10_numbersBy_50 (by decide) ?_
        refine gg_iincv (ls' := [(10, .int (iv ((i + 1 : Nat) : Int))), (9, .int (iv (gFi (fun t : Nat => gFi (gOt n K (gst N pl (gi2l (t : Int))) Z v nm T) sn = -1) i))), (8, .int (iv (gCo (fun t : Nat => gFi (gOt n K (gst N pl (gi2l (t : Int))) Z v nm T) sn = -1) i : Int))), (6, .long x0), (0, .ref (gad (gSS ad) 145)), (1, .int (iv (s : Int))), (2, .int (iv (f : Int))), (3, .int (iv (nm : Int))), (4, .int (iv (pl : Int))), (5, .int (iv le))]) dX10_numbersBy_70 0 rfl (by omega) (by decide) rfl ?_
        refine gg_goto (tgt := 20) dX10_numbersBy_73 (by decide) ?_
        rw [← gCo_f (P := (fun t : Nat => gFi (gOt n K (gst N pl (gi2l (t : Int))) Z v nm T) sn = -1)) hnp, ← gFi_s3 (P := (fun t : Nat => gFi (gOt n K (gst N pl (gi2l (t : Int))) Z v nm T) sn = -1)) hnp]
        refine ih (i + 1) I2 J1 (gst N pl (gi2l (i : Int))) (by omega) (by omega) (fun p hp => by rw [hI2 p hp]; exact hI p hp) (fun p hp => by rw [hJ1o p hp]; exact hJ p hp) (fun j hj => by rw [hJ1n j hj]; exact hJ2 j hj) (gMt_lo hf hM9 (fun p h1 h2 => hI2 p (by omega))) (fun j hj => by simp [gst, hj])

set_option maxRecDepth 10000 in
theorem c_X10_numbersBy {l : Launch} {Γ : gC} {ad : Nat → Nat} {I : Nat → Nat → Int} {J : Nat → Nat → Int64} {d : Nat} {f n : Nat} {K : Nat → Nat} {N : Nat → Int64} {Z : Nat → Nat} (hf : f < 12) (hM : gMt I J f n K N Z) (hW : gWf n K N Z) {s sn : Nat} {T v : Nat → Int} (hs : s < 4) (hsn : I 238 s = (sn : Int)) (hn2 : sn ≤ 20) (hTr : ∀ j, j < sn → -2147483648 ≤ T j ∧ T j ≤ 2147483647) (hv : I 186 = v) (hT : I (240 + s) = T) {nm pl : Nat} {le : Int} (hnm : nm < 8) (hpl : pl < n) (hk0 : K pl = 0) (hle : le = 0 ∨ le = 1) (hd : n + 5 ≤ d) : gKi l Γ gm_X10_numbersBy d [.ref (gad (gSS ad) 145), .int (iv (s : Int)), .int (iv (f : Int)), .int (iv (nm : Int)), .int (iv (pl : Int)), .int (iv le)] (gSS ad, I, J) (fun e μ => ∃ I' J', μ = (gSS ad, I', J') ∧ (∀ p, p ≠ 190 → I' p = I p) ∧ (∀ p, J' p = J p) ∧ e = (if le = 1 then gFi (fun t : Nat => gFi (gOt n K (gst N pl (gi2l (t : Int))) Z v nm T) sn = -1) 100 else (gCo (fun t : Nat => gFi (gOt n K (gst N pl (gi2l (t : Int))) Z v nm T) sn = -1) 100 : Int))) := by
  refine gKi_of gk_X10_numbersBy.1 (Nat.le_of_ble_eq_true rfl) ?_
  show gG l Γ gm_X10_numbersBy (d, 0, 0, 0, 0) 0 [(0, .ref (gad (gSS ad) 145)), (1, .int (iv (s : Int))), (2, .int (iv (f : Int))), (3, .int (iv (nm : Int))), (4, .int (iv (pl : Int))), (5, .int (iv le))] [] _ _
  refine gg_aload_n dX10_numbersBy_0 0 rfl ?_
  refine gg_getR (k' := 160) rfl gf_RX10_20 dX10_numbersBy_1 sh_145 pl_145 (by decide) (by decide) rr_145_2 ?_
  refine gg_iload_n dX10_numbersBy_4 2 rfl ?_
  refine gg_aaldj (t := 7) f (k' := (161 + f)) dX10_numbersBy_5 sh_160 (by decide) pl_160 (by decide) rfl hf (rr_160 hf) ?_
  refine gg_iload dX10_numbersBy_6 4 rfl ?_
  refine gg_laldj pl dX10_numbersBy_8 (rs_160 hf) (rl_160 hf) (by decide) rfl (by have := hW.1; omega) ?_
  refine gg_lstore (ls' := [(6, .long (J (161 + f) pl)), (0, .ref (gad (gSS ad) 145)), (1, .int (iv (s : Int))), (2, .int (iv (f : Int))), (3, .int (iv (nm : Int))), (4, .int (iv (pl : Int))), (5, .int (iv le))]) dX10_numbersBy_9 (by decide) rfl ?_
  refine gg_iconst dX10_numbersBy_11 ?_
  refine gg_istore (ls' := [(8, .int (iv 0)), (6, .long (J (161 + f) pl)), (0, .ref (gad (gSS ad) 145)), (1, .int (iv (s : Int))), (2, .int (iv (f : Int))), (3, .int (iv (nm : Int))), (4, .int (iv (pl : Int))), (5, .int (iv le))]) dX10_numbersBy_12 (by decide) rfl ?_
  refine gg_iconst dX10_numbersBy_14 ?_
  refine gg_istore (ls' := [(9, .int (iv (-1))), (8, .int (iv 0)), (6, .long (J (161 + f) pl)), (0, .ref (gad (gSS ad) 145)), (1, .int (iv (s : Int))), (2, .int (iv (f : Int))), (3, .int (iv (nm : Int))), (4, .int (iv (pl : Int))), (5, .int (iv le))]) dX10_numbersBy_15 (by decide) rfl ?_
  refine gg_iconst dX10_numbersBy_17 ?_
  refine gg_istore (ls' := [(10, .int (iv 0)), (9, .int (iv (-1))), (8, .int (iv 0)), (6, .long (J (161 + f) pl)), (0, .ref (gad (gSS ad) 145)), (1, .int (iv (s : Int))), (2, .int (iv (f : Int))), (3, .int (iv (nm : Int))), (4, .int (iv (pl : Int))), (5, .int (iv le))]) dX10_numbersBy_18 (by decide) rfl ?_
  refine gg_sub [0, 1, 2, 3, 4, 5, 6, 7, 8, 9] rfl ?_
  exact w_X10_numbersBy hf hW rfl hs hsn hn2 hTr hv hT hnm hpl hk0 hle hd 101 0 I J N (by omega) (by omega) (fun _ _ => rfl) (fun _ _ => rfl) (fun _ _ => rfl) hM (fun _ _ => rfl)

