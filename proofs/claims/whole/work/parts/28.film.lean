/-! drawn, sought of the reference; film on both sides -/
set_option maxRecDepth 10000 in
theorem w2_X10_worthDrawn {l : Launch} {Γ : gC} {ad : Nat → Nat} {I0 : Nat → Nat → Int} {J : Nat → Nat → Int64} {d : Nat} {f : Nat} {w : Int64} {z z2 : Int} (I1 : Nat → Nat → Int) (hv : ∀ q, q < 8 → I1 195 q = I0 186 q) (hI1 : ∀ p, p ≠ 186 → p ≠ 190 → p ≠ 195 → I1 p = I0 p) : ∀ (m : Nat) (i : Nat) (I : Nat → Nat → Int), 8 - i < m → (i ≤ 8) → (∀ p, p ≠ 186 → I p = I1 p) → (∀ q, q < i → I 186 q = I0 186 q) → gG l Γ gm_X10_worthDrawn (d, 0, 0, 0, 0) 69 [(6, .int (iv (i : Int))), (4, .long w), (0, .ref (gad (gSS ad) 145)), (1, .int (iv (f : Int))), (2, .int (iv z)), (3, .int (iv z2))] [] (gSS ad, I, J) (gDl (fun e μ => ∃ I', μ = (gSS ad, I', J) ∧ (∀ p, p ≠ 186 → p ≠ 190 → p ≠ 195 → I' p = I0 p) ∧ (∀ q, q < 8 → I' 186 q = I0 186 q) ∧ e = w)) := by
  intro m
  induction m with
  | zero => intros; omega
  | succ m ih =>
    intro i I hm hi hI hs
    refine gg_iload dX10_worthDrawn_69 0 rfl ?_
    refine gg_bipush dX10_worthDrawn_71 (by decide) ?_
    refine gg_icmp_ge (tgt := 96) dX10_worthDrawn_73 (by decide) (by omega) (fun hx => ?_) (fun hx => ?_)
    · have h8 : i = 8 := by omega
      refine gg_lload dX10_worthDrawn_96 1 rfl ?_
      refine gg_lretl dX10_worthDrawn_98 rfl ⟨rfl, rfl⟩ ?_
      exact ⟨I, rfl, fun p h1 h2 h3 => by rw [hI p h1, hI1 p h1 h2 h3], fun q hq => hs q (by omega), rfl⟩
    · have h8 : i < 8 := by omega
      refine gg_aload_n dX10_worthDrawn_76 2 rfl ?_
      refine gg_getR (k' := 186) rfl gf_RX10_26 dX10_worthDrawn_77 sh_145 pl_145 (by decide) (by decide) rr_145_4 ?_
      refine gg_iload dX10_worthDrawn_80 0 rfl ?_
      refine gg_aload_n dX10_worthDrawn_82 2 rfl ?_
      refine gg_getR (k' := 195) rfl gf_RX10_54 dX10_worthDrawn_83 sh_145 pl_145 (by decide) (by decide) rr_145_26 ?_
      refine gg_iload dX10_worthDrawn_86 0 rfl ?_
      refine gg_ialdj i dX10_worthDrawn_88 sh_195 pl_195 (by decide) rfl h8 ?_
      refine gg_iastj i dX10_worthDrawn_89 sh_186 pl_186 (by decide) rfl h8 ?_
      refine gg_memI (fun I2 hI2 => ?_)
      refine gg_iincv (ls' := [(6, .int (iv ((i + 1 : Nat) : Int))), (4, .long w), (0, .ref (gad (gSS ad) 145)), (1, .int (iv (f : Int))), (2, .int (iv z)), (3, .int (iv z2))]) dX10_worthDrawn_90 0 rfl (by omega) (by decide) rfl ?_
      refine gg_goto (tgt := 69) dX10_worthDrawn_93 (by decide) ?_
      refine ih (i + 1) I2 (by omega) (by omega) (fun p hp => by rw [hI2, gu_other hp]; exact hI p hp) (fun q hq => ?_)
      rw [hI2]
      by_cases hqi : q = i
      · rw [hqi, gu_s, hI 195 (by omega), hv i h8]
      · rw [gu_n (by omega)]
        exact hs q (by omega)

set_option maxRecDepth 10000 in
theorem w_X10_worthDrawn {l : Launch} {Γ : gC} {ad : Nat → Nat} {I0 : Nat → Nat → Int} {J : Nat → Nat → Int64} {d : Nat} {f n : Nat} {K : Nat → Nat} {N : Nat → Int64} {Z : Nat → Nat} (hf : f < 12) (hW : gWf n K N Z) (hn : 0 < n) (hM : gMt I0 J f n K N Z) {z : Int} (hd : n + 4 ≤ d) : ∀ (m : Nat) (i : Nat) (I : Nat → Nat → Int), 8 - i < m → (i ≤ 8) → (∀ p, p ≠ 186 → p ≠ 190 → p ≠ 195 → I p = I0 p) → (∀ q, q < i → I 195 q = I0 186 q) → (∀ q, q < i → I 186 q = gdr z q) → (∀ q, i ≤ q → I 186 q = I0 186 q) → gG l Γ gm_X10_worthDrawn (d, 0, 0, 0, 0) 5 [(4, .int (iv (i : Int))), (3, .int (iv (gzd z i))), (0, .ref (gad (gSS ad) 145)), (1, .int (iv (f : Int))), (2, .int (iv z))] [] (gSS ad, I, J) (gDl (fun e μ => ∃ I', μ = (gSS ad, I', J) ∧ (∀ p, p ≠ 186 → p ≠ 190 → p ≠ 195 → I' p = I0 p) ∧ (∀ q, q < 8 → I' 186 q = I0 186 q) ∧ e = gWo n K N Z (gdr z))) := by
  intro m
  induction m with
  | zero => intros; omega
  | succ m ih =>
    intro i I hm hi hI hv hs hr
    refine gg_iload dX10_worthDrawn_5 0 rfl ?_
    refine gg_bipush dX10_worthDrawn_7 (by decide) ?_
    refine gg_icmp_ge (tgt := 59) dX10_worthDrawn_9 (by decide) (by omega) (fun hx => ?_) (fun hx => ?_)
    · have h8 : i = 8 := by omega
      refine gg_aload_n dX10_worthDrawn_59 2 rfl ?_
      refine gg_iload_n dX10_worthDrawn_60 3 rfl ?_
      refine gg_callVl (own := RX10) (yt := gm_X10_worthNow) rfl gl_RX10_254 gk_X10_worthNow gr_X10_worthNow dX10_worthDrawn_61 (c_X10_worthNow (d := d - 1) hf (gMt_W hf hM hI) hW hn (by omega)) sh_145 pl_145 (by decide) rfl rfl rfl (Nat.le_of_ble_eq_true rfl) (by show _ ≤ d; omega) ⟨Nat.le_refl _, Nat.le_refl _⟩ (fun e1 μ' hc => ?_)
      obtain ⟨I2, rfl, rfl, hI2, hq2⟩ := hc
      refine gg_toL (b := gWo n K N Z (gdr z)) (gWo_v hW (fun q hq => hs q (by omega)) hn) ?_
      refine gg_lstore (ls' := [(4, .long (gWo n K N Z (gdr z))), (3, .int (iv (gzd z i))), (0, .ref (gad (gSS ad) 145)), (1, .int (iv (f : Int))), (2, .int (iv z))]) dX10_worthDrawn_64 (by decide) rfl ?_
      refine gg_iconst dX10_worthDrawn_66 ?_
      refine gg_istore (ls' := [(6, .int (iv 0)), (4, .long (gWo n K N Z (gdr z))), (3, .int (iv (gzd z i))), (0, .ref (gad (gSS ad) 145)), (1, .int (iv (f : Int))), (2, .int (iv z))]) dX10_worthDrawn_67 (by decide) rfl ?_
      refine gg_sub [0, 1, 3, 4, 5, 2] rfl ?_
      exact w2_X10_worthDrawn I2 (fun q hq => by rw [hI2 195 (by omega)]; exact hv q (by omega)) (fun p h1 h2 h3 => by rw [hI2 p h2, hI p h1 h2 h3]) 9 0 I2 (by omega) (by omega) (fun _ _ => rfl) (fun q hq => absurd hq (Nat.not_lt_zero _))
    · have h8 : i < 8 := by omega
      refine gg_aload_n dX10_worthDrawn_12 2 rfl ?_
      refine gg_getR (k' := 195) rfl gf_RX10_54 dX10_worthDrawn_13 sh_145 pl_145 (by decide) (by decide) rr_145_26 ?_
      refine gg_iload dX10_worthDrawn_16 0 rfl ?_
      refine gg_aload_n dX10_worthDrawn_18 2 rfl ?_
      refine gg_getR (k' := 186) rfl gf_RX10_26 dX10_worthDrawn_19 sh_145 pl_145 (by decide) (by decide) rr_145_4 ?_
      refine gg_iload dX10_worthDrawn_22 0 rfl ?_
      refine gg_ialdj i dX10_worthDrawn_24 sh_186 pl_186 (by decide) rfl h8 ?_
      refine gg_iastj i dX10_worthDrawn_25 sh_195 pl_195 (by decide) rfl h8 ?_
      refine gg_memI (fun I1 hI1 => ?_)
      refine gg_iload_n dX10_worthDrawn_26 1 rfl ?_
      refine gg_ldcw (a := 1103515245) rfl gq_RX10_337 dX10_worthDrawn_27 (by decide) ?_
      refine gg_imul dX10_worthDrawn_30 ?_
      refine gg_sipush dX10_worthDrawn_31 (by decide) ?_
      refine gg_iadd dX10_worthDrawn_34 ?_
      refine gg_toI (b := gzd z (i + 1)) rfl ?_
      refine gg_istore_n (ls' := [(3, .int (iv (gzd z (i + 1)))), (4, .int (iv (i : Int))), (0, .ref (gad (gSS ad) 145)), (1, .int (iv (f : Int))), (2, .int (iv z))]) dX10_worthDrawn_35 rfl (by decide) rfl ?_
      refine gg_aload_n dX10_worthDrawn_36 2 rfl ?_
      refine gg_getR (k' := 186) rfl gf_RX10_26 dX10_worthDrawn_37 sh_145 pl_145 (by decide) (by decide) rr_145_4 ?_
      refine gg_iload dX10_worthDrawn_40 1 rfl ?_
      refine gg_iload_n dX10_worthDrawn_42 0 rfl ?_
      refine gg_bipush dX10_worthDrawn_43 (by decide) ?_
      refine gg_iushr dX10_worthDrawn_45 ?_
      refine gg_bipush dX10_worthDrawn_46 (by decide) ?_
      refine gg_irem dX10_worthDrawn_48 (by have := gushr9 (gzd z (i + 1)); omega) ?_
      refine gg_bipush dX10_worthDrawn_49 (by decide) ?_
      refine gg_isub dX10_worthDrawn_51 ?_
      refine gg_iastj i dX10_worthDrawn_52 sh_186 pl_186 (by decide) rfl h8 ?_
      refine gg_memI (fun I2 hI2 => ?_)
      refine gg_iincv (ls' := [(4, .int (iv ((i + 1 : Nat) : Int))), (3, .int (iv (gzd z (i + 1)))), (0, .ref (gad (gSS ad) 145)), (1, .int (iv (f : Int))), (2, .int (iv z))]) dX10_worthDrawn_53 1 rfl (by omega) (by decide) rfl ?_
      refine gg_goto (tgt := 5) dX10_worthDrawn_56 (by decide) ?_
      refine ih (i + 1) I2 (by omega) (by omega) (fun p h1 h2 h3 => by rw [hI2, gu_other h1, hI1, gu_other h3]; exact hI p h1 h2 h3) (fun q hq => ?_) (fun q hq => ?_) (fun q hq => ?_)
      · rw [hI2, gu_other (by omega), hI1]
        by_cases hqi : q = i
        · rw [hqi, gu_s, hr i (by omega)]
        · rw [gu_n (by omega)]
          exact hv q (by omega)
      · rw [hI2]
        by_cases hqi : q = i
        · rw [hqi, gu_s]; rfl
        · rw [gu_n (by omega), hI1, gu_other (by omega)]
          exact hs q (by omega)
      · rw [hI2, gu_n (by omega), hI1, gu_other (by omega)]
        exact hr q (by omega)

set_option maxRecDepth 10000 in
theorem c_X10_worthDrawn {l : Launch} {Γ : gC} {ad : Nat → Nat} {I : Nat → Nat → Int} {J : Nat → Nat → Int64} {d : Nat} {f n : Nat} {K : Nat → Nat} {N : Nat → Int64} {Z : Nat → Nat} (hf : f < 12) (hM : gMt I J f n K N Z) (hW : gWf n K N Z) (hn : 0 < n) {z : Int} (hd : n + 4 ≤ d) : gKl l Γ gm_X10_worthDrawn d [.ref (gad (gSS ad) 145), .int (iv (f : Int)), .int (iv z)] (gSS ad, I, J) (fun e μ => ∃ I', μ = (gSS ad, I', J) ∧ (∀ p, p ≠ 186 → p ≠ 190 → p ≠ 195 → I' p = I p) ∧ (∀ q, q < 8 → I' 186 q = I 186 q) ∧ e = gWo n K N Z (gdr z)) := by
  refine gKl_of gk_X10_worthDrawn.1 (Nat.le_of_ble_eq_true rfl) ?_
  show gG l Γ gm_X10_worthDrawn (d, 0, 0, 0, 0) 0 [(0, .ref (gad (gSS ad) 145)), (1, .int (iv (f : Int))), (2, .int (iv z))] [] _ _
  refine gg_iload_n dX10_worthDrawn_0 2 rfl ?_
  refine gg_istore_n (ls' := [(3, .int (iv z)), (0, .ref (gad (gSS ad) 145)), (1, .int (iv (f : Int))), (2, .int (iv z))]) dX10_worthDrawn_1 rfl (by decide) rfl ?_
  refine gg_iconst dX10_worthDrawn_2 ?_
  refine gg_istore (ls' := [(4, .int (iv 0)), (3, .int (iv z)), (0, .ref (gad (gSS ad) 145)), (1, .int (iv (f : Int))), (2, .int (iv z))]) dX10_worthDrawn_3 (by decide) rfl ?_
  refine gg_sub [0, 1, 2, 3, 4] rfl ?_
  exact w_X10_worthDrawn hf hW hn hM hd 9 0 I (by omega) (by omega) (fun _ _ _ _ => rfl) (fun q hq => absurd hq (Nat.not_lt_zero _)) (fun q hq => absurd hq (Nat.not_lt_zero _)) (fun _ _ => rfl)

set_option maxRecDepth 10000 in
theorem c_X10_drawn {l : Launch} {Γ : gC} {ad : Nat → Nat} {I : Nat → Nat → Int} {J : Nat → Nat → Int64} {d : Nat} {f n : Nat} {K : Nat → Nat} {N : Nat → Int64} {Z : Nat → Nat} (hf : f < 12) (hM : gMt I J f n K N Z) (hW : gWf n K N Z) {z : Int} (hd : n + 6 ≤ d) : gKl l Γ gm_X10_drawn d [.ref (gad (gSS ad) 145), .int (iv (f : Int)), .int (iv z)] (gSS ad, I, J) (fun e μ => ∃ I', μ = (gSS ad, I', J) ∧ (∀ p, p ≠ 186 → p ≠ 190 → p ≠ 195 → I' p = I p) ∧ (∀ q, q < 8 → I' 186 q = I 186 q) ∧ e = (if n = 0 then -1000003 else gWo n K N Z (gdr z))) := by
  refine gKl_of gk_X10_drawn.1 (Nat.le_of_ble_eq_true rfl) ?_
  show gG l Γ gm_X10_drawn (d, 0, 0, 0, 0) 0 [(0, .ref (gad (gSS ad) 145)), (1, .int (iv (f : Int))), (2, .int (iv z))] [] _ _
  refine gg_aload_n dX10_drawn_0 0 rfl ?_
  refine gg_iload_n dX10_drawn_1 1 rfl ?_
  refine gg_callVi (own := RX10) (yt := gm_X10_refusal) rfl gl_RX10_247 gk_X10_refusal gr_X10_refusal dX10_drawn_2 (c_X10_refusal (d := d - 1) hf hM hW (by omega)) sh_145 pl_145 (by decide) rfl rfl rfl (Nat.le_of_ble_eq_true rfl) (by show _ ≤ d; omega) ⟨Nat.le_refl _, Nat.le_refl _⟩ (fun e1 μ' hc => ?_)
  obtain ⟨rfl, ⟨rfl, hn0⟩ | ⟨rfl, hn0⟩⟩ := hc
  · refine gg_istore_n (ls' := [(3, .int (iv (-3))), (0, .ref (gad (gSS ad) 145)), (1, .int (iv (f : Int))), (2, .int (iv z))]) dX10_drawn_5 rfl (by decide) rfl ?_
    refine gg_iload_n dX10_drawn_6 0 rfl ?_
    refine gg_if_eq_f (tgt := 17) dX10_drawn_7 (by decide) (by decide) (by decide) ?_
    refine gg_iload_n dX10_drawn_10 0 rfl ?_
    refine gg_callSl (own := RX10) (yt := gm_X10_asLong) rfl gl_RX10_250 gk_X10_asLong gr_X10_asLong dX10_drawn_11 (c_X10_asLong (d := d - 1) (i := (-3))) rfl rfl (Nat.le_of_ble_eq_true rfl) (by show _ ≤ d; omega) ⟨Nat.le_refl _, Nat.le_refl _⟩ (fun e2 μ' hc => ?_)
    obtain ⟨rfl, rfl⟩ := hc
    refine gg_goto (tgt := 23) dX10_drawn_14 (by decide) ?_
    refine gg_lretl dX10_drawn_23 rfl ⟨rfl, rfl⟩ ?_
    exact ⟨I, rfl, fun _ _ _ _ => rfl, fun _ _ => rfl, by rw [if_pos hn0]; decide⟩
  · refine gg_istore_n (ls' := [(3, .int (iv 0)), (0, .ref (gad (gSS ad) 145)), (1, .int (iv (f : Int))), (2, .int (iv z))]) dX10_drawn_5 rfl (by decide) rfl ?_
    refine gg_iload_n dX10_drawn_6 0 rfl ?_
    refine gg_if_eq_t (tgt := 17) dX10_drawn_7 (by decide) (by decide) (by decide) ?_
    refine gg_aload_n dX10_drawn_17 1 rfl ?_
    refine gg_iload_n dX10_drawn_18 2 rfl ?_
    refine gg_iload_n dX10_drawn_19 3 rfl ?_
    refine gg_callVl (own := RX10) (yt := gm_X10_worthDrawn) rfl gl_RX10_338 gk_X10_worthDrawn gr_X10_worthDrawn dX10_drawn_20 (c_X10_worthDrawn (d := d - 1) hf hM hW (by omega) (by omega)) sh_145 pl_145 (by decide) rfl rfl rfl (Nat.le_of_ble_eq_true rfl) (by show _ ≤ d; omega) ⟨Nat.le_refl _, Nat.le_refl _⟩ (fun e3 μ' hc => ?_)
    obtain ⟨I2, rfl, hI2, hv2, rfl⟩ := hc
    refine gg_lretl dX10_drawn_23 rfl ⟨rfl, rfl⟩ ?_
    exact ⟨I2, rfl, hI2, hv2, by rw [if_neg hn0]⟩

set_option maxRecDepth 10000 in
theorem c_X10_drawn_out {l : Launch} {Γ : gC} {ad : Nat → Nat} {I : Nat → Nat → Int} {J : Nat → Nat → Int64} {d : Nat} {i z : Int} (hi : -2147483648 ≤ i ∧ i ≤ 2147483647) (ho : ¬ (0 ≤ i ∧ i ≤ 11)) (hd : 3 ≤ d) : gKl l Γ gm_X10_drawn d [.ref (gad (gSS ad) 145), .int (iv i), .int (iv z)] (gSS ad, I, J) (fun e μ => μ = (gSS ad, I, J) ∧ e = -1000002) := by
  refine gKl_of gk_X10_drawn.1 (Nat.le_of_ble_eq_true rfl) ?_
  show gG l Γ gm_X10_drawn (d, 0, 0, 0, 0) 0 [(0, .ref (gad (gSS ad) 145)), (1, .int (iv i)), (2, .int (iv z))] [] _ _
  refine gg_aload_n dX10_drawn_0 0 rfl ?_
  refine gg_iload_n dX10_drawn_1 1 rfl ?_
  refine gg_callVi (own := RX10) (yt := gm_X10_refusal) rfl gl_RX10_247 gk_X10_refusal gr_X10_refusal dX10_drawn_2 (c_X10_refusal_out (d := d - 1) hi ho (by omega)) sh_145 pl_145 (by decide) rfl rfl rfl (Nat.le_of_ble_eq_true rfl) (by show _ ≤ d; omega) ⟨Nat.le_refl _, Nat.le_refl _⟩ (fun e1 μ' hc => ?_)
  obtain ⟨rfl, rfl⟩ := hc
  refine gg_istore_n (ls' := [(3, .int (iv (-2))), (0, .ref (gad (gSS ad) 145)), (1, .int (iv i)), (2, .int (iv z))]) dX10_drawn_5 rfl (by decide) rfl ?_
  refine gg_iload_n dX10_drawn_6 0 rfl ?_
  refine gg_if_eq_f (tgt := 17) dX10_drawn_7 (by decide) (by decide) (by decide) ?_
  refine gg_iload_n dX10_drawn_10 0 rfl ?_
  refine gg_callSl (own := RX10) (yt := gm_X10_asLong) rfl gl_RX10_250 gk_X10_asLong gr_X10_asLong dX10_drawn_11 (c_X10_asLong (d := d - 1) (i := (-2))) rfl rfl (Nat.le_of_ble_eq_true rfl) (by show _ ≤ d; omega) ⟨Nat.le_refl _, Nat.le_refl _⟩ (fun e2 μ' hc => ?_)
  obtain ⟨rfl, rfl⟩ := hc
  refine gg_goto (tgt := 23) dX10_drawn_14 (by decide) ?_
  refine gg_lretl dX10_drawn_23 rfl ⟨rfl, rfl⟩ ?_
  exact ⟨rfl, by decide⟩

set_option maxRecDepth 10000 in
theorem w_X10_sought {l : Launch} {Γ : gC} {ad : Nat → Nat} {I0 : Nat → Nat → Int} {J : Nat → Nat → Int64} {d : Nat} {f n : Nat} {K : Nat → Nat} {N : Nat → Int64} {Z : Nat → Nat} (hf : f < 12) (hW : gWf n K N Z) (hn : 0 < n) (hM : gMt I0 J f n K N Z) {nm m0 : Nat} {low w what : Int} (hnm : nm < 8) (hm1 : 1 ≤ m0) (hm2 : m0 ≤ 100) (hwh : what = 0 ∨ what = 1) (hd : n + 4 ≤ d) : ∀ (m : Nat) (i : Nat) (I : Nat → Nat → Int), m0 - i < m → (i ≤ m0) → (∀ p, p ≠ 186 → p ≠ 190 → p ≠ 195 → I p = I0 p) → (∀ q, q < 8 → q ≠ nm → I 186 q = I0 186 q) → gG l Γ gm_X10_sought (d, 0, 0, 0, 0) 67 [(10, .int (iv (i : Int))), (9, .int (iv (if gFi (fun k : Nat => gWo n K N Z (gup (I0 186) nm (low + k)) = gi2l w) i = -1 then 0 else low + gFi (fun k : Nat => gWo n K N Z (gup (I0 186) nm (low + k)) = gi2l w) i))), (8, .int (iv (gCo (fun k : Nat => gWo n K N Z (gup (I0 186) nm (low + k)) = gi2l w) i : Int))), (7, .int (iv (I0 186 nm))), (0, .ref (gad (gSS ad) 145)), (1, .int (iv (f : Int))), (2, .int (iv (nm : Int))), (3, .int (iv low)), (4, .int (iv (m0 : Int))), (5, .int (iv w)), (6, .int (iv what))] [] (gSS ad, I, J) (gDi (fun e μ => ∃ I', μ = (gSS ad, I', J) ∧ (∀ p, p ≠ 186 → p ≠ 190 → p ≠ 195 → I' p = I0 p) ∧ (∀ q, q < 8 → I' 186 q = I0 186 q) ∧ e = (if what = 0 then (gCo (fun k : Nat => gWo n K N Z (gup (I0 186) nm (low + k)) = gi2l w) m0 : Int) else if gFi (fun k : Nat => gWo n K N Z (gup (I0 186) nm (low + k)) = gi2l w) m0 = -1 then 0 else low + gFi (fun k : Nat => gWo n K N Z (gup (I0 186) nm (low + k)) = gi2l w) m0))) := by
  intro m
  induction m with
  | zero => intros; omega
  | succ m ih =>
    intro i I hm hi hI hs
    refine gg_iload dX10_sought_67 0 rfl ?_
    refine gg_iload dX10_sought_69 8 rfl ?_
    refine gg_icmp_ge (tgt := 124) dX10_sought_71 (by decide) (by omega) (fun hx => ?_) (fun hx => ?_)
    · have h8 : i = m0 := by omega
      refine gg_aload_n dX10_sought_124 4 rfl ?_
      refine gg_getR (k' := 186) rfl gf_RX10_26 dX10_sought_125 sh_145 pl_145 (by decide) (by decide) rr_145_4 ?_
      refine gg_iload_n dX10_sought_128 6 rfl ?_
      refine gg_iload dX10_sought_129 3 rfl ?_
      refine gg_iastj nm dX10_sought_131 sh_186 pl_186 (by decide) rfl hnm ?_
      refine gg_memI (fun I3 hI3 => ?_)
      have hv3 : ∀ q, q < 8 → I3 186 q = I0 186 q := by
        intro q hq
        rw [hI3]
        by_cases hqn : q = nm
        · rw [hqn, gu_s]
        · rw [gu_n (by omega), hs q hq hqn]
      refine gg_iload dX10_sought_132 10 rfl ?_
      refine gg_if_ne (tgt := 142) dX10_sought_134 (by decide) (by omega) (fun hw => ?_) (fun hw => ?_)
      · refine gg_iload dX10_sought_142 1 rfl ?_
        refine gg_ireti dX10_sought_144 rfl ⟨rfl, rfl⟩ ?_
        subst h8
        refine ⟨I3, rfl, fun p h1 h2 h3 => by rw [hI3, gu_other h1]; exact hI p h1 h2 h3, hv3, ?_⟩
        first | rw [if_pos (show what = 0 by omega)] | rw [if_neg (show ¬ what = 0 by omega)]
      · refine gg_iload dX10_sought_137 2 rfl ?_
        refine gg_goto (tgt := 144) dX10_sought_139 (by decide) ?_
        refine gg_ireti dX10_sought_144 rfl ⟨rfl, rfl⟩ ?_
        subst h8
        refine ⟨I3, rfl, fun p h1 h2 h3 => by rw [hI3, gu_other h1]; exact hI p h1 h2 h3, hv3, ?_⟩
        first | rw [if_pos (show what = 0 by omega)] | rw [if_neg (show ¬ what = 0 by omega)]
    · have h8 : i < m0 := by omega
      have hcl := gCo_le (fun k : Nat => gWo n K N Z (gup (I0 186) nm (low + k)) = gi2l w) i
      have hco := gFi_co (P := (fun k : Nat => gWo n K N Z (gup (I0 186) nm (low + k)) = gi2l w)) i
      refine gg_aload_n dX10_sought_74 4 rfl ?_
      refine gg_getR (k' := 186) rfl gf_RX10_26 dX10_sought_75 sh_145 pl_145 (by decide) (by decide) rr_145_4 ?_
      refine gg_iload_n dX10_sought_78 6 rfl ?_
      refine gg_iload_n dX10_sought_79 7 rfl ?_
      refine gg_iload dX10_sought_80 0 rfl ?_
      refine gg_iadd dX10_sought_82 ?_
      refine gg_iastj nm dX10_sought_83 sh_186 pl_186 (by decide) rfl hnm ?_
      refine gg_memI (fun I1 hI1 => ?_)
      have hup : ∀ q, q < 8 → I1 186 q = gup (I0 186) nm (low + (i : Int)) q := by
        intro q hq
        rw [hI1]
        by_cases hqn : q = nm
        · rw [hqn, gu_s]; simp [gup]
        · rw [gu_n (by omega), hs q hq hqn]; simp [gup, hqn]
      have hI1o : ∀ p, p ≠ 186 → p ≠ 190 → p ≠ 195 → I1 p = I0 p := fun p h1 h2 h3 => by rw [hI1, gu_other h1]; exact hI p h1 h2 h3
      clear hI1
      refine gg_aload_n dX10_sought_84 4 rfl ?_
      refine gg_iload_n dX10_sought_85 5 rfl ?_
      refine gg_callVl (own := RX10) (yt := gm_X10_worthNow) rfl gl_RX10_254 gk_X10_worthNow gr_X10_worthNow dX10_sought_86 (c_X10_worthNow (d := d - 1) hf (gMt_W hf hM hI1o) hW hn (by omega)) sh_145 pl_145 (by decide) rfl rfl rfl (Nat.le_of_ble_eq_true rfl) (by show _ ≤ d; omega) ⟨Nat.le_refl _, Nat.le_refl _⟩ (fun e1 μ' hc => ?_)
      obtain ⟨I2, rfl, rfl, hI2, hq2⟩ := hc
      refine gg_toL (b := gWo n K N Z (gup (I0 186) nm (low + (i : Int)))) (gWo_v hW hup hn) ?_
      refine gg_iload dX10_sought_89 9 rfl ?_
      refine gg_i2l dX10_sought_91 ?_
      refine gg_lcmp_eq (tgt := 99) dX10_sought_92 dX10_sought_93 (by decide) (fun hb => ?_) (fun hb => ?_)
      · refine gg_iload dX10_sought_99 2 rfl ?_
        refine gg_if_ne (tgt := 111) dX10_sought_101 (by decide) (by omega) (fun hc => ?_) (fun hc => ?_)
        · refine gg_iload dX10_sought_111 1 rfl ?_
          refine gg_toI (b := (if gFi (fun k : Nat => gWo n K N Z (gup (I0 186) nm (low + k)) = gi2l w) (i + 1) = -1 then 0 else low + gFi (fun k : Nat => gWo n K N Z (gup (I0 186) nm (low + k)) = gi2l w) (i + 1))) (by rw [gFi_s2 (P := (fun k : Nat => gWo n K N Z (gup (I0 186) nm (low + k)) = gi2l w)) (fun hh => hc (by rw [hco.1 hh]; rfl))]) ?_
          refine gg_istore (ls' := [(9, .int (iv (if gFi (fun k : Nat => gWo n K N Z (gup (I0 186) nm (low + k)) = gi2l w) (i + 1) = -1 then 0 else low + gFi (fun k : Nat => gWo n K N Z (gup (I0 186) nm (low + k)) = gi2l w) (i + 1)))), (10, .int (iv (i : Int))), (8, .int (iv (gCo (fun k : Nat => gWo n K N Z (gup (I0 186) nm (low + k)) = gi2l w) i : Int))), (7, .int (iv (I0 186 nm))), (0, .ref (gad (gSS ad) 145)), (1, .int (iv (f : Int))), (2, .int (iv (nm : Int))), (3, .int (iv low)), (4, .int (iv (m0 : Int))), (5, .int (iv w)), (6, .int (iv what))]) dX10_sought_113 (by decide) rfl ?_
          refine gg_iincv (ls' := [(8, .int (iv (gCo (fun k : Nat => gWo n K N Z (gup (I0 186) nm (low + k)) = gi2l w) (i + 1) : Int))), (9, .int (iv (if gFi (fun k : Nat => gWo n K N Z (gup (I0 186) nm (low + k)) = gi2l w) (i + 1) = -1 then 0 else low + gFi (fun k : Nat => gWo n K N Z (gup (I0 186) nm (low + k)) = gi2l w) (i + 1)))), (10, .int (iv (i : Int))), (7, .int (iv (I0 186 nm))), (0, .ref (gad (gSS ad) 145)), (1, .int (iv (f : Int))), (2, .int (iv (nm : Int))), (3, .int (iv low)), (4, .int (iv (m0 : Int))), (5, .int (iv w)), (6, .int (iv what))]) dX10_sought_115 2 rfl (by rw [gCo_t (P := (fun k : Nat => gWo n K N Z (gup (I0 186) nm (low + k)) = gi2l w)) hb]; rfl) (by decide) rfl ?_
          refine gg_iincv (ls' := [(10, .int (iv ((i + 1 : Nat) : Int))), (8, .int (iv (gCo (fun k : Nat => gWo n K N Z (gup (I0 186) nm (low + k)) = gi2l w) (i + 1) : Int))), (9, .int (iv (if gFi (fun k : Nat => gWo n K N Z (gup (I0 186) nm (low + k)) = gi2l w) (i + 1) = -1 then 0 else low + gFi (fun k : Nat => gWo n K N Z (gup (I0 186) nm (low + k)) = gi2l w) (i + 1)))), (7, .int (iv (I0 186 nm))), (0, .ref (gad (gSS ad) 145)), (1, .int (iv (f : Int))), (2, .int (iv (nm : Int))), (3, .int (iv low)), (4, .int (iv (m0 : Int))), (5, .int (iv w)), (6, .int (iv what))]) dX10_sought_118 2 rfl (by omega) (by decide) rfl ?_
          refine gg_goto (tgt := 67) dX10_sought_121 (by decide) ?_
          refine gg_sub [0, 2, 1, 3, 4, 5, 6, 7, 8, 9, 10] rfl ?_
          refine ih (i + 1) I2 (by omega) (by omega) (fun p h1 h2 h3 => by rw [hI2 p h2, hI1o p h1 h2 h3]) (fun q hq hqn => by rw [hI2 186 (by omega), hup q hq]; simp [gup, hqn])
        · refine gg_iload_n dX10_sought_104 7 rfl ?_
          refine gg_iload dX10_sought_105 0 rfl ?_
          refine gg_iadd dX10_sought_107 ?_
          refine gg_toI (b := (if gFi (fun k : Nat => gWo n K N Z (gup (I0 186) nm (low + k)) = gi2l w) (i + 1) = -1 then 0 else low + gFi (fun k : Nat => gWo n K N Z (gup (I0 186) nm (low + k)) = gi2l w) (i + 1))) (by rw [gFi_s (P := (fun k : Nat => gWo n K N Z (gup (I0 186) nm (low + k)) = gi2l w)) (hco.2 (by omega)) hb, if_neg (by omega)]) ?_
          refine gg_goto (tgt := 113) dX10_sought_108 (by decide) ?_
          refine gg_istore (ls' := [(9, .int (iv (if gFi (fun k : Nat => gWo n K N Z (gup (I0 186) nm (low + k)) = gi2l w) (i + 1) = -1 then 0 else low + gFi (fun k : Nat => gWo n K N Z (gup (I0 186) nm (low + k)) = gi2l w) (i + 1)))), (10, .int (iv (i : Int))), (8, .int (iv (gCo (fun k : Nat => gWo n K N Z (gup (I0 186) nm (low + k)) = gi2l w) i : Int))), (7, .int (iv (I0 186 nm))), (0, .ref (gad (gSS ad) 145)), (1, .int (iv (f : Int))), (2, .int (iv (nm : Int))), (3, .int (iv low)), (4, .int (iv (m0 : Int))), (5, .int (iv w)), (6, .int (iv what))]) dX10_sought_113 (by decide) rfl ?_
          refine gg_iincv (ls' := [(8, .int (iv (gCo (fun k : Nat => gWo n K N Z (gup (I0 186) nm (low + k)) = gi2l w) (i + 1) : Int))), (9, .int (iv (if gFi (fun k : Nat => gWo n K N Z (gup (I0 186) nm (low + k)) = gi2l w) (i + 1) = -1 then 0 else low + gFi (fun k : Nat => gWo n K N Z (gup (I0 186) nm (low + k)) = gi2l w) (i + 1)))), (10, .int (iv (i : Int))), (7, .int (iv (I0 186 nm))), (0, .ref (gad (gSS ad) 145)), (1, .int (iv (f : Int))), (2, .int (iv (nm : Int))), (3, .int (iv low)), (4, .int (iv (m0 : Int))), (5, .int (iv w)), (6, .int (iv what))]) dX10_sought_115 2 rfl (by rw [gCo_t (P := (fun k : Nat => gWo n K N Z (gup (I0 186) nm (low + k)) = gi2l w)) hb]; rfl) (by decide) rfl ?_
          refine gg_iincv (ls' := [(10, .int (iv ((i + 1 : Nat) : Int))), (8, .int (iv (gCo (fun k : Nat => gWo n K N Z (gup (I0 186) nm (low + k)) = gi2l w) (i + 1) : Int))), (9, .int (iv (if gFi (fun k : Nat => gWo n K N Z (gup (I0 186) nm (low + k)) = gi2l w) (i + 1) = -1 then 0 else low + gFi (fun k : Nat => gWo n K N Z (gup (I0 186) nm (low + k)) = gi2l w) (i + 1)))), (7, .int (iv (I0 186 nm))), (0, .ref (gad (gSS ad) 145)), (1, .int (iv (f : Int))), (2, .int (iv (nm : Int))), (3, .int (iv low)), (4, .int (iv (m0 : Int))), (5, .int (iv w)), (6, .int (iv what))]) dX10_sought_118 2 rfl (by omega) (by decide) rfl ?_
          refine gg_goto (tgt := 67) dX10_sought_121 (by decide) ?_
          refine gg_sub [0, 2, 1, 3, 4, 5, 6, 7, 8, 9, 10] rfl ?_
          refine ih (i + 1) I2 (by omega) (by omega) (fun p h1 h2 h3 => by rw [hI2 p h2, hI1o p h1 h2 h3]) (fun q hq hqn => by rw [hI2 186 (by omega), hup q hq]; simp [gup, hqn])
      · refine gg_goto (tgt := 118) dX10_sought_96 (by decide) ?_
        refine gg_iincv (ls' := [(10, .int (iv ((i + 1 : Nat) : Int))), (9, .int (iv (if gFi (fun k : Nat => gWo n K N Z (gup (I0 186) nm (low + k)) = gi2l w) i = -1 then 0 else low + gFi (fun k : Nat => gWo n K N Z (gup (I0 186) nm (low + k)) = gi2l w) i))), (8, .int (iv (gCo (fun k : Nat => gWo n K N Z (gup (I0 186) nm (low + k)) = gi2l w) i : Int))), (7, .int (iv (I0 186 nm))), (0, .ref (gad (gSS ad) 145)), (1, .int (iv (f : Int))), (2, .int (iv (nm : Int))), (3, .int (iv low)), (4, .int (iv (m0 : Int))), (5, .int (iv w)), (6, .int (iv what))]) dX10_sought_118 0 rfl (by omega) (by decide) rfl ?_
        refine gg_goto (tgt := 67) dX10_sought_121 (by decide) ?_
        rw [← gCo_f (P := (fun k : Nat => gWo n K N Z (gup (I0 186) nm (low + k)) = gi2l w)) hb, ← gFi_s3 (P := (fun k : Nat => gWo n K N Z (gup (I0 186) nm (low + k)) = gi2l w)) hb]
        refine ih (i + 1) I2 (by omega) (by omega) (fun p h1 h2 h3 => by rw [hI2 p h2, hI1o p h1 h2 h3]) (fun q hq hqn => by rw [hI2 186 (by omega), hup q hq]; simp [gup, hqn])

set_option maxRecDepth 10000 in
theorem c_X10_sought {l : Launch} {Γ : gC} {ad : Nat → Nat} {I : Nat → Nat → Int} {J : Nat → Nat → Int64} {d : Nat} {f n : Nat} {K : Nat → Nat} {N : Nat → Int64} {Z : Nat → Nat} (hf : f < 12) (hM : gMt I J f n K N Z) (hW : gWf n K N Z) {nm m0 : Nat} {low w what : Int} (hnm : nm < 8) (hm1 : 1 ≤ m0) (hm2 : m0 ≤ 100) (hwh : what = 0 ∨ what = 1) (hd : n + 5 ≤ d) : gKi l Γ gm_X10_sought d [.ref (gad (gSS ad) 145), .int (iv (f : Int)), .int (iv (nm : Int)), .int (iv low), .int (iv (m0 : Int)), .int (iv w), .int (iv what)] (gSS ad, I, J) (fun e μ => (n = 0 ∧ μ = (gSS ad, I, J) ∧ e = -3) ∨ (0 < n ∧ ∃ I', μ = (gSS ad, I', J) ∧ (∀ p, p ≠ 186 → p ≠ 190 → p ≠ 195 → I' p = I p) ∧ (∀ q, q < 8 → I' 186 q = I 186 q) ∧ e = (if what = 0 then (gCo (fun k : Nat => gWo n K N Z (gup (I 186) nm (low + k)) = gi2l w) m0 : Int) else if gFi (fun k : Nat => gWo n K N Z (gup (I 186) nm (low + k)) = gi2l w) m0 = -1 then 0 else low + gFi (fun k : Nat => gWo n K N Z (gup (I 186) nm (low + k)) = gi2l w) m0))) := by
  refine gKi_of gk_X10_sought.1 (Nat.le_of_ble_eq_true rfl) ?_
  show gG l Γ gm_X10_sought (d, 0, 0, 0, 0) 0 [(0, .ref (gad (gSS ad) 145)), (1, .int (iv (f : Int))), (2, .int (iv (nm : Int))), (3, .int (iv low)), (4, .int (iv (m0 : Int))), (5, .int (iv w)), (6, .int (iv what))] [] _ _
  refine gg_iload_n dX10_sought_0 1 rfl ?_
  refine gg_callSi (own := RX10) (yt := gm_X10_isFormula) rfl gl_RX10_181 gk_X10_isFormula gr_X10_isFormula dX10_sought_1 (c_X10_isFormula (d := d - 1) (by omega) (by omega)) rfl rfl (Nat.le_of_ble_eq_true rfl) (by show _ ≤ d; omega) ⟨Nat.le_refl _, Nat.le_refl _⟩ (fun e1 μ' hc => ?_)
  obtain ⟨rfl, ⟨rfl, hb2⟩ | ⟨rfl, hb2⟩⟩ := hc
  rotate_left
  · omega
  refine gg_if_eq_f (tgt := 35) dX10_sought_4 (by decide) (by decide) (by decide) ?_
  refine gg_iload_n dX10_sought_7 2 rfl ?_
  refine gg_callSi (own := RX10) (yt := gm_X10_isName) rfl gl_RX10_189 gk_X10_isName gr_X10_isName dX10_sought_8 (c_X10_isName (d := d - 1) (by omega) (by omega)) rfl rfl (Nat.le_of_ble_eq_true rfl) (by show _ ≤ d; omega) ⟨Nat.le_refl _, Nat.le_refl _⟩ (fun e3 μ' hc => ?_)
  obtain ⟨rfl, ⟨rfl, hb4⟩ | ⟨rfl, hb4⟩⟩ := hc
  rotate_left
  · omega
  refine gg_if_eq_f (tgt := 35) dX10_sought_11 (by decide) (by decide) (by decide) ?_
  refine gg_iload dX10_sought_14 4 rfl ?_
  refine gg_iconst dX10_sought_16 ?_
  refine gg_bipush dX10_sought_17 (by decide) ?_
  refine gg_callSi (own := RX10) (yt := gm_X10_in) rfl gl_RX10_84 gk_X10_in gr_X10_in dX10_sought_19 (c_X10_in (d := d - 1) (by omega)) rfl rfl (Nat.le_of_ble_eq_true rfl) (by show _ ≤ d; omega) ⟨Nat.le_refl _, Nat.le_refl _⟩ (fun e5 μ' hc => ?_)
  obtain ⟨rfl, ⟨rfl, hb6⟩ | ⟨rfl, hb6⟩⟩ := hc
  rotate_left
  · omega
  refine gg_if_eq_f (tgt := 35) dX10_sought_22 (by decide) (by decide) (by decide) ?_
  refine gg_iload dX10_sought_25 6 rfl ?_
  refine gg_iconst dX10_sought_27 ?_
  refine gg_iconst dX10_sought_28 ?_
  refine gg_callSi (own := RX10) (yt := gm_X10_in) rfl gl_RX10_84 gk_X10_in gr_X10_in dX10_sought_29 (c_X10_in (d := d - 1) (by omega)) rfl rfl (Nat.le_of_ble_eq_true rfl) (by show _ ≤ d; omega) ⟨Nat.le_refl _, Nat.le_refl _⟩ (fun e7 μ' hc => ?_)
  obtain ⟨rfl, ⟨rfl, hb8⟩ | ⟨rfl, hb8⟩⟩ := hc
  rotate_left
  · omega
  refine gg_if_ne_t (tgt := 38) dX10_sought_32 (by decide) (by decide) (by decide) ?_
  refine gg_aload_n dX10_sought_38 0 rfl ?_
  refine gg_getR (k' := 146) rfl gf_RX10_9 dX10_sought_39 sh_145 pl_145 (by decide) (by decide) rr_145_0 ?_
  refine gg_iload_n dX10_sought_42 1 rfl ?_
  refine gg_ialdj f dX10_sought_43 sh_146 pl_146 (by decide) rfl hf ?_
  refine gg_toI (b := (n : Int)) hM.1 ?_
  refine gg_if_ne (tgt := 50) dX10_sought_44 (by decide) (by have := hW.1; omega) (fun hn0 => ?_) (fun hn0 => ?_)
  · refine gg_aload_n dX10_sought_50 0 rfl ?_
    refine gg_getR (k' := 186) rfl gf_RX10_26 dX10_sought_51 sh_145 pl_145 (by decide) (by decide) rr_145_4 ?_
    refine gg_iload_n dX10_sought_54 2 rfl ?_
    refine gg_ialdj nm dX10_sought_55 sh_186 pl_186 (by decide) rfl hnm ?_
    refine gg_istore (ls' := [(7, .int (iv (I 186 nm))), (0, .ref (gad (gSS ad) 145)), (1, .int (iv (f : Int))), (2, .int (iv (nm : Int))), (3, .int (iv low)), (4, .int (iv (m0 : Int))), (5, .int (iv w)), (6, .int (iv what))]) dX10_sought_56 (by decide) rfl ?_
    refine gg_iconst dX10_sought_58 ?_
    refine gg_istore (ls' := [(8, .int (iv 0)), (7, .int (iv (I 186 nm))), (0, .ref (gad (gSS ad) 145)), (1, .int (iv (f : Int))), (2, .int (iv (nm : Int))), (3, .int (iv low)), (4, .int (iv (m0 : Int))), (5, .int (iv w)), (6, .int (iv what))]) dX10_sought_59 (by decide) rfl ?_
    refine gg_iconst dX10_sought_61 ?_
    refine gg_istore (ls' := [(9, .int (iv 0)), (8, .int (iv 0)), (7, .int (iv (I 186 nm))), (0, .ref (gad (gSS ad) 145)), (1, .int (iv (f : Int))), (2, .int (iv (nm : Int))), (3, .int (iv low)), (4, .int (iv (m0 : Int))), (5, .int (iv w)), (6, .int (iv what))]) dX10_sought_62 (by decide) rfl ?_
    refine gg_iconst dX10_sought_64 ?_
    refine gg_istore (ls' := [(10, .int (iv 0)), (9, .int (iv 0)), (8, .int (iv 0)), (7, .int (iv (I 186 nm))), (0, .ref (gad (gSS ad) 145)), (1, .int (iv (f : Int))), (2, .int (iv (nm : Int))), (3, .int (iv low)), (4, .int (iv (m0 : Int))), (5, .int (iv w)), (6, .int (iv what))]) dX10_sought_65 (by decide) rfl ?_
    refine gg_sub [0, 1, 2, 3, 4, 5, 6, 7, 8, 9, 10] rfl ?_
    refine gG_post (w_X10_sought hf hW (by omega) hM hnm hm1 hm2 hwh (by omega) (m0 + 1) 0 I (by omega) (by omega) (fun _ _ _ _ => rfl) (fun _ _ _ => rfl)) ?_
    rintro r μ ⟨e, rfl, I3, rfl, hI3, hv3, he⟩
    exact ⟨e, rfl, Or.inr ⟨by omega, I3, rfl, hI3, hv3, he⟩⟩
  · refine gg_bipush dX10_sought_47 (by decide) ?_
    refine gg_ireti dX10_sought_49 rfl ⟨rfl, rfl⟩ ?_
    exact Or.inl ⟨by omega, rfl, rfl⟩

set_option maxRecDepth 10000 in
theorem c_X10_sought_out {l : Launch} {Γ : gC} {ad : Nat → Nat} {I : Nat → Nat → Int} {J : Nat → Nat → Int64} {d : Nat} {i nm low m0 w what : Int} (hi : -2147483648 ≤ i ∧ i ≤ 2147483647) (hnm : -2147483648 ≤ nm ∧ nm ≤ 2147483647) (hm0 : -2147483648 ≤ m0 ∧ m0 ≤ 2147483647) (hwh : -2147483648 ≤ what ∧ what ≤ 2147483647) (ho : ¬ (0 ≤ i ∧ i ≤ 11 ∧ 0 ≤ nm ∧ nm ≤ 7 ∧ 1 ≤ m0 ∧ m0 ≤ 100 ∧ 0 ≤ what ∧ what ≤ 1)) (hd : 3 ≤ d) : gKi l Γ gm_X10_sought d [.ref (gad (gSS ad) 145), .int (iv i), .int (iv nm), .int (iv low), .int (iv m0), .int (iv w), .int (iv what)] (gSS ad, I, J) (fun e μ => μ = (gSS ad, I, J) ∧ e = -2) := by
  refine gKi_of gk_X10_sought.1 (Nat.le_of_ble_eq_true rfl) ?_
  show gG l Γ gm_X10_sought (d, 0, 0, 0, 0) 0 [(0, .ref (gad (gSS ad) 145)), (1, .int (iv i)), (2, .int (iv nm)), (3, .int (iv low)), (4, .int (iv m0)), (5, .int (iv w)), (6, .int (iv what))] [] _ _
  refine gg_iload_n dX10_sought_0 1 rfl ?_
  refine gg_callSi (own := RX10) (yt := gm_X10_isFormula) rfl gl_RX10_181 gk_X10_isFormula gr_X10_isFormula dX10_sought_1 (c_X10_isFormula (d := d - 1) (by omega) (by omega)) rfl rfl (Nat.le_of_ble_eq_true rfl) (by show _ ≤ d; omega) ⟨Nat.le_refl _, Nat.le_refl _⟩ (fun e1 μ' hc => ?_)
  obtain ⟨rfl, ⟨rfl, hb2⟩ | ⟨rfl, hb2⟩⟩ := hc
  · refine gg_if_eq_f (tgt := 35) dX10_sought_4 (by decide) (by decide) (by decide) ?_
    refine gg_iload_n dX10_sought_7 2 rfl ?_
    refine gg_callSi (own := RX10) (yt := gm_X10_isName) rfl gl_RX10_189 gk_X10_isName gr_X10_isName dX10_sought_8 (c_X10_isName (d := d - 1) (by omega) (by omega)) rfl rfl (Nat.le_of_ble_eq_true rfl) (by show _ ≤ d; omega) ⟨Nat.le_refl _, Nat.le_refl _⟩ (fun e3 μ' hc => ?_)
    obtain ⟨rfl, ⟨rfl, hb4⟩ | ⟨rfl, hb4⟩⟩ := hc
    · refine gg_if_eq_f (tgt := 35) dX10_sought_11 (by decide) (by decide) (by decide) ?_
      refine gg_iload dX10_sought_14 4 rfl ?_
      refine gg_iconst dX10_sought_16 ?_
      refine gg_bipush dX10_sought_17 (by decide) ?_
      refine gg_callSi (own := RX10) (yt := gm_X10_in) rfl gl_RX10_84 gk_X10_in gr_X10_in dX10_sought_19 (c_X10_in (d := d - 1) (by omega)) rfl rfl (Nat.le_of_ble_eq_true rfl) (by show _ ≤ d; omega) ⟨Nat.le_refl _, Nat.le_refl _⟩ (fun e5 μ' hc => ?_)
      obtain ⟨rfl, ⟨rfl, hb6⟩ | ⟨rfl, hb6⟩⟩ := hc
      · refine gg_if_eq_f (tgt := 35) dX10_sought_22 (by decide) (by decide) (by decide) ?_
        refine gg_iload dX10_sought_25 6 rfl ?_
        refine gg_iconst dX10_sought_27 ?_
        refine gg_iconst dX10_sought_28 ?_
        refine gg_callSi (own := RX10) (yt := gm_X10_in) rfl gl_RX10_84 gk_X10_in gr_X10_in dX10_sought_29 (c_X10_in (d := d - 1) (by omega)) rfl rfl (Nat.le_of_ble_eq_true rfl) (by show _ ≤ d; omega) ⟨Nat.le_refl _, Nat.le_refl _⟩ (fun e7 μ' hc => ?_)
        obtain ⟨rfl, ⟨rfl, hb8⟩ | ⟨rfl, hb8⟩⟩ := hc
        · refine gg_if_ne_t (tgt := 38) dX10_sought_32 (by decide) (by decide) (by decide) ?_
          exfalso
          omega
        · refine gg_if_ne_f (tgt := 38) dX10_sought_32 (by decide) (by decide) (by decide) ?_
          refine gg_bipush dX10_sought_35 (by decide) ?_
          refine gg_ireti dX10_sought_37 rfl ⟨rfl, rfl⟩ ?_
          exact ⟨rfl, rfl⟩
      · refine gg_if_eq_t (tgt := 35) dX10_sought_22 (by decide) (by decide) (by decide) ?_
        refine gg_bipush dX10_sought_35 (by decide) ?_
        refine gg_ireti dX10_sought_37 rfl ⟨rfl, rfl⟩ ?_
        exact ⟨rfl, rfl⟩
    · refine gg_if_eq_t (tgt := 35) dX10_sought_11 (by decide) (by decide) (by decide) ?_
      refine gg_bipush dX10_sought_35 (by decide) ?_
      refine gg_ireti dX10_sought_37 rfl ⟨rfl, rfl⟩ ?_
      exact ⟨rfl, rfl⟩
  · refine gg_if_eq_t (tgt := 35) dX10_sought_4 (by decide) (by decide) (by decide) ?_
    refine gg_bipush dX10_sought_35 (by decide) ?_
    refine gg_ireti dX10_sought_37 rfl ⟨rfl, rfl⟩ ?_
    exact ⟨rfl, rfl⟩

theorem gAt_lo {I I' : Nat → Nat → Int} {J J' : Nat → Nat → Int64} {f n : Nat} {K : Nat → Nat} {N : Nat → Int64} {Z : Nat → Nat} (hf : f < 12) (h : gAt I J (41 + 8 * f) n K N Z) (hI : ∀ p, 41 ≤ p → p < 137 → I' p = I p) (hJ : ∀ p, 41 ≤ p → p < 137 → J' p = J p) : gAt I' J' (41 + 8 * f) n K N Z := gAt_same h (hI _ (by omega) (by omega)) (hI _ (by omega) (by omega)) (hJ _ (by omega) (by omega)) (hI _ (by omega) (by omega))
theorem gMt_lo {I I' : Nat → Nat → Int} {J : Nat → Nat → Int64} {f n : Nat} {K : Nat → Nat} {N : Nat → Int64} {Z : Nat → Nat} (hf : f < 12) (h : gMt I J f n K N Z) (hI : ∀ p, 146 ≤ p → p < 186 → I' p = I p) : gMt I' J f n K N Z := by
  refine ⟨by rw [hI 146 (by omega) (by omega)]; exact h.1, fun j hj => ?_⟩
  rw [hI (148 + f) (by omega) (by omega), hI (174 + f) (by omega) (by omega)]
  exact h.2 j hj
set_option maxRecDepth 10000 in
theorem w_X9_film {l : Launch} {Γ : gC} {ad : Nat → Nat} {I0 : Nat → Nat → Int} {J0 : Nat → Nat → Int64} {d : Nat} {f n : Nat} {K : Nat → Nat} {N : Nat → Int64} {Z : Nat → Nat} (hf : f < 12) (hW : gWf n K N Z) (hn : 0 < n) (hA : gAt I0 J0 (41 + 8 * f) n K N Z) {s nm m0 : Nat} (hs0 : s < 4) (hnm : nm < 8) (hm2 : m0 ≤ 20) (hd : 5 ≤ d) : ∀ (m : Nat) (i : Nat) (I : Nat → Nat → Int) (J : Nat → Nat → Int64), m0 - i < m → (i ≤ m0) → (∀ p, p ≠ 7 → p ≠ 137 + 2 * s → p ≠ 138 + 2 * s → I p = I0 p) → (∀ p, p ≠ 26 → J p = J0 p) → (∀ q, q < 8 → q ≠ nm → I 7 q = I0 3 q) → (I (137 + 2 * s) 1 = 1) → (I (137 + 2 * s) 2 = (m0 : Int)) → (∀ t, t < i → I (138 + 2 * s) t = gl2i (gWo n K N Z (gup (I0 3) nm (t : Int)))) → gG l Γ gm_X9_film (d, 0, 0, 0, 0) 73 [(8, .int (iv (i : Int))), (7, .ref (gad (gSS ad) (137 + 2 * s))), (0, .ref (gad (gSS ad) 0)), (1, .int (iv (s : Int))), (2, .int (iv (f : Int))), (3, .int (iv (nm : Int))), (4, .int (iv (m0 : Int)))] [] (gSS ad, I, J) (gDi (fun e μ => ∃ I' J', μ = (gSS ad, I', J') ∧ (∀ p, p ≠ 7 → p ≠ 137 + 2 * s → p ≠ 138 + 2 * s → I' p = I0 p) ∧ (∀ p, p ≠ 26 → J' p = J0 p) ∧ I' (137 + 2 * s) 1 = 1 ∧ I' (137 + 2 * s) 2 = (m0 : Int) ∧ (∀ t, t < m0 → I' (138 + 2 * s) t = gl2i (gWo n K N Z (gup (I0 3) nm (t : Int)))) ∧ e = (m0 : Int))) := by
  intro m
  induction m with
  | zero => intros; omega
  | succ m ih =>
    intro i I J hm hi hI hJ hs hso hsn ht
    refine gg_iload dX9_film_73 0 rfl ?_
    refine gg_iload dX9_film_75 6 rfl ?_
    refine gg_icmp_ge (tgt := 119) dX9_film_77 (by decide) (by omega) (fun hx => ?_) (fun hx => ?_)
    · have h8 : i = m0 := by omega
      subst h8
      refine gg_iload dX9_film_119 6 rfl ?_
      refine gg_ireti dX9_film_121 rfl ⟨rfl, rfl⟩ ?_
      exact ⟨I, J, rfl, hI, hJ, hso, hsn, ht, rfl⟩
    · have h8 : i < m0 := by omega
      refine gg_aload_n dX9_film_80 2 rfl ?_
      refine gg_getR (k' := 7) rfl gf_RX9_34 dX9_film_81 sh_0 pl_0 (by decide) (by decide) rr_0_7 ?_
      refine gg_iload_n dX9_film_84 5 rfl ?_
      refine gg_iload dX9_film_85 0 rfl ?_
      refine gg_iastj nm dX9_film_87 sh_7 pl_7 (by decide) rfl hnm ?_
      refine gg_memI (fun I1 hI1 => ?_)
      have hup : ∀ q, q < 8 → I1 7 q = gup (I0 3) nm (i : Int) q := by
        intro q hq
        rw [hI1]
        by_cases hqn : q = nm
        · rw [hqn, gu_s]; simp [gup]
        · rw [gu_n (by omega), hs q hq hqn]; simp [gup, hqn]
      have hI1o : ∀ p, p ≠ 7 → I1 p = I p := fun p hp => by rw [hI1, gu_other hp]
      clear hI1
      refine gg_aload dX9_film_88 1 rfl ?_
      refine gg_iload dX9_film_90 0 rfl ?_
      refine gg_aload_n dX9_film_92 2 rfl ?_
      refine gg_getR (k' := 25) rfl gf_RX9_68 dX9_film_93 sh_0 pl_0 (by decide) (by decide) rr_0_12 ?_
      refine gg_aload_n dX9_film_96 2 rfl ?_
      refine gg_getR (k' := 1) rfl gf_RX9_11 dX9_film_97 sh_0 pl_0 (by decide) (by decide) rr_0_0 ?_
      refine gg_iload_n dX9_film_100 4 rfl ?_
      refine gg_aaldj (t := 4) f (k' := (41 + 8 * f)) dX9_film_101 sh_1 (by decide) pl_1 (by decide) rfl hf (rr_1 hf) ?_
      refine gg_aload_n dX9_film_102 2 rfl ?_
      refine gg_getR (k' := 7) rfl gf_RX9_34 dX9_film_103 sh_0 pl_0 (by decide) (by decide) rr_0_7 ?_
      refine gg_callVl (own := RX9) (yt := gm_X8_worthOf) rfl gl_RX9_172 gk_X8_worthOf gr_X8_worthOf dX9_film_106 (c_X8_worthOf (d := d - 1) (gF_fo f hf) (gAt_lo hf hA (fun p h1 h2 => by rw [hI1o p (by omega), hI p (by omega) (by omega) (by omega)]) (fun p h1 h2 => hJ p (by omega))) hW (p := 7) sh_7 pl_7 (by omega)) sh_25 pl_25 (by decide) rfl rfl rfl (Nat.le_of_ble_eq_true rfl) (by show _ ≤ d; omega) ⟨Nat.le_refl _, Nat.le_refl _⟩ (fun e1 μ' hc => ?_)
      obtain ⟨J2, rfl, hw2, rfl, hJ2⟩ := hc
      refine gg_toL (b := (gWo n K N Z (gup (I0 3) nm (i : Int)))) (gIsW_uni hW hup hw2 (gWc_is n K N Z _) 0 hn) ?_
      refine gg_l2i dX9_film_109 ?_
      refine gg_callVv (own := RX9) (yt := gm_X6_set) rfl gl_RX9_269 gk_X6_set gr_X6_set dX9_film_110 (c_X6_set (d := d - 1) hs0 (so := 1) (sn := m0) (by rw [hI1o _ (by omega)]; exact hso) (by rw [hI1o _ (by omega)]; exact hsn) (by omega) (by omega) h8) (gSt_sh hs0) (gSt_lt hs0) (by decide) rfl rfl rfl (Nat.le_of_ble_eq_true rfl) (by show _ ≤ d; omega) ⟨Nat.le_refl _, Nat.le_refl _⟩ (fun μ' hc => ?_)
      obtain rfl := hc
      refine gg_memI (fun I3 hI3 => ?_)
      refine gg_iincv (ls' := [(8, .int (iv ((i + 1 : Nat) : Int))), (7, .ref (gad (gSS ad) (137 + 2 * s))), (0, .ref (gad (gSS ad) 0)), (1, .int (iv (s : Int))), (2, .int (iv (f : Int))), (3, .int (iv (nm : Int))), (4, .int (iv (m0 : Int)))]) dX9_film_113 0 rfl (by omega) (by decide) rfl ?_
      refine gg_goto (tgt := 73) dX9_film_116 (by decide) ?_
      have hI3o : ∀ p, p ≠ 138 + 2 * s → I3 p = I1 p := fun p hp => by rw [hI3, gu_other hp]
      refine ih (i + 1) I3 J2 (by omega) (by omega) (fun p h1 h2 h3 => by rw [hI3o p h3, hI1o p h1, hI p h1 h2 h3]) (fun p hp => by rw [hJ2 p hp]; exact hJ p hp) (fun q hq hqn => by rw [hI3o 7 (by omega), hup q hq]; simp [gup, hqn]) (by rw [hI3o _ (by omega), hI1o _ (by omega)]; exact hso) (by rw [hI3o _ (by omega), hI1o _ (by omega)]; exact hsn) (fun t ht2 => ?_)
      rw [hI3]
      by_cases hti : t = i
      · rw [hti, gu_s, if_neg (by omega)]
      · rw [gu_n (by omega), hI1o _ (by omega)]
        exact ht t (by omega)

set_option maxRecDepth 10000 in
theorem c_X9_film {l : Launch} {Γ : gC} {ad : Nat → Nat} {I : Nat → Nat → Int} {J : Nat → Nat → Int64} {d : Nat} {f n : Nat} {K : Nat → Nat} {N : Nat → Int64} {Z : Nat → Nat} (hf : f < 12) (hA : gAt I J (41 + 8 * f) n K N Z) (hW : gWf n K N Z) {s nm m0 : Nat} (hs0 : s < 4) (hnm : nm < 8) (hm2 : m0 ≤ 20) (hd : 6 ≤ d) : gKi l Γ gm_X9_film d [.ref (gad (gSS ad) 0), .int (iv (s : Int)), .int (iv (f : Int)), .int (iv (nm : Int)), .int (iv (m0 : Int))] (gSS ad, I, J) (fun e μ => (n = 0 ∧ μ = (gSS ad, I, J) ∧ e = -3) ∨ (0 < n ∧ ∃ I' J', μ = (gSS ad, I', J') ∧ (∀ p, p ≠ 7 → p ≠ 137 + 2 * s → p ≠ 138 + 2 * s → I' p = I p) ∧ (∀ p, p ≠ 26 → J' p = J p) ∧ I' (137 + 2 * s) 1 = 1 ∧ I' (137 + 2 * s) 2 = (m0 : Int) ∧ (∀ t, t < m0 → I' (138 + 2 * s) t = gl2i (gWo n K N Z (gup (I 3) nm (t : Int)))) ∧ e = (m0 : Int))) := by
  refine gKi_of gk_X9_film.1 (Nat.le_of_ble_eq_true rfl) ?_
  show gG l Γ gm_X9_film (d, 0, 0, 0, 0) 0 [(0, .ref (gad (gSS ad) 0)), (1, .int (iv (s : Int))), (2, .int (iv (f : Int))), (3, .int (iv (nm : Int))), (4, .int (iv (m0 : Int)))] [] _ _
  refine gg_iload_n dX9_film_0 1 rfl ?_
  refine gg_callSi (own := RX9) (yt := gm_X9_isSheet) rfl gl_RX9_236 gk_X9_isSheet gr_X9_isSheet dX9_film_1 (c_X9_isSheet (d := d - 1) (by omega)) rfl rfl (Nat.le_of_ble_eq_true rfl) (by show _ ≤ d; omega) ⟨Nat.le_refl _, Nat.le_refl _⟩ (fun e1 μ' hc => ?_)
  obtain ⟨rfl, ⟨rfl, hb2⟩ | ⟨rfl, hb2⟩⟩ := hc
  rotate_left
  · omega
  refine gg_if_eq_f (tgt := 30) dX9_film_4 (by decide) (by decide) (by decide) ?_
  refine gg_iload_n dX9_film_7 3 rfl ?_
  refine gg_callSi (own := RX9) (yt := gm_X9_isName) rfl gl_RX9_122 gk_X9_isName gr_X9_isName dX9_film_8 (c_X9_isName (d := d - 1) (by omega)) rfl rfl (Nat.le_of_ble_eq_true rfl) (by show _ ≤ d; omega) ⟨Nat.le_refl _, Nat.le_refl _⟩ (fun e3 μ' hc => ?_)
  obtain ⟨rfl, ⟨rfl, hb4⟩ | ⟨rfl, hb4⟩⟩ := hc
  rotate_left
  · omega
  refine gg_if_eq_f (tgt := 30) dX9_film_11 (by decide) (by decide) (by decide) ?_
  refine gg_iload dX9_film_14 4 rfl ?_
  refine gg_if_lt_f (tgt := 30) dX9_film_16 (by decide) (by omega) (by omega) ?_
  refine gg_iload dX9_film_19 4 rfl ?_
  refine gg_bipush dX9_film_21 (by decide) ?_
  refine gg_icmp_gt_f (tgt := 30) dX9_film_23 (by decide) (by omega) (by omega) ?_
  refine gg_iconst dX9_film_26 ?_
  refine gg_goto (tgt := 31) dX9_film_27 (by decide) ?_
  refine gg_istore (ls' := [(5, .int (iv 1)), (0, .ref (gad (gSS ad) 0)), (1, .int (iv (s : Int))), (2, .int (iv (f : Int))), (3, .int (iv (nm : Int))), (4, .int (iv (m0 : Int)))]) dX9_film_31 (by decide) rfl ?_
  refine gg_aload_n dX9_film_33 1 rfl ?_
  refine gg_iload_n dX9_film_34 3 rfl ?_
  refine gg_iload dX9_film_35 0 rfl ?_
  refine gg_callVi (own := RX9) (yt := gm_X9_refusalOf) rfl gl_RX9_166 gk_X9_refusalOf gr_X9_refusalOf dX9_film_37 (c_X9_refusalOf (d := d - 1) hf hA hW (by omega)) sh_0 pl_0 (by decide) rfl rfl rfl (Nat.le_of_ble_eq_true rfl) (by show _ ≤ d; omega) ⟨Nat.le_refl _, Nat.le_refl _⟩ (fun e5 μ' hc => ?_)
  obtain ⟨rfl, ⟨rfl, hn0⟩ | ⟨rfl, hn0⟩⟩ := hc
  · refine gg_istore (ls' := [(6, .int (iv (-3))), (5, .int (iv 1)), (0, .ref (gad (gSS ad) 0)), (1, .int (iv (s : Int))), (2, .int (iv (f : Int))), (3, .int (iv (nm : Int))), (4, .int (iv (m0 : Int)))]) dX9_film_40 (by decide) rfl ?_
    refine gg_iload dX9_film_42 0 rfl ?_
    refine gg_if_eq_f (tgt := 50) dX9_film_44 (by decide) (by decide) (by decide) ?_
    refine gg_iload dX9_film_47 0 rfl ?_
    refine gg_ireti dX9_film_49 rfl ⟨rfl, rfl⟩ ?_
    exact Or.inl ⟨hn0, rfl, rfl⟩
  · refine gg_istore (ls' := [(6, .int (iv 0)), (5, .int (iv 1)), (0, .ref (gad (gSS ad) 0)), (1, .int (iv (s : Int))), (2, .int (iv (f : Int))), (3, .int (iv (nm : Int))), (4, .int (iv (m0 : Int)))]) dX9_film_40 (by decide) rfl ?_
    refine gg_iload dX9_film_42 0 rfl ?_
    refine gg_if_eq_t (tgt := 50) dX9_film_44 (by decide) (by decide) (by decide) ?_
    refine gg_aload_n dX9_film_50 2 rfl ?_
    refine gg_getR (k' := 5) rfl gf_RX9_27 dX9_film_51 sh_0 pl_0 (by decide) (by decide) rr_0_5 ?_
    refine gg_iload_n dX9_film_54 3 rfl ?_
    refine gg_aaldj (t := 5) s (k' := (137 + 2 * s)) dX9_film_55 sh_5 (by decide) pl_5 (by decide) rfl hs0 (rr_5 hs0) ?_
    refine gg_astore (ls' := [(7, .ref (gad (gSS ad) (137 + 2 * s))), (6, .int (iv 0)), (5, .int (iv 1)), (0, .ref (gad (gSS ad) 0)), (1, .int (iv (s : Int))), (2, .int (iv (f : Int))), (3, .int (iv (nm : Int))), (4, .int (iv (m0 : Int)))]) dX9_film_56 (by decide) rfl ?_
    refine gg_aload dX9_film_58 0 rfl ?_
    refine gg_iconst dX9_film_60 ?_
    refine gg_iload dX9_film_61 7 rfl ?_
    refine gg_callVv (own := RX9) (yt := gm_X6_begin) rfl gl_RX9_265 gk_X6_begin gr_X6_begin dX9_film_63 (c_X6_begin (d := d - 1) (so := 1) (n := m0) hs0 (by omega) (by omega)) (gSt_sh hs0) (gSt_lt hs0) (by decide) rfl rfl rfl (Nat.le_of_ble_eq_true rfl) (by show _ ≤ d; omega) ⟨Nat.le_refl _, Nat.le_refl _⟩ (fun μ' hc => ?_)
    obtain ⟨I2, rfl, hI2, hz2⟩ := hc
    refine gg_aload_n dX9_film_66 3 rfl ?_
    refine gg_callVv (own := RX9) (yt := gm_X9_supposeValues) rfl gl_RX9_226 gk_X9_supposeValues gr_X9_supposeValues dX9_film_67 (c_X9_supposeValues (d := d - 1) (by omega)) sh_0 pl_0 (by decide) rfl rfl rfl (Nat.le_of_ble_eq_true rfl) (by show _ ≤ d; omega) ⟨Nat.le_refl _, Nat.le_refl _⟩ (fun μ' hc => ?_)
    obtain ⟨I3, rfl, hI3, hs3⟩ := hc
    refine gg_iconst dX9_film_70 ?_
    refine gg_istore (ls' := [(8, .int (iv 0)), (7, .ref (gad (gSS ad) (137 + 2 * s))), (6, .int (iv 0)), (5, .int (iv 1)), (0, .ref (gad (gSS ad) 0)), (1, .int (iv (s : Int))), (2, .int (iv (f : Int))), (3, .int (iv (nm : Int))), (4, .int (iv (m0 : Int)))]) dX9_film_71 (by decide) rfl ?_
    have hI2o : ∀ p, p ≠ 137 + 2 * s → p ≠ 138 + 2 * s → I2 p = I p := fun p h1 h2 => by rw [hI2 p h2, gu_other h1, gu_other h1]
    refine gg_sub [0, 1, 4, 5, 6, 7, 8] rfl ?_
    refine gG_post (w_X9_film hf hW (by omega) (I0 := I3) (gAt_lo hf hA (fun p h1 h2 => by rw [hI3 p (by omega), hI2o p (by omega) (by omega)]) (fun _ _ _ => rfl)) hs0 hnm hm2 (by omega) (m0 + 1) 0 I3 J (by omega) (by omega) (fun _ _ _ _ => rfl) (fun _ _ => rfl) (fun q hq _ => by rw [hs3 q hq, hI3 3 (by omega)]) (by rw [hI3 _ (by omega), hI2 _ (by omega), gu_n (by omega), gu_s]) (by rw [hI3 _ (by omega), hI2 _ (by omega), gu_s]) (fun t ht => absurd ht (Nat.not_lt_zero _))) ?_
    rintro r μ ⟨e, rfl, I4, J4, rfl, h1, h2, h3, h4, h5, he⟩
    refine ⟨e, rfl, Or.inr ⟨by omega, I4, J4, rfl, fun p q1 q2 q3 => by rw [h1 p q1 q2 q3, hI3 p q1, hI2o p q2 q3], h2, h3, h4, fun t ht => ?_, he⟩⟩
    rw [h5 t ht, hI3 3 (by omega), hI2o 3 (by omega) (by omega)]

set_option maxRecDepth 10000 in
theorem c_X9_film_out {l : Launch} {Γ : gC} {ad : Nat → Nat} {I : Nat → Nat → Int} {J : Nat → Nat → Int64} {d : Nat} {i i2 nm m0 : Int} (hi : -2147483648 ≤ i ∧ i ≤ 2147483647) (hi2 : -2147483648 ≤ i2 ∧ i2 ≤ 2147483647) (hnm : -2147483648 ≤ nm ∧ nm ≤ 2147483647) (hm0 : -2147483648 ≤ m0 ∧ m0 ≤ 2147483647) (ho : ¬ (0 ≤ i2 ∧ i2 ≤ 3 ∧ 0 ≤ i ∧ i ≤ 11 ∧ 0 ≤ nm ∧ nm ≤ 7 ∧ 0 ≤ m0 ∧ m0 ≤ 20)) (hd : 3 ≤ d) : gKi l Γ gm_X9_film d [.ref (gad (gSS ad) 0), .int (iv i2), .int (iv i), .int (iv nm), .int (iv m0)] (gSS ad, I, J) (fun e μ => μ = (gSS ad, I, J) ∧ e = -2) := by
  refine gKi_of gk_X9_film.1 (Nat.le_of_ble_eq_true rfl) ?_
  show gG l Γ gm_X9_film (d, 0, 0, 0, 0) 0 [(0, .ref (gad (gSS ad) 0)), (1, .int (iv i2)), (2, .int (iv i)), (3, .int (iv nm)), (4, .int (iv m0))] [] _ _
  refine gg_iload_n dX9_film_0 1 rfl ?_
  refine gg_callSi (own := RX9) (yt := gm_X9_isSheet) rfl gl_RX9_236 gk_X9_isSheet gr_X9_isSheet dX9_film_1 (c_X9_isSheet (d := d - 1) (by omega)) rfl rfl (Nat.le_of_ble_eq_true rfl) (by show _ ≤ d; omega) ⟨Nat.le_refl _, Nat.le_refl _⟩ (fun e1 μ' hc => ?_)
  obtain ⟨rfl, ⟨rfl, hb2⟩ | ⟨rfl, hb2⟩⟩ := hc
  · refine gg_if_eq_f (tgt := 30) dX9_film_4 (by decide) (by decide) (by decide) ?_
    refine gg_iload_n dX9_film_7 3 rfl ?_
    refine gg_callSi (own := RX9) (yt := gm_X9_isName) rfl gl_RX9_122 gk_X9_isName gr_X9_isName dX9_film_8 (c_X9_isName (d := d - 1) (by omega)) rfl rfl (Nat.le_of_ble_eq_true rfl) (by show _ ≤ d; omega) ⟨Nat.le_refl _, Nat.le_refl _⟩ (fun e3 μ' hc => ?_)
    obtain ⟨rfl, ⟨rfl, hb4⟩ | ⟨rfl, hb4⟩⟩ := hc
    · refine gg_if_eq_f (tgt := 30) dX9_film_11 (by decide) (by decide) (by decide) ?_
      refine gg_iload dX9_film_14 4 rfl ?_
      refine gg_if_lt (tgt := 30) dX9_film_16 (by decide) (by omega) (fun hb5 => ?_) (fun hb5 => ?_)
      · refine gg_iconst dX9_film_30 ?_
        refine gg_istore (ls' := [(5, .int (iv 0)), (0, .ref (gad (gSS ad) 0)), (1, .int (iv i2)), (2, .int (iv i)), (3, .int (iv nm)), (4, .int (iv m0))]) dX9_film_31 (by decide) rfl ?_
        refine gg_aload_n dX9_film_33 1 rfl ?_
        refine gg_iload_n dX9_film_34 3 rfl ?_
        refine gg_iload dX9_film_35 0 rfl ?_
        refine gg_callVi (own := RX9) (yt := gm_X9_refusalOf) rfl gl_RX9_166 gk_X9_refusalOf gr_X9_refusalOf dX9_film_37 (c_X9_refusalOf_out (d := d - 1) (b := 0) (by omega) (by omega) (by omega) (by omega)) sh_0 pl_0 (by decide) rfl rfl rfl (Nat.le_of_ble_eq_true rfl) (by show _ ≤ d; omega) ⟨Nat.le_refl _, Nat.le_refl _⟩ (fun e6 μ' hc => ?_)
        obtain ⟨rfl, rfl⟩ := hc
        refine gg_istore (ls' := [(6, .int (iv (-2))), (5, .int (iv 0)), (0, .ref (gad (gSS ad) 0)), (1, .int (iv i2)), (2, .int (iv i)), (3, .int (iv nm)), (4, .int (iv m0))]) dX9_film_40 (by decide) rfl ?_
        refine gg_iload dX9_film_42 0 rfl ?_
        refine gg_if_eq_f (tgt := 50) dX9_film_44 (by decide) (by decide) (by decide) ?_
        refine gg_iload dX9_film_47 0 rfl ?_
        refine gg_ireti dX9_film_49 rfl ⟨rfl, rfl⟩ ?_
        exact ⟨rfl, rfl⟩
      · refine gg_iload dX9_film_19 4 rfl ?_
        refine gg_bipush dX9_film_21 (by decide) ?_
        refine gg_icmp_gt (tgt := 30) dX9_film_23 (by decide) (by omega) (fun hb7 => ?_) (fun hb7 => ?_)
        · refine gg_iconst dX9_film_30 ?_
          refine gg_istore (ls' := [(5, .int (iv 0)), (0, .ref (gad (gSS ad) 0)), (1, .int (iv i2)), (2, .int (iv i)), (3, .int (iv nm)), (4, .int (iv m0))]) dX9_film_31 (by decide) rfl ?_
          refine gg_aload_n dX9_film_33 1 rfl ?_
          refine gg_iload_n dX9_film_34 3 rfl ?_
          refine gg_iload dX9_film_35 0 rfl ?_
          refine gg_callVi (own := RX9) (yt := gm_X9_refusalOf) rfl gl_RX9_166 gk_X9_refusalOf gr_X9_refusalOf dX9_film_37 (c_X9_refusalOf_out (d := d - 1) (b := 0) (by omega) (by omega) (by omega) (by omega)) sh_0 pl_0 (by decide) rfl rfl rfl (Nat.le_of_ble_eq_true rfl) (by show _ ≤ d; omega) ⟨Nat.le_refl _, Nat.le_refl _⟩ (fun e8 μ' hc => ?_)
          obtain ⟨rfl, rfl⟩ := hc
          refine gg_istore (ls' := [(6, .int (iv (-2))), (5, .int (iv 0)), (0, .ref (gad (gSS ad) 0)), (1, .int (iv i2)), (2, .int (iv i)), (3, .int (iv nm)), (4, .int (iv m0))]) dX9_film_40 (by decide) rfl ?_
          refine gg_iload dX9_film_42 0 rfl ?_
          refine gg_if_eq_f (tgt := 50) dX9_film_44 (by decide) (by decide) (by decide) ?_
          refine gg_iload dX9_film_47 0 rfl ?_
          refine gg_ireti dX9_film_49 rfl ⟨rfl, rfl⟩ ?_
          exact ⟨rfl, rfl⟩
        · refine gg_iconst dX9_film_26 ?_
          refine gg_goto (tgt := 31) dX9_film_27 (by decide) ?_
          refine gg_istore (ls' := [(5, .int (iv 1)), (0, .ref (gad (gSS ad) 0)), (1, .int (iv i2)), (2, .int (iv i)), (3, .int (iv nm)), (4, .int (iv m0))]) dX9_film_31 (by decide) rfl ?_
          refine gg_aload_n dX9_film_33 1 rfl ?_
          refine gg_iload_n dX9_film_34 3 rfl ?_
          refine gg_iload dX9_film_35 0 rfl ?_
          refine gg_callVi (own := RX9) (yt := gm_X9_refusalOf) rfl gl_RX9_166 gk_X9_refusalOf gr_X9_refusalOf dX9_film_37 (c_X9_refusalOf_out (d := d - 1) (b := 1) (by omega) (by omega) (by omega) (by omega)) sh_0 pl_0 (by decide) rfl rfl rfl (Nat.le_of_ble_eq_true rfl) (by show _ ≤ d; omega) ⟨Nat.le_refl _, Nat.le_refl _⟩ (fun e9 μ' hc => ?_)
          obtain ⟨rfl, rfl⟩ := hc
          refine gg_istore (ls' := [(6, .int (iv (-2))), (5, .int (iv 1)), (0, .ref (gad (gSS ad) 0)), (1, .int (iv i2)), (2, .int (iv i)), (3, .int (iv nm)), (4, .int (iv m0))]) dX9_film_40 (by decide) rfl ?_
          refine gg_iload dX9_film_42 0 rfl ?_
          refine gg_if_eq_f (tgt := 50) dX9_film_44 (by decide) (by decide) (by decide) ?_
          refine gg_iload dX9_film_47 0 rfl ?_
          refine gg_ireti dX9_film_49 rfl ⟨rfl, rfl⟩ ?_
          exact ⟨rfl, rfl⟩
    · refine gg_if_eq_t (tgt := 30) dX9_film_11 (by decide) (by decide) (by decide) ?_
      refine gg_iconst dX9_film_30 ?_
      refine gg_istore (ls' := [(5, .int (iv 0)), (0, .ref (gad (gSS ad) 0)), (1, .int (iv i2)), (2, .int (iv i)), (3, .int (iv nm)), (4, .int (iv m0))]) dX9_film_31 (by decide) rfl ?_
      refine gg_aload_n dX9_film_33 1 rfl ?_
      refine gg_iload_n dX9_film_34 3 rfl ?_
      refine gg_iload dX9_film_35 0 rfl ?_
      refine gg_callVi (own := RX9) (yt := gm_X9_refusalOf) rfl gl_RX9_166 gk_X9_refusalOf gr_X9_refusalOf dX9_film_37 (c_X9_refusalOf_out (d := d - 1) (b := 0) (by omega) (by omega) (by omega) (by omega)) sh_0 pl_0 (by decide) rfl rfl rfl (Nat.le_of_ble_eq_true rfl) (by show _ ≤ d; omega) ⟨Nat.le_refl _, Nat.le_refl _⟩ (fun e10 μ' hc => ?_)
      obtain ⟨rfl, rfl⟩ := hc
      refine gg_istore (ls' := [(6, .int (iv (-2))), (5, .int (iv 0)), (0, .ref (gad (gSS ad) 0)), (1, .int (iv i2)), (2, .int (iv i)), (3, .int (iv nm)), (4, .int (iv m0))]) dX9_film_40 (by decide) rfl ?_
      refine gg_iload dX9_film_42 0 rfl ?_
      refine gg_if_eq_f (tgt := 50) dX9_film_44 (by decide) (by decide) (by decide) ?_
      refine gg_iload dX9_film_47 0 rfl ?_
      refine gg_ireti dX9_film_49 rfl ⟨rfl, rfl⟩ ?_
      exact ⟨rfl, rfl⟩
  · refine gg_if_eq_t (tgt := 30) dX9_film_4 (by decide) (by decide) (by decide) ?_
    refine gg_iconst dX9_film_30 ?_
    refine gg_istore (ls' := [(5, .int (iv 0)), (0, .ref (gad (gSS ad) 0)), (1, .int (iv i2)), (2, .int (iv i)), (3, .int (iv nm)), (4, .int (iv m0))]) dX9_film_31 (by decide) rfl ?_
    refine gg_aload_n dX9_film_33 1 rfl ?_
    refine gg_iload_n dX9_film_34 3 rfl ?_
    refine gg_iload dX9_film_35 0 rfl ?_
    refine gg_callVi (own := RX9) (yt := gm_X9_refusalOf) rfl gl_RX9_166 gk_X9_refusalOf gr_X9_refusalOf dX9_film_37 (c_X9_refusalOf_out (d := d - 1) (b := 0) (by omega) (by omega) (by omega) (by omega)) sh_0 pl_0 (by decide) rfl rfl rfl (Nat.le_of_ble_eq_true rfl) (by show _ ≤ d; omega) ⟨Nat.le_refl _, Nat.le_refl _⟩ (fun e11 μ' hc => ?_)
    obtain ⟨rfl, rfl⟩ := hc
    refine gg_istore (ls' := [(6, .int (iv (-2))), (5, .int (iv 0)), (0, .ref (gad (gSS ad) 0)), (1, .int (iv i2)), (2, .int (iv i)), (3, .int (iv nm)), (4, .int (iv m0))]) dX9_film_40 (by decide) rfl ?_
    refine gg_iload dX9_film_42 0 rfl ?_
    refine gg_if_eq_f (tgt := 50) dX9_film_44 (by decide) (by decide) (by decide) ?_
    refine gg_iload dX9_film_47 0 rfl ?_
    refine gg_ireti dX9_film_49 rfl ⟨rfl, rfl⟩ ?_
    exact ⟨rfl, rfl⟩

set_option maxRecDepth 10000 in
theorem w_X10_film {l : Launch} {Γ : gC} {ad : Nat → Nat} {I0 : Nat → Nat → Int} {J : Nat → Nat → Int64} {d : Nat} {f n : Nat} {K : Nat → Nat} {N : Nat → Int64} {Z : Nat → Nat} (hf : f < 12) (hW : gWf n K N Z) (hn : 0 < n) (hM : gMt I0 J f n K N Z) {s nm m0 : Nat} (hs0 : s < 4) (hnm : nm < 8) (hm2 : m0 ≤ 20) (hd : n + 4 ≤ d) : ∀ (m : Nat) (i : Nat) (I : Nat → Nat → Int), m0 - i < m → (i ≤ m0) → (∀ p, p ≠ 186 → p ≠ 190 → p ≠ 195 → p ≠ 237 → p ≠ 238 → p ≠ 240 + s → I p = I0 p) → (∀ q, q < 8 → q ≠ nm → I 186 q = I0 186 q) → (∀ q, I 237 q = if q = s then 1 else I0 237 q) → (∀ q, I 238 q = if q = s then (m0 : Int) else I0 238 q) → (∀ t, t < i → I (240 + s) t = gl2i (gWo n K N Z (gup (I0 186) nm (t : Int)))) → gG l Γ gm_X10_film (d, 0, 0, 0, 0) 73 [(6, .int (iv (i : Int))), (5, .int (iv (I0 186 nm))), (0, .ref (gad (gSS ad) 145)), (1, .int (iv (s : Int))), (2, .int (iv (f : Int))), (3, .int (iv (nm : Int))), (4, .int (iv (m0 : Int)))] [] (gSS ad, I, J) (gDi (fun e μ => ∃ I', μ = (gSS ad, I', J) ∧ (∀ p, p ≠ 186 → p ≠ 190 → p ≠ 195 → p ≠ 237 → p ≠ 238 → p ≠ 240 + s → I' p = I0 p) ∧ (∀ q, q < 8 → I' 186 q = I0 186 q) ∧ (∀ q, I' 237 q = if q = s then 1 else I0 237 q) ∧ (∀ q, I' 238 q = if q = s then (m0 : Int) else I0 238 q) ∧ (∀ t, t < m0 → I' (240 + s) t = gl2i (gWo n K N Z (gup (I0 186) nm (t : Int)))) ∧ e = (m0 : Int))) := by
  intro m
  induction m with
  | zero => intros; omega
  | succ m ih =>
    intro i I hm hi hI hs hso hsn ht
    refine gg_iload dX10_film_73 0 rfl ?_
    refine gg_iload dX10_film_75 6 rfl ?_
    refine gg_icmp_ge (tgt := 109) dX10_film_77 (by decide) (by omega) (fun hx => ?_) (fun hx => ?_)
    · have h8 : i = m0 := by omega
      refine gg_aload_n dX10_film_109 2 rfl ?_
      refine gg_getR (k' := 186) rfl gf_RX10_26 dX10_film_110 sh_145 pl_145 (by decide) (by decide) rr_145_4 ?_
      refine gg_iload_n dX10_film_113 5 rfl ?_
      refine gg_iload dX10_film_114 1 rfl ?_
      refine gg_iastj nm dX10_film_116 sh_186 pl_186 (by decide) rfl hnm ?_
      refine gg_memI (fun I3 hI3 => ?_)
      have hv3 : ∀ q, q < 8 → I3 186 q = I0 186 q := by
        intro q hq
        rw [hI3]
        by_cases hqn : q = nm
        · rw [hqn, gu_s]
        · rw [gu_n (by omega), hs q hq hqn]
      have hI3o : ∀ p, p ≠ 186 → I3 p = I p := fun p hp => by rw [hI3, gu_other hp]
      refine gg_iload dX10_film_117 6 rfl ?_
      refine gg_ireti dX10_film_119 rfl ⟨rfl, rfl⟩ ?_
      subst h8
      exact ⟨I3, rfl, fun p h1 h2 h3 h4 h5 h6 => by rw [hI3o p h1, hI p h1 h2 h3 h4 h5 h6], hv3, fun q => by rw [hI3o 237 (by omega)]; exact hso q, fun q => by rw [hI3o 238 (by omega)]; exact hsn q, fun t q => by rw [hI3o (240 + s) (by omega)]; exact ht t q, rfl⟩
    · have h8 : i < m0 := by omega
      refine gg_aload_n dX10_film_80 2 rfl ?_
      refine gg_getR (k' := 186) rfl gf_RX10_26 dX10_film_81 sh_145 pl_145 (by decide) (by decide) rr_145_4 ?_
      refine gg_iload_n dX10_film_84 5 rfl ?_
      refine gg_iload dX10_film_85 0 rfl ?_
      refine gg_iastj nm dX10_film_87 sh_186 pl_186 (by decide) rfl hnm ?_
      refine gg_memI (fun I1 hI1 => ?_)
      have hup : ∀ q, q < 8 → I1 186 q = gup (I0 186) nm (i : Int) q := by
        intro q hq
        rw [hI1]
        by_cases hqn : q = nm
        · rw [hqn, gu_s]; simp [gup]
        · rw [gu_n (by omega), hs q hq hqn]; simp [gup, hqn]
      have hI1o : ∀ p, p ≠ 186 → I1 p = I p := fun p hp => by rw [hI1, gu_other hp]
      clear hI1
      refine gg_aload_n dX10_film_88 2 rfl ?_
      refine gg_getR (k' := 239) rfl gf_RX10_78 dX10_film_89 sh_145 pl_145 (by decide) (by decide) rr_145_35 ?_
      refine gg_iload_n dX10_film_92 3 rfl ?_
      refine gg_aaldj (t := 6) s (k' := (240 + s)) dX10_film_93 sh_239 (by decide) pl_239 (by decide) rfl hs0 (rr_239 hs0) ?_
      refine gg_iload dX10_film_94 0 rfl ?_
      refine gg_aload_n dX10_film_96 2 rfl ?_
      refine gg_iload_n dX10_film_97 4 rfl ?_
      refine gg_callVl (own := RX10) (yt := gm_X10_worthNow) rfl gl_RX10_254 gk_X10_worthNow gr_X10_worthNow dX10_film_98 (c_X10_worthNow (d := d - 1) hf (gMt_lo hf hM (fun p h1 h2 => by rw [hI1o p (by omega), hI p (by omega) (by omega) (by omega) (by omega) (by omega) (by omega)])) hW hn (by omega)) sh_145 pl_145 (by decide) rfl rfl rfl (Nat.le_of_ble_eq_true rfl) (by show _ ≤ d; omega) ⟨Nat.le_refl _, Nat.le_refl _⟩ (fun e1 μ' hc => ?_)
      obtain ⟨I2, rfl, rfl, hI2, hq2⟩ := hc
      refine gg_toL (b := (gWo n K N Z (gup (I0 186) nm (i : Int)))) (gWo_v hW hup hn) ?_
      refine gg_l2i dX10_film_101 ?_
      refine gg_iastj i dX10_film_102 (rs_239 hs0) (rl_239 hs0) (by decide) rfl (by omega) ?_
      refine gg_memI (fun I3 hI3 => ?_)
      refine gg_iincv (ls' := [(6, .int (iv ((i + 1 : Nat) : Int))), (5, .int (iv (I0 186 nm))), (0, .ref (gad (gSS ad) 145)), (1, .int (iv (s : Int))), (2, .int (iv (f : Int))), (3, .int (iv (nm : Int))), (4, .int (iv (m0 : Int)))]) dX10_film_103 0 rfl (by omega) (by decide) rfl ?_
      refine gg_goto (tgt := 73) dX10_film_106 (by decide) ?_
      have hI3o : ∀ p, p ≠ 240 + s → I3 p = I2 p := fun p hp => by rw [hI3, gu_other hp]
      have hI3p : ∀ p, p ≠ 240 + s → p ≠ 186 → p ≠ 190 → I3 p = I p := fun p h1 h2 h3 => by rw [hI3o p h1, hI2 p h3, hI1o p h2]
      refine ih (i + 1) I3 (by omega) (by omega) (fun p h1 h2 h3 h4 h5 h6 => by rw [hI3p p h6 h1 h2, hI p h1 h2 h3 h4 h5 h6]) (fun q hq hqn => by rw [hI3o 186 (by omega), hI2 186 (by omega), hup q hq]; simp [gup, hqn]) (fun q => by rw [hI3p 237 (by omega) (by omega) (by omega)]; exact hso q) (fun q => by rw [hI3p 238 (by omega) (by omega) (by omega)]; exact hsn q) (fun t ht2 => ?_)
      rw [hI3]
      by_cases hti : t = i
      · rw [hti, gu_s]
      · rw [gu_n (by omega), hI2 _ (by omega), hI1o _ (by omega)]
        exact ht t (by omega)

set_option maxRecDepth 10000 in
theorem c_X10_film {l : Launch} {Γ : gC} {ad : Nat → Nat} {I : Nat → Nat → Int} {J : Nat → Nat → Int64} {d : Nat} {f n : Nat} {K : Nat → Nat} {N : Nat → Int64} {Z : Nat → Nat} (hf : f < 12) (hM : gMt I J f n K N Z) (hW : gWf n K N Z) {s nm m0 : Nat} (hs0 : s < 4) (hnm : nm < 8) (hm2 : m0 ≤ 20) (hd : n + 5 ≤ d) : gKi l Γ gm_X10_film d [.ref (gad (gSS ad) 145), .int (iv (s : Int)), .int (iv (f : Int)), .int (iv (nm : Int)), .int (iv (m0 : Int))] (gSS ad, I, J) (fun e μ => (n = 0 ∧ μ = (gSS ad, I, J) ∧ e = -3) ∨ (0 < n ∧ ∃ I', μ = (gSS ad, I', J) ∧ (∀ p, p ≠ 186 → p ≠ 190 → p ≠ 195 → p ≠ 237 → p ≠ 238 → p ≠ 240 + s → I' p = I p) ∧ (∀ q, q < 8 → I' 186 q = I 186 q) ∧ (∀ q, I' 237 q = if q = s then 1 else I 237 q) ∧ (∀ q, I' 238 q = if q = s then (m0 : Int) else I 238 q) ∧ (∀ t, t < m0 → I' (240 + s) t = gl2i (gWo n K N Z (gup (I 186) nm (t : Int)))) ∧ e = (m0 : Int))) := by
  refine gKi_of gk_X10_film.1 (Nat.le_of_ble_eq_true rfl) ?_
  show gG l Γ gm_X10_film (d, 0, 0, 0, 0) 0 [(0, .ref (gad (gSS ad) 145)), (1, .int (iv (s : Int))), (2, .int (iv (f : Int))), (3, .int (iv (nm : Int))), (4, .int (iv (m0 : Int)))] [] _ _
  refine gg_iload_n dX10_film_0 1 rfl ?_
  refine gg_callSi (own := RX10) (yt := gm_X10_isSheet) rfl gl_RX10_347 gk_X10_isSheet gr_X10_isSheet dX10_film_1 (c_X10_isSheet (d := d - 1) (by omega) (by omega)) rfl rfl (Nat.le_of_ble_eq_true rfl) (by show _ ≤ d; omega) ⟨Nat.le_refl _, Nat.le_refl _⟩ (fun e1 μ' hc => ?_)
  obtain ⟨rfl, ⟨rfl, hb2⟩ | ⟨rfl, hb2⟩⟩ := hc
  rotate_left
  · omega
  refine gg_if_eq_f (tgt := 32) dX10_film_4 (by decide) (by decide) (by decide) ?_
  refine gg_iload_n dX10_film_7 2 rfl ?_
  refine gg_callSi (own := RX10) (yt := gm_X10_isFormula) rfl gl_RX10_181 gk_X10_isFormula gr_X10_isFormula dX10_film_8 (c_X10_isFormula (d := d - 1) (by omega) (by omega)) rfl rfl (Nat.le_of_ble_eq_true rfl) (by show _ ≤ d; omega) ⟨Nat.le_refl _, Nat.le_refl _⟩ (fun e3 μ' hc => ?_)
  obtain ⟨rfl, ⟨rfl, hb4⟩ | ⟨rfl, hb4⟩⟩ := hc
  rotate_left
  · omega
  refine gg_if_eq_f (tgt := 32) dX10_film_11 (by decide) (by decide) (by decide) ?_
  refine gg_iload_n dX10_film_14 3 rfl ?_
  refine gg_callSi (own := RX10) (yt := gm_X10_isName) rfl gl_RX10_189 gk_X10_isName gr_X10_isName dX10_film_15 (c_X10_isName (d := d - 1) (by omega) (by omega)) rfl rfl (Nat.le_of_ble_eq_true rfl) (by show _ ≤ d; omega) ⟨Nat.le_refl _, Nat.le_refl _⟩ (fun e5 μ' hc => ?_)
  obtain ⟨rfl, ⟨rfl, hb6⟩ | ⟨rfl, hb6⟩⟩ := hc
  rotate_left
  · omega
  refine gg_if_eq_f (tgt := 32) dX10_film_18 (by decide) (by decide) (by decide) ?_
  refine gg_iload dX10_film_21 4 rfl ?_
  refine gg_iconst dX10_film_23 ?_
  refine gg_bipush dX10_film_24 (by decide) ?_
  refine gg_callSi (own := RX10) (yt := gm_X10_in) rfl gl_RX10_84 gk_X10_in gr_X10_in dX10_film_26 (c_X10_in (d := d - 1) (by omega)) rfl rfl (Nat.le_of_ble_eq_true rfl) (by show _ ≤ d; omega) ⟨Nat.le_refl _, Nat.le_refl _⟩ (fun e7 μ' hc => ?_)
  obtain ⟨rfl, ⟨rfl, hb8⟩ | ⟨rfl, hb8⟩⟩ := hc
  rotate_left
  · omega
  refine gg_if_ne_t (tgt := 35) dX10_film_29 (by decide) (by decide) (by decide) ?_
  refine gg_aload_n dX10_film_35 0 rfl ?_
  refine gg_getR (k' := 146) rfl gf_RX10_9 dX10_film_36 sh_145 pl_145 (by decide) (by decide) rr_145_0 ?_
  refine gg_iload_n dX10_film_39 2 rfl ?_
  refine gg_ialdj f dX10_film_40 sh_146 pl_146 (by decide) rfl hf ?_
  refine gg_toI (b := (n : Int)) hM.1 ?_
  refine gg_if_ne (tgt := 47) dX10_film_41 (by decide) (by have := hW.1; omega) (fun hn0 => ?_) (fun hn0 => ?_)
  · refine gg_aload_n dX10_film_47 0 rfl ?_
    refine gg_getR (k' := 237) rfl gf_RX10_72 dX10_film_48 sh_145 pl_145 (by decide) (by decide) rr_145_33 ?_
    refine gg_iload_n dX10_film_51 1 rfl ?_
    refine gg_iconst dX10_film_52 ?_
    refine gg_iastj s dX10_film_53 sh_237 pl_237 (by decide) rfl hs0 ?_
    refine gg_memI (fun I1 hI1 => ?_)
    refine gg_aload_n dX10_film_54 0 rfl ?_
    refine gg_getR (k' := 238) rfl gf_RX10_75 dX10_film_55 sh_145 pl_145 (by decide) (by decide) rr_145_34 ?_
    refine gg_iload_n dX10_film_58 1 rfl ?_
    refine gg_iload dX10_film_59 4 rfl ?_
    refine gg_iastj s dX10_film_61 sh_238 pl_238 (by decide) rfl hs0 ?_
    refine gg_memI (fun I2 hI2 => ?_)
    refine gg_aload_n dX10_film_62 0 rfl ?_
    refine gg_getR (k' := 186) rfl gf_RX10_26 dX10_film_63 sh_145 pl_145 (by decide) (by decide) rr_145_4 ?_
    refine gg_iload_n dX10_film_66 3 rfl ?_
    refine gg_ialdj nm dX10_film_67 sh_186 pl_186 (by decide) rfl hnm ?_
    refine gg_istore (ls' := [(5, .int (iv (I2 186 nm))), (0, .ref (gad (gSS ad) 145)), (1, .int (iv (s : Int))), (2, .int (iv (f : Int))), (3, .int (iv (nm : Int))), (4, .int (iv (m0 : Int)))]) dX10_film_68 (by decide) rfl ?_
    refine gg_iconst dX10_film_70 ?_
    refine gg_istore (ls' := [(6, .int (iv 0)), (5, .int (iv (I2 186 nm))), (0, .ref (gad (gSS ad) 145)), (1, .int (iv (s : Int))), (2, .int (iv (f : Int))), (3, .int (iv (nm : Int))), (4, .int (iv (m0 : Int)))]) dX10_film_71 (by decide) rfl ?_
    have hI2o : ∀ p, p ≠ 237 → p ≠ 238 → I2 p = I p := fun p h1 h2 => by rw [hI2, gu_other h2, hI1, gu_other h1]
    refine gg_sub [0, 1, 2, 3, 4, 5, 6] rfl ?_
    refine gG_post (w_X10_film hf hW (by omega) (I0 := I2) (gMt_lo hf hM (fun p h1 h2 => hI2o p (by omega) (by omega))) hs0 hnm hm2 (by omega) (m0 + 1) 0 I2 (by omega) (by omega) (fun _ _ _ _ _ _ _ => rfl) (fun _ _ _ => rfl) (fun q => by rw [hI2, gu_other (by omega), hI1]; by_cases hq : q = s <;> simp [gu, hq]) (fun q => by rw [hI2]; by_cases hq : q = s <;> simp [gu, hq]) (fun t ht => absurd ht (Nat.not_lt_zero _))) ?_
    rintro r μ ⟨e, rfl, I4, rfl, h1, h2, h3, h4, h5, he⟩
    refine ⟨e, rfl, Or.inr ⟨by omega, I4, rfl, fun p q1 q2 q3 q4 q5 q6 => by rw [h1 p q1 q2 q3 q4 q5 q6, hI2o p q4 q5], fun q hq => by rw [h2 q hq, hI2o 186 (by omega) (by omega)], fun q => ?_, fun q => ?_, fun t ht => ?_, he⟩⟩
    · rw [h3 q, hI2, gu_other (by omega), hI1]
      by_cases hq : q = s
      · rw [if_pos hq, if_pos hq]
      · rw [if_neg hq, if_neg hq, gu_n (by omega)]
    · rw [h4 q, hI2]
      by_cases hq : q = s
      · rw [if_pos hq, if_pos hq]
      · rw [if_neg hq, if_neg hq, gu_n (by omega), hI1, gu_other (by omega)]
    · rw [h5 t ht, hI2o 186 (by omega) (by omega)]
  · refine gg_bipush dX10_film_44 (by decide) ?_
    refine gg_ireti dX10_film_46 rfl ⟨rfl, rfl⟩ ?_
    exact Or.inl ⟨by omega, rfl, rfl⟩

set_option maxRecDepth 10000 in
theorem c_X10_film_out {l : Launch} {Γ : gC} {ad : Nat → Nat} {I : Nat → Nat → Int} {J : Nat → Nat → Int64} {d : Nat} {i i2 nm m0 : Int} (hi : -2147483648 ≤ i ∧ i ≤ 2147483647) (hi2 : -2147483648 ≤ i2 ∧ i2 ≤ 2147483647) (hnm : -2147483648 ≤ nm ∧ nm ≤ 2147483647) (hm0 : -2147483648 ≤ m0 ∧ m0 ≤ 2147483647) (ho : ¬ (0 ≤ i2 ∧ i2 ≤ 3 ∧ 0 ≤ i ∧ i ≤ 11 ∧ 0 ≤ nm ∧ nm ≤ 7 ∧ 0 ≤ m0 ∧ m0 ≤ 20)) (hd : 3 ≤ d) : gKi l Γ gm_X10_film d [.ref (gad (gSS ad) 145), .int (iv i2), .int (iv i), .int (iv nm), .int (iv m0)] (gSS ad, I, J) (fun e μ => μ = (gSS ad, I, J) ∧ e = -2) := by
  refine gKi_of gk_X10_film.1 (Nat.le_of_ble_eq_true rfl) ?_
  show gG l Γ gm_X10_film (d, 0, 0, 0, 0) 0 [(0, .ref (gad (gSS ad) 145)), (1, .int (iv i2)), (2, .int (iv i)), (3, .int (iv nm)), (4, .int (iv m0))] [] _ _
  refine gg_iload_n dX10_film_0 1 rfl ?_
  refine gg_callSi (own := RX10) (yt := gm_X10_isSheet) rfl gl_RX10_347 gk_X10_isSheet gr_X10_isSheet dX10_film_1 (c_X10_isSheet (d := d - 1) (by omega) (by omega)) rfl rfl (Nat.le_of_ble_eq_true rfl) (by show _ ≤ d; omega) ⟨Nat.le_refl _, Nat.le_refl _⟩ (fun e1 μ' hc => ?_)
  obtain ⟨rfl, ⟨rfl, hb2⟩ | ⟨rfl, hb2⟩⟩ := hc
  · refine gg_if_eq_f (tgt := 32) dX10_film_4 (by decide) (by decide) (by decide) ?_
    refine gg_iload_n dX10_film_7 2 rfl ?_
    refine gg_callSi (own := RX10) (yt := gm_X10_isFormula) rfl gl_RX10_181 gk_X10_isFormula gr_X10_isFormula dX10_film_8 (c_X10_isFormula (d := d - 1) (by omega) (by omega)) rfl rfl (Nat.le_of_ble_eq_true rfl) (by show _ ≤ d; omega) ⟨Nat.le_refl _, Nat.le_refl _⟩ (fun e3 μ' hc => ?_)
    obtain ⟨rfl, ⟨rfl, hb4⟩ | ⟨rfl, hb4⟩⟩ := hc
    · refine gg_if_eq_f (tgt := 32) dX10_film_11 (by decide) (by decide) (by decide) ?_
      refine gg_iload_n dX10_film_14 3 rfl ?_
      refine gg_callSi (own := RX10) (yt := gm_X10_isName) rfl gl_RX10_189 gk_X10_isName gr_X10_isName dX10_film_15 (c_X10_isName (d := d - 1) (by omega) (by omega)) rfl rfl (Nat.le_of_ble_eq_true rfl) (by show _ ≤ d; omega) ⟨Nat.le_refl _, Nat.le_refl _⟩ (fun e5 μ' hc => ?_)
      obtain ⟨rfl, ⟨rfl, hb6⟩ | ⟨rfl, hb6⟩⟩ := hc
      · refine gg_if_eq_f (tgt := 32) dX10_film_18 (by decide) (by decide) (by decide) ?_
        refine gg_iload dX10_film_21 4 rfl ?_
        refine gg_iconst dX10_film_23 ?_
        refine gg_bipush dX10_film_24 (by decide) ?_
        refine gg_callSi (own := RX10) (yt := gm_X10_in) rfl gl_RX10_84 gk_X10_in gr_X10_in dX10_film_26 (c_X10_in (d := d - 1) (by omega)) rfl rfl (Nat.le_of_ble_eq_true rfl) (by show _ ≤ d; omega) ⟨Nat.le_refl _, Nat.le_refl _⟩ (fun e7 μ' hc => ?_)
        obtain ⟨rfl, ⟨rfl, hb8⟩ | ⟨rfl, hb8⟩⟩ := hc
        · refine gg_if_ne_t (tgt := 35) dX10_film_29 (by decide) (by decide) (by decide) ?_
          exfalso
          omega
        · refine gg_if_ne_f (tgt := 35) dX10_film_29 (by decide) (by decide) (by decide) ?_
          refine gg_bipush dX10_film_32 (by decide) ?_
          refine gg_ireti dX10_film_34 rfl ⟨rfl, rfl⟩ ?_
          exact ⟨rfl, rfl⟩
      · refine gg_if_eq_t (tgt := 32) dX10_film_18 (by decide) (by decide) (by decide) ?_
        refine gg_bipush dX10_film_32 (by decide) ?_
        refine gg_ireti dX10_film_34 rfl ⟨rfl, rfl⟩ ?_
        exact ⟨rfl, rfl⟩
    · refine gg_if_eq_t (tgt := 32) dX10_film_11 (by decide) (by decide) (by decide) ?_
      refine gg_bipush dX10_film_32 (by decide) ?_
      refine gg_ireti dX10_film_34 rfl ⟨rfl, rfl⟩ ?_
      exact ⟨rfl, rfl⟩
  · refine gg_if_eq_t (tgt := 32) dX10_film_4 (by decide) (by decide) (by decide) ?_
    refine gg_bipush dX10_film_32 (by decide) ?_
    refine gg_ireti dX10_film_34 rfl ⟨rfl, rfl⟩ ?_
    exact ⟨rfl, rfl⟩

