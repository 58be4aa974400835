/-! the reference's text, whole -/
set_option maxRecDepth 10000 in
theorem c_X10_text {l : Launch} {Γ : gC} {ad : Nat → Nat} {I : Nat → Nat → Int} {J : Nat → Nat → Int64} {d : Nat} {f n : Nat} {K : Nat → Nat} {N : Nat → Int64} {Z : Nat → Nat} (hf : f < 12) (hM : gMt I J f n K N Z) (hW : gWf n K N Z) {T : Nat → Int} {m : Nat} (hT : gTq I T m) (hg : ∀ t q, gTxt T m = .inr (t, q) → gFo t 1 ∧ gNvs t) (hd : 60 ≤ d) : gKi l Γ gm_X10_text d [.ref (gad (gSS ad) 145), .int (iv (f : Int))] (gSS ad, I, J) (fun e μ => ∃ I1 J1, μ = (gSS ad, I1, J1) ∧ (∀ p, p ≠ 145 → p ≠ 187 → p ≠ 146 → p ≠ 148 + f → p ≠ 174 + f → I1 p = I p) ∧ (∀ q, q ≠ f → I1 146 q = I 146 q) ∧ (∀ k, k < 5 ∨ (7 ≤ k ∧ k ≤ 9) ∨ 17 ≤ k → I1 145 k = I 145 k) ∧ (∀ p, p ≠ 188 → p ≠ 161 + f → J1 p = J p) ∧ I1 145 10 = 0 ∧ ((∃ p : Nat, gTxt T m = .inl p ∧ e = -100 - (p : Int) ∧ gMt I1 J1 f n K N Z) ∨ (∃ (t : gLn) (q : Nat), gTxt T m = .inr (t, q) ∧ e = (t.length : Int) ∧ gMt I1 J1 f t.length (gRk t) (gRn t) (gZl t)))) := by
  refine gKi_of gk_X10_text.1 (Nat.le_of_ble_eq_true rfl) ?_
  show gG l Γ gm_X10_text (d, 0, 0, 0, 0) 0 [(0, .ref (gad (gSS ad) 145)), (1, .int (iv (f : Int)))] [] _ _
  refine gg_iload_n dX10_text_0 1 rfl ?_
  refine gg_callSi (own := RX10) (yt := gm_X10_isFormula) rfl gl_RX10_181 gk_X10_isFormula gr_X10_isFormula dX10_text_1 (c_X10_isFormula (d := d - 1) (by omega) (by omega)) rfl rfl (Nat.le_of_ble_eq_true rfl) (by show _ ≤ d; omega) ⟨Nat.le_refl _, Nat.le_refl _⟩ (fun e1 μ' hc => ?_)
  obtain ⟨rfl, ⟨rfl, hb2⟩ | ⟨rfl, hb2⟩⟩ := hc
  rotate_left
  · omega
  refine gg_if_ne_t (tgt := 10) dX10_text_4 (by decide) (by decide) (by decide) ?_
  refine gg_aload_n dX10_text_10 0 rfl ?_
  refine gg_callVv (own := RX10) (yt := gm_X10_begin) rfl gl_RX10_184 gk_X10_begin gr_X10_begin dX10_text_11 (c_X10_begin (d := d - 1)) sh_145 pl_145 (by decide) rfl rfl rfl (Nat.le_of_ble_eq_true rfl) (by show _ ≤ d; omega) ⟨Nat.le_refl _, Nat.le_refl _⟩ (fun μ' hc => ?_)
  obtain ⟨I1, rfl, hM1, b1, b2⟩ := hc
  refine gg_aload_n dX10_text_14 0 rfl ?_
  refine gg_iconst dX10_text_15 ?_
  refine gg_putI rfl gf_RX10_123 dX10_text_16 sh_145 pl_145 (by decide) (by decide) (by decide) (gfit_i _) ?_
  refine gg_aload_n dX10_text_19 0 rfl ?_
  refine gg_iconst dX10_text_20 ?_
  refine gg_putI rfl gf_RX10_171 dX10_text_21 sh_145 pl_145 (by decide) (by decide) (by decide) (gfit_i _) ?_
  refine gg_aload_n dX10_text_24 0 rfl ?_
  refine gg_iconst dX10_text_25 ?_
  refine gg_putI rfl gf_RX10_120 dX10_text_26 sh_145 pl_145 (by decide) (by decide) (by decide) gfit_0 ?_
  refine gg_memI (fun I2 hI2 => ?_)
  have hk2 : gKm I J I2 J := ⟨fun p a b => by rw [hI2, gu_other a, gu_other a, gu_other a]; exact b1 p a, fun k a => by rw [hI2, gu_n (by omega), gu_n (by omega), gu_n (by omega)]; exact b2 k (by omega) (by omega), fun _ _ => rfl⟩
  have hT2 := gTq_k hT hk2
  have hM2 : gMd I2 J [] := by rw [hI2]; exact gMd_u (gMd_u (gMd_u hM1 (by omega) (by omega)) (by omega) (by omega)) (by omega) (by omega)
  have g11 : I2 145 11 = ((0 : Nat) : Int) := by rw [hI2, gu_n (by omega), gu_n (by omega), gu_s]; rfl
  have g15 : I2 145 15 = 0 := by rw [hI2, gu_n (by omega), gu_s]
  have g16 : I2 145 16 = 0 := by rw [hI2, gu_s]
  refine gg_aload_n dX10_text_29 0 rfl ?_
  refine gg_callVv (own := RX10) (yt := gm_X10_next) rfl gl_RX10_148 gk_X10_next gr_X10_next dX10_text_30 (c_X10_next (d := d - 1) (q := 0) hT2 g11 g16 (Nat.zero_le _) (by omega)) sh_145 pl_145 (by decide) rfl rfl rfl (Nat.le_of_ble_eq_true rfl) (by show _ ≤ d; omega) ⟨Nat.le_refl _, Nat.le_refl _⟩ (fun μ' hc => ?_)
  obtain ⟨I3, rfl, hF3, hR3⟩ := hc
  refine gg_aload_n dX10_text_33 0 rfl ?_
  have hch : gCm l Γ ad gm_X10_choice (d - 1) 0 T m (gChF T m (gSm T m (gOn T m 5))) := c_X10_choice (by omega) (gBnd_sm (gBnd_on T m 5)) (c_X10_sum (by omega) (gBnd_on T m 5) (c_X10_term (by omega) (gBnd_on T m 5) (c_X10_pow (by omega) (gBnd_on T m 5) (r_X10_one 5 0 _ (by omega) (by omega) (by omega)))))
  refine gg_callVv (own := RX10) (yt := gm_X10_choice) rfl gl_RX10_178 gk_X10_choice gr_X10_choice dX10_text_34 (hch I3 J [] 0 (gTq_f hT2 hF3) hR3 (gMd_f hM2 hF3) ((hF3.2 15 (by omega) (by omega) (by omega) (by omega) (by omega)).trans g15) (Nat.zero_le _) (Nat.zero_le _)) sh_145 pl_145 (by decide) rfl rfl rfl (Nat.le_of_ble_eq_true rfl) (by show _ ≤ d; omega) ⟨Nat.le_refl _, Nat.le_refl _⟩ (fun μ' hc => ?_)
  obtain ⟨I9, J9, rfl, hK9, hs9⟩ := hc
  have hK := gKm_t (gKm_t hk2 (gKm_45 (J := J) hF3)) hK9
  have hMk : gMt (gu (gu I9 145 16 1) 145 10 0) J9 f n K N Z := ⟨by rw [gu_other (by omega), gu_other (by omega), hK.1 146 (by omega) (by omega)]; exact hM.1, fun j hj => by
    rw [gu_other (by omega), gu_other (by omega), gu_other (by omega), gu_other (by omega), hK.1 (148 + f) (by omega) (by omega), hK.1 (174 + f) (by omega) (by omega), hK.2.2 (161 + f) (by omega)]
    exact hM.2 j hj⟩
  cases hr : gChF T m (gSm T m (gOn T m 5)) 0 with
  | inl p =>
    rw [hr] at hs9
    obtain ⟨w1, w2⟩ : I9 145 16 = 1 ∧ I9 145 12 = (p : Int) := hs9
    have htx : gTxt T m = .inl p := by unfold gTxt; rw [hr, gBd_inl]
    refine gG_post (a_X10_text w1 w2) (fun r μ h => ?_)
    obtain ⟨e, rfl, rfl, rfl⟩ := h
    refine ⟨_, rfl, _, J9, rfl, fun p a b c d e => (gu_other a).trans ((gu_other a).trans (hK.1 p a b)), fun q hq => by rw [gu_other (by omega), gu_other (by omega), hK.1 146 (by omega) (by omega)], fun k a => by rw [gu_n (by omega), gu_n (by omega)]; exact hK.2.1 k (by omega), fun p a b => hK.2.2 p a, gu_s, Or.inl ⟨p, htx, rfl, hMk⟩⟩
  | inr x =>
    obtain ⟨t9, q9⟩ := x
    rw [hr] at hs9
    obtain ⟨hM9, hR9, -⟩ : gMd I9 J9 ([] ++ t9) ∧ gRq I9 T m q9 ∧ I9 145 15 = 0 := hs9
    by_cases h0 : gtC T m q9 = 0
    · have htx : gTxt T m = .inr (t9, q9) := by unfold gTxt; rw [hr, gBd_inr, if_pos h0]
      obtain ⟨hfo, hnv⟩ := hg t9 q9 htx
      refine gG_post (d_X10_text hf (by omega) (hR9.2.2.1 (by omega)).1 (hR9.2.2.2.1 h0) hM9 hfo hnv) (fun r μ h => ?_)
      obtain ⟨e, rfl, I8, J8, rfl, hMt, f1, f2, f3, f4, f5, rfl⟩ := h
      exact ⟨_, rfl, I8, J8, rfl, fun p a b c d e => (f1 p a c d e).trans (hK.1 p a b), fun q hq => (f2 q hq).trans (by rw [hK.1 146 (by omega) (by omega)]), fun k a => (f3 k (by omega) (by omega)).trans (hK.2.1 k (by omega)), fun p a b => (f5 p b).trans (hK.2.2 p a), f4, Or.inr ⟨t9, q9, htx, rfl, hMt⟩⟩
    · have htx : gTxt T m = .inl (gtP T m q9) := by unfold gTxt; rw [hr, gBd_inr, if_neg h0]
      by_cases h1 : gtC T m q9 = 1
      · refine gG_post (a_X10_text (hR9.2.1 h1) hR9.1) (fun r μ h => ?_)
        obtain ⟨e, rfl, rfl, rfl⟩ := h
        refine ⟨_, rfl, _, J9, rfl, fun p a b c d e => (gu_other a).trans ((gu_other a).trans (hK.1 p a b)), fun q hq => by rw [gu_other (by omega), gu_other (by omega), hK.1 146 (by omega) (by omega)], fun k a => by rw [gu_n (by omega), gu_n (by omega)]; exact hK.2.1 k (by omega), fun p a b => hK.2.2 p a, gu_s, Or.inl ⟨gtP T m q9, htx, rfl, hMk⟩⟩
      · obtain ⟨y, hy, hyy⟩ := gRq_t hR9 h1
        refine gG_post (b_X10_text (hR9.2.2.1 h1).1 hy (by omega) hR9.1) (fun r μ h => ?_)
        obtain ⟨e, rfl, rfl, rfl⟩ := h
        refine ⟨_, rfl, _, J9, rfl, fun p a b c d e => (gu_other a).trans ((gu_other a).trans (hK.1 p a b)), fun q hq => by rw [gu_other (by omega), gu_other (by omega), hK.1 146 (by omega) (by omega)], fun k a => by rw [gu_n (by omega), gu_n (by omega)]; exact hK.2.1 k (by omega), fun p a b => hK.2.2 p a, gu_s, Or.inl ⟨gtP T m q9, htx, rfl, hMk⟩⟩

set_option maxRecDepth 10000 in
theorem c_X10_text_out {l : Launch} {Γ : gC} {ad : Nat → Nat} {I : Nat → Nat → Int} {J : Nat → Nat → Int64} {d : Nat} {i : Int} (hi : -2147483648 ≤ i ∧ i ≤ 2147483647) (ho : ¬ (0 ≤ i ∧ i ≤ 11)) (hd : 3 ≤ d) : gKi l Γ gm_X10_text d [.ref (gad (gSS ad) 145), .int (iv i)] (gSS ad, I, J) (fun e μ => μ = (gSS ad, I, J) ∧ e = -2) := by
  refine gKi_of gk_X10_text.1 (Nat.le_of_ble_eq_true rfl) ?_
  show gG l Γ gm_X10_text (d, 0, 0, 0, 0) 0 [(0, .ref (gad (gSS ad) 145)), (1, .int (iv i))] [] _ _
  refine gg_iload_n dX10_text_0 1 rfl ?_
  refine gg_callSi (own := RX10) (yt := gm_X10_isFormula) rfl gl_RX10_181 gk_X10_isFormula gr_X10_isFormula dX10_text_1 (c_X10_isFormula (d := d - 1) (by omega) (by omega)) rfl rfl (Nat.le_of_ble_eq_true rfl) (by show _ ≤ d; omega) ⟨Nat.le_refl _, Nat.le_refl _⟩ (fun e1 μ' hc => ?_)
  obtain ⟨rfl, ⟨rfl, hb2⟩ | ⟨rfl, hb2⟩⟩ := hc
  · omega
  refine gg_if_ne_f (tgt := 10) dX10_text_4 (by decide) (by decide) (by decide) ?_
  refine gg_bipush dX10_text_7 (by decide) ?_
  refine gg_ireti dX10_text_9 rfl ⟨rfl, rfl⟩ ?_
  exact ⟨rfl, by decide⟩

