/-! the class's text, whole -/
theorem gAt_T2 {I I' : Nat → Nat → Int} {J J' : Nat → Nat → Int64} {a n : Nat} {K : Nat → Nat} {N : Nat → Int64} {Z : Nat → Nat} (hF : gF a) (h : gAt I J a n K N Z) (hI : ∀ p, p < 12 ∨ 25 ≤ p → I' p = I p) (hJ : ∀ p, p ≠ 14 → J' p = J p) : gAt I' J' a n K N Z := by
  have hr := gF_rng hF
  exact gAt_same h (hI _ (by omega)) (hI _ (by omega)) (hJ _ (by omega)) (hI _ (by omega))
theorem gTxt_cs {T : Nat → Int} {n : Nat} {P : Prop} (h1 : ∀ p, gTxt T n = .inl p → P) (h2 : ∀ t q, gTxt T n = .inr (t, q) → P) : P := by
  cases h : gTxt T n with
  | inl p => exact h1 p h
  | inr x => exact h2 x.1 x.2 h
set_option maxRecDepth 10000 in
theorem c_X5_faultPlace {l : Launch} {Γ : gC} {ad : Nat → Nat} {I : Nat → Nat → Int} {J : Nat → Nat → Int64} {d : Nat}  : gKi l Γ gm_X5_faultPlace d [.ref (gad (gSS ad) 20)] (gSS ad, I, J) (fun e μ => μ = (gSS ad, I, J) ∧ e = I 20 7) := by
  refine gKi_of gk_X5_faultPlace.1 (Nat.le_of_ble_eq_true rfl) ?_
  show gG l Γ gm_X5_faultPlace (d, 0, 0, 0, 0) 0 [(0, .ref (gad (gSS ad) 20))] [] _ _
  refine gg_aload_n dX5_faultPlace_0 0 rfl ?_
  refine gg_getI rfl gf_RX5_23 dX5_faultPlace_1 sh_20 pl_20 (by decide) (by decide) ?_
  refine gg_ireti dX5_faultPlace_4 rfl ⟨rfl, rfl⟩ ?_
  exact ⟨rfl, rfl⟩

set_option maxRecDepth 10000 in
theorem c_X9_text {l : Launch} {Γ : gC} {ad : Nat → Nat} {I : Nat → Nat → Int} {J : Nat → Nat → Int64} {d : Nat} {f n : Nat} {K : Nat → Nat} {N : Nat → Int64} {Z : Nat → Nat} (hf : f < 12) (hA : gAt I J (41 + 8 * f) n K N Z) (hW : gWf n K N Z) {T : Nat → Int} {m : Nat} (hT : gTp I T m) (hd : 60 ≤ d) : gKi l Γ gm_X9_text d [.ref (gad (gSS ad) 0), .int (iv (f : Int))] (gSS ad, I, J) (fun e μ => ∃ I1 J1, μ = (gSS ad, I1, J1) ∧ (∀ p, p < 12 ∨ 25 ≤ p → p ≠ 41 + 8 * f → p ≠ 41 + 8 * f + 1 → p ≠ 41 + 8 * f + 3 → I1 p = I p) ∧ (∀ q, q ≠ 3 → I1 (41 + 8 * f) q = I (41 + 8 * f) q) ∧ (∀ p, p ≠ 14 → p ≠ 41 + 8 * f + 2 → J1 p = J p) ∧ I1 21 = I 21 ∧ I1 20 2 = 0 ∧ ((∃ p : Nat, gTxt T m = .inl p ∧ e = -100 - (p : Int) ∧ gAt I1 J1 (41 + 8 * f) n K N Z) ∨ (∃ (t : gLn) (q : Nat), gTxt T m = .inr (t, q) ∧ e = (t.length : Int) ∧ gAt I1 J1 (41 + 8 * f) t.length (gRk t) (gRn t) (gZl t) ∧ gWf t.length (gRk t) (gRn t) (gZl t) ∧ 0 < t.length ∧ gFo t 1 ∧ gNvs t))) := by
  refine gKi_of gk_X9_text.1 (Nat.le_of_ble_eq_true rfl) ?_
  show gG l Γ gm_X9_text (d, 0, 0, 0, 0) 0 [(0, .ref (gad (gSS ad) 0)), (1, .int (iv (f : Int)))] [] _ _
  refine gg_iload_n dX9_text_0 1 rfl ?_
  refine gg_callSi (own := RX9) (yt := gm_X9_isFormula) rfl gl_RX9_106 gk_X9_isFormula gr_X9_isFormula dX9_text_1 (c_X9_isFormula (d := d - 1) (by omega)) rfl rfl (Nat.le_of_ble_eq_true rfl) (by show _ ≤ d; omega) ⟨Nat.le_refl _, Nat.le_refl _⟩ (fun e1 μ' hc => ?_)
  obtain ⟨rfl, ⟨rfl, hb2⟩ | ⟨rfl, hb2⟩⟩ := hc
  rotate_left
  · omega
  refine gg_if_ne_t (tgt := 10) dX9_text_4 (by decide) (by decide) (by decide) ?_
  refine gg_aload_n dX9_text_10 0 rfl ?_
  refine gg_getR (k' := 20) rfl gf_RX9_54 dX9_text_11 sh_0 pl_0 (by decide) (by decide) rr_0_10 ?_
  refine gg_callVi (own := RX9) (yt := gm_X5_readTape) rfl gl_RX9_109 gk_X5_readTape gr_X5_readTape dX9_text_14 (c_X5_readTape (d := d - 1) hT (by omega)) sh_20 pl_20 (by decide) rfl rfl rfl (Nat.le_of_ble_eq_true rfl) (by show _ ≤ d; omega) ⟨Nat.le_refl _, Nat.le_refl _⟩ (fun e1 μ' hc => ?_)
  obtain ⟨I1, J1, rfl, hK, hs⟩ := hc
  have hge : -1 ≤ e1 ∧ e1 ≤ 1200 := by
    rcases hs with ⟨p, -, h, -⟩ | ⟨t, q, rr, D, -, h, hD, ht⟩
    · omega
    · have h9 := gget_lt ht
      have h8 := hD.2.1
      omega
  refine gg_istore_n (ls' := [(2, .int (iv e1)), (0, .ref (gad (gSS ad) 0)), (1, .int (iv (f : Int)))]) dX9_text_17 rfl (by decide) rfl ?_
  refine gg_iload_n dX9_text_18 0 rfl ?_
  refine gg_if_ge (tgt := 33) dX9_text_19 (by decide) (by omega) (fun hg => ?_) (fun hg => ?_)
  · obtain ⟨t, q, rr, D, ht1, rfl, hD, ht⟩ : ∃ (t : gLn) (q rr : Nat) (D : List gLn), gTxt T m = .inr (t, q) ∧ e1 = (rr : Int) ∧ gDf I1 J1 D ∧ D[rr]? = some t := by
      rcases hs with ⟨p, -, h, -⟩ | h
      · omega
      · exact h
    have hlen := gTxt_len hT.1 ht1
    have htr := gDf_tree hD ht
    have hpos := gFo_pos htr.1 (Nat.le_refl _)
    have hWf := gWf_of htr.1 htr.2 (show t.length ≤ 200 by omega)
    refine gg_aload_n dX9_text_33 1 rfl ?_
    refine gg_getR (k' := 12) rfl gf_RX9_45 dX9_text_34 sh_0 pl_0 (by decide) (by decide) rr_0_9 ?_
    refine gg_iload_n dX9_text_37 0 rfl ?_
    refine gg_aload_n dX9_text_38 1 rfl ?_
    refine gg_getR (k' := 1) rfl gf_RX9_11 dX9_text_39 sh_0 pl_0 (by decide) (by decide) rr_0_0 ?_
    refine gg_iload_n dX9_text_42 2 rfl ?_
    refine gg_aaldj (t := 4) f (k' := (41 + 8 * f)) dX9_text_43 sh_1 (by decide) pl_1 (by decide) rfl hf (rr_1 hf) ?_
    refine gg_callVv (own := RX9) (yt := gm_X0_settle) rfl gl_RX9_115 gk_X0_settle gr_X0_settle dX9_text_44 (c_X0_settle (d := d - 1) (gF_fo f hf) hD ht (by omega) (by omega)) sh_12 pl_12 (by decide) rfl rfl rfl (Nat.le_of_ble_eq_true rfl) (by show _ ≤ d; omega) ⟨Nat.le_refl _, Nat.le_refl _⟩ (fun μ' hc => ?_)
    obtain ⟨I5, J5, rfl, hA5, g1, g2, g3, g4⟩ := hc
    refine gg_aload_n dX9_text_47 1 rfl ?_
    refine gg_getR (k' := 1) rfl gf_RX9_11 dX9_text_48 sh_0 pl_0 (by decide) (by decide) rr_0_0 ?_
    refine gg_iload_n dX9_text_51 2 rfl ?_
    refine gg_aaldj (t := 4) f (k' := (41 + 8 * f)) dX9_text_52 sh_1 (by decide) pl_1 (by decide) rfl hf (rr_1 hf) ?_
    refine gg_callVi (own := RX9) (yt := gm_X1_size) rfl gl_RX9_119 gk_X1_size gr_X1_size dX9_text_53 (c_X1_size (d := d - 1) (gF_fo f hf) hA5) (gFsh (gF_fo f hf)) (gFlt (gF_fo f hf)) (by decide) rfl rfl rfl (Nat.le_of_ble_eq_true rfl) (by show _ ≤ d; omega) ⟨Nat.le_refl _, Nat.le_refl _⟩ (fun e4 μ' hc => ?_)
    obtain ⟨rfl, rfl⟩ := hc
    refine gg_ireti dX9_text_56 rfl ⟨rfl, rfl⟩ ?_
    exact ⟨I5, J5, rfl, fun p h h1 h2 h3 => (g1 p (by omega) (by omega) h1 h2 h3).trans (hK.1 p h), fun q h => (g3 q h).trans (by rw [hK.1 (41 + 8 * f) (by omega)]), fun p h h1 => (g4 p h1).trans (hK.2.2.2 p h), (g1 21 (by omega) (by omega) (by omega) (by omega) (by omega)).trans hK.2.1, by rw [g1 20 (by omega) (by omega) (by omega) (by omega) (by omega)]; exact hK.2.2.1, Or.inr ⟨t, q, ht1, rfl, hA5, hWf, by omega, htr.1, htr.2⟩⟩
  · obtain ⟨p, hp1, -, h7⟩ : ∃ p : Nat, gTxt T m = .inl p ∧ e1 = -1 ∧ I1 20 7 = (p : Int) := by
      rcases hs with h | ⟨t, q, rr, D, -, h, -⟩
      · exact h
      · omega
    refine gg_bipush dX9_text_22 (by decide) ?_
    refine gg_aload_n dX9_text_24 1 rfl ?_
    refine gg_getR (k' := 20) rfl gf_RX9_54 dX9_text_25 sh_0 pl_0 (by decide) (by decide) rr_0_10 ?_
    refine gg_callVi (own := RX9) (yt := gm_X5_faultPlace) rfl gl_RX9_112 gk_X5_faultPlace gr_X5_faultPlace dX9_text_28 (c_X5_faultPlace (d := d - 1)) sh_20 pl_20 (by decide) rfl rfl rfl (Nat.le_of_ble_eq_true rfl) (by show _ ≤ d; omega) ⟨Nat.le_refl _, Nat.le_refl _⟩ (fun e5 μ' hc => ?_)
    obtain ⟨rfl, rfl⟩ := hc
    refine gg_toI (b := (p : Int)) h7 ?_
    refine gg_isub dX9_text_31 ?_
    refine gg_ireti dX9_text_32 rfl ⟨rfl, rfl⟩ ?_
    exact ⟨I1, J1, rfl, fun p h _ _ _ => hK.1 p h, fun q _ => by rw [hK.1 (41 + 8 * f) (by omega)], fun p h _ => hK.2.2.2 p h, hK.2.1, hK.2.2.1, Or.inl ⟨p, hp1, rfl, gAt_T2 (gF_fo f hf) hA hK.1 hK.2.2.2⟩⟩

set_option maxRecDepth 10000 in
theorem c_X9_text_out {l : Launch} {Γ : gC} {ad : Nat → Nat} {I : Nat → Nat → Int} {J : Nat → Nat → Int64} {d : Nat} {i : Int} (hi : -2147483648 ≤ i ∧ i ≤ 2147483647) (ho : ¬ (0 ≤ i ∧ i ≤ 11)) (hd : 3 ≤ d) : gKi l Γ gm_X9_text d [.ref (gad (gSS ad) 0), .int (iv i)] (gSS ad, I, J) (fun e μ => μ = (gSS ad, I, J) ∧ e = -2) := by
  refine gKi_of gk_X9_text.1 (Nat.le_of_ble_eq_true rfl) ?_
  show gG l Γ gm_X9_text (d, 0, 0, 0, 0) 0 [(0, .ref (gad (gSS ad) 0)), (1, .int (iv i))] [] _ _
  refine gg_iload_n dX9_text_0 1 rfl ?_
  refine gg_callSi (own := RX9) (yt := gm_X9_isFormula) rfl gl_RX9_106 gk_X9_isFormula gr_X9_isFormula dX9_text_1 (c_X9_isFormula (d := d - 1) (by omega)) rfl rfl (Nat.le_of_ble_eq_true rfl) (by show _ ≤ d; omega) ⟨Nat.le_refl _, Nat.le_refl _⟩ (fun e1 μ' hc => ?_)
  obtain ⟨rfl, ⟨rfl, hb2⟩ | ⟨rfl, hb2⟩⟩ := hc
  · omega
  refine gg_if_ne_f (tgt := 10) dX9_text_4 (by decide) (by decide) (by decide) ?_
  refine gg_bipush dX9_text_7 (by decide) ?_
  refine gg_ireti dX9_text_9 rfl ⟨rfl, rfl⟩ ?_
  exact ⟨rfl, by decide⟩

