/-! the class: deriving, replacing -/
theorem gget_last {α : Type} {D : List α} {x : α} : (D ++ [x])[D.length]? = some x := by simp
theorem gofN_sub {m : Nat} (h : m < 10) (h0 : m ≠ 0) : Int64.ofNat m - 1 = Int64.ofNat (m - 1) := by
  have key : ∀ m : Fin 10, m.val ≠ 0 → Int64.ofNat m.val - 1 = Int64.ofNat (m.val - 1) := by decide
  exact key ⟨m, h⟩ h0
set_option maxRecDepth 10000 in
theorem c_X7_derivedProduct {l : Launch} {Γ : gC} {ad : Nat → Nat} {I : Nat → Nat → Int} {J : Nat → Nat → Int64} {d : Nat}  {D : List gLn} (hD : gDf I J D) (hu : D.length + 3 ≤ 1200) {a : Nat} {la : gLn} (ha : D[a]? = some la) {e : Nat} {le : gLn} (he : D[e]? = some le) {b : Nat} {lb : gLn} (hb : D[b]? = some lb) {f : Nat} {lf : gLn} (hf : D[f]? = some lf) (hd : 5 ≤ d) : gKi l Γ gm_X7_derivedProduct d [.ref (gad (gSS ad) 22), .int (iv (a : Int)), .int (iv (e : Int)), .int (iv (b : Int)), .int (iv (f : Int))] (gSS ad, I, J) (fun e μ => ∃ I1 J1 E r, μ = (gSS ad, I1, J1) ∧ E.length ≤ 3 ∧ gDf I1 J1 (D ++ E) ∧ (∀ p, p ≠ 12 → p ≠ 13 → p ≠ 15 → p ≠ 16 → p ≠ 17 → p ≠ 18 → I1 p = I p) ∧ (∀ q, q ≠ 6 → I1 12 q = I 12 q) ∧ (∀ p, p ≠ 14 → J1 p = J p) ∧ e = ((r : Nat) : Int) ∧ (D ++ E)[r]? = some (gdP la le lb lf)) := by
  refine gKi_of gk_X7_derivedProduct.1 (Nat.le_of_ble_eq_true rfl) ?_
  show gG l Γ gm_X7_derivedProduct (d, 0, 0, 0, 0) 0 [(0, .ref (gad (gSS ad) 22)), (1, .int (iv (a : Int))), (2, .int (iv (e : Int))), (3, .int (iv (b : Int))), (4, .int (iv (f : Int)))] [] _ _
  refine gg_aload_n dX7_derivedProduct_0 0 rfl ?_
  refine gg_getR (k' := 12) rfl gf_RX7_18 dX7_derivedProduct_1 sh_22 pl_22 (by decide) (by decide) rr_22_0 ?_
  refine gg_iconst dX7_derivedProduct_4 ?_
  refine gg_aload_n dX7_derivedProduct_5 0 rfl ?_
  refine gg_getR (k' := 12) rfl gf_RX7_18 dX7_derivedProduct_6 sh_22 pl_22 (by decide) (by decide) rr_22_0 ?_
  refine gg_iconst dX7_derivedProduct_9 ?_
  refine gg_iload_n dX7_derivedProduct_10 2 rfl ?_
  refine gg_iload_n dX7_derivedProduct_11 3 rfl ?_
  refine gg_callVi (own := RX7) (yt := gm_X0_pair) rfl gl_RX7_68 gk_X0_pair gr_X0_pair dX7_derivedProduct_12 (c_X0_pair (d := d - 1) (k := 4) (la := le) (lb := lb) hD (by omega) (gNv_z (by omega) (by omega) (by omega)) (Or.inl ⟨by decide, e, rfl, gget_lt he, he⟩) (Or.inl ⟨by decide, b, rfl, gget_lt hb, hb⟩) (by decide) (by omega)) sh_12 pl_12 (by decide) rfl rfl rfl (Nat.le_of_ble_eq_true rfl) (by show _ ≤ d; omega) ⟨Nat.le_refl _, Nat.le_refl _⟩ (fun e1 μ' hc => ?_)
  obtain ⟨I1, J1, rfl, hD1, fa1, fb1, fc1, rfl⟩ := hc
  have ha1 := gget_app (E := [(4, 0) :: (le ++ lb)]) ha
  have hf1 := gget_app (E := [(4, 0) :: (le ++ lb)]) hf
  refine gg_aload_n dX7_derivedProduct_15 0 rfl ?_
  refine gg_getR (k' := 12) rfl gf_RX7_18 dX7_derivedProduct_16 sh_22 pl_22 (by decide) (by decide) rr_22_0 ?_
  refine gg_iconst dX7_derivedProduct_19 ?_
  refine gg_iload_n dX7_derivedProduct_20 1 rfl ?_
  refine gg_iload dX7_derivedProduct_21 4 rfl ?_
  refine gg_callVi (own := RX7) (yt := gm_X0_pair) rfl gl_RX7_68 gk_X0_pair gr_X0_pair dX7_derivedProduct_23 (c_X0_pair (d := d - 1) (k := 4) (la := la) (lb := lf) hD1 (by simp; omega) (gNv_z (by omega) (by omega) (by omega)) (Or.inl ⟨by decide, a, rfl, gget_lt ha1, ha1⟩) (Or.inl ⟨by decide, f, rfl, gget_lt hf1, hf1⟩) (by decide) (by omega)) sh_12 pl_12 (by decide) rfl rfl rfl (Nat.le_of_ble_eq_true rfl) (by show _ ≤ d; omega) ⟨Nat.le_refl _, Nat.le_refl _⟩ (fun e2 μ' hc => ?_)
  obtain ⟨I2, J2, rfl, hD2, fa2, fb2, fc2, rfl⟩ := hc
  have hx : (D ++ [(4, 0) :: (le ++ lb)] ++ [(4, 0) :: (la ++ lf)])[D.length]? = some ((4, 0) :: (le ++ lb)) := gget_app gget_last
  have hy : (D ++ [(4, 0) :: (le ++ lb)] ++ [(4, 0) :: (la ++ lf)])[(D ++ [(4, 0) :: (le ++ lb)]).length]? = some ((4, 0) :: (la ++ lf)) := gget_last
  refine gg_callVi (own := RX7) (yt := gm_X0_pair) rfl gl_RX7_68 gk_X0_pair gr_X0_pair dX7_derivedProduct_26 (c_X0_pair (d := d - 1) (k := 3) (la := (4, 0) :: (le ++ lb)) (lb := (4, 0) :: (la ++ lf)) hD2 (by simp; omega) (gNv_z (by omega) (by omega) (by omega)) (Or.inl ⟨by decide, D.length, rfl, gget_lt hx, hx⟩) (Or.inl ⟨by decide, _, rfl, gget_lt hy, hy⟩) (by decide) (by omega)) sh_12 pl_12 (by decide) rfl rfl rfl (Nat.le_of_ble_eq_true rfl) (by show _ ≤ d; omega) ⟨Nat.le_refl _, Nat.le_refl _⟩ (fun e3 μ' hc => ?_)
  obtain ⟨I3, J3, rfl, hD3, fa3, fb3, fc3, rfl⟩ := hc
  refine gg_ireti dX7_derivedProduct_29 rfl ⟨rfl, rfl⟩ ?_
  refine ⟨I3, J3, [(4, 0) :: (le ++ lb), (4, 0) :: (la ++ lf), gdP la le lb lf], _, rfl, by simp, by simpa [gdP] using hD3, (fun p h1 h2 h3 h4 h5 h6 => (fa3 p h1 h2 h3 h4 h5 h6).trans ((fa2 p h1 h2 h3 h4 h5 h6).trans ((fa1 p h1 h2 h3 h4 h5 h6).trans (rfl)))), (fun q h => (fb3 q h).trans ((fb2 q h).trans ((fb1 q h).trans (rfl)))), (fun p h => (fc3 p h).trans ((fc2 p h).trans ((fc1 p h).trans (rfl)))), rfl, ?_⟩
  have z := gget_last (D := (D ++ [(4, 0) :: (le ++ lb)] ++ [(4, 0) :: (la ++ lf)])) (x := gdP la le lb lf)
  exact (by simpa using z)

set_option maxRecDepth 10000 in
theorem c_X7_derivedPower {l : Launch} {Γ : gC} {ad : Nat → Nat} {I : Nat → Nat → Int} {J : Nat → Nat → Int64} {d : Nat}  {D : List gLn} (hD : gDf I J D) (hu : D.length + 4 ≤ 1200) {a : Nat} {la : gLn} (ha : D[a]? = some la) {e : Nat} {le : gLn} (he : D[e]? = some le) {m0 : Nat} (hm : m0 < 10) (hd : 5 ≤ d) : gKi l Γ gm_X7_derivedPower d [.ref (gad (gSS ad) 22), .int (iv (a : Int)), .int (iv (e : Int)), .long (Int64.ofNat m0)] (gSS ad, I, J) (fun e μ => ∃ I1 J1 E r, μ = (gSS ad, I1, J1) ∧ E.length ≤ 4 ∧ gDf I1 J1 (D ++ E) ∧ (∀ p, p ≠ 12 → p ≠ 13 → p ≠ 15 → p ≠ 16 → p ≠ 17 → p ≠ 18 → I1 p = I p) ∧ (∀ q, q ≠ 6 → I1 12 q = I 12 q) ∧ (∀ p, p ≠ 14 → J1 p = J p) ∧ e = ((r : Nat) : Int) ∧ (D ++ E)[r]? = some (gdW la le (Int64.ofNat m0))) := by
  refine gKi_of gk_X7_derivedPower.1 (Nat.le_of_ble_eq_true rfl) ?_
  show gG l Γ gm_X7_derivedPower (d, 0, 0, 0, 0) 0 [(0, .ref (gad (gSS ad) 22)), (1, .int (iv (a : Int))), (2, .int (iv (e : Int))), (3, .long (Int64.ofNat m0))] [] _ _
  refine gg_lload_n dX7_derivedPower_0 3 rfl ?_
  refine gg_lconstv (x := 0) dX7_derivedPower_1 rfl ?_
  refine gg_lcmp_ne (tgt := 16) dX7_derivedPower_2 dX7_derivedPower_3 (by decide) (fun h0 => ?_) (fun h0 => ?_)
  · have hm0 : m0 ≠ 0 := fun h => h0 (by rw [h]; rfl)
    refine gg_aload_n dX7_derivedPower_16 0 rfl ?_
    refine gg_getR (k' := 12) rfl gf_RX7_18 dX7_derivedPower_17 sh_22 pl_22 (by decide) (by decide) rr_22_0 ?_
    refine gg_iconst dX7_derivedPower_20 ?_
    refine gg_lload_n dX7_derivedPower_21 3 rfl ?_
    refine gg_lconstv (x := 1) dX7_derivedPower_22 rfl ?_
    refine gg_lsub dX7_derivedPower_23 ?_
    refine gg_iload_n dX7_derivedPower_24 1 rfl ?_
    refine gg_iconst dX7_derivedPower_25 ?_
    refine gg_iconst dX7_derivedPower_26 ?_
    refine gg_callVi (own := RX7) (yt := gm_X0_make) rfl gl_RX7_43 gk_X0_make gr_X0_make dX7_derivedPower_27 (c_X0_make (d := d - 1) (k := 5) (x := Int64.ofNat m0 - 1) (la := la) (lb := []) (lc := []) hD (by omega) (by rw [gofN_sub hm hm0]; exact gNv_p (by omega)) (Or.inl ⟨by decide, a, rfl, gget_lt ha, ha⟩) (Or.inr ⟨by decide, rfl, rfl⟩) (Or.inr ⟨by decide, rfl, rfl⟩) (by omega)) sh_12 pl_12 (by decide) rfl rfl rfl (Nat.le_of_ble_eq_true rfl) (by show _ ≤ d; omega) ⟨Nat.le_refl _, Nat.le_refl _⟩ (fun e1 μ' hc => ?_)
    obtain ⟨I1, J1, rfl, hD1, fa1, fb1, fc1, rfl⟩ := hc
    simp only [List.append_nil] at hD1
    have he1 := gget_app (E := [(5, Int64.ofNat m0 - 1) :: la]) he
    refine gg_istore (ls' := [(5, .int (iv (D.length : Int))), (0, .ref (gad (gSS ad) 22)), (1, .int (iv (a : Int))), (2, .int (iv (e : Int))), (3, .long (Int64.ofNat m0))]) dX7_derivedPower_30 (by decide) rfl ?_
    refine gg_aload_n dX7_derivedPower_32 1 rfl ?_
    refine gg_getR (k' := 12) rfl gf_RX7_18 dX7_derivedPower_33 sh_22 pl_22 (by decide) (by decide) rr_22_0 ?_
    refine gg_iconst dX7_derivedPower_36 ?_
    refine gg_aload_n dX7_derivedPower_37 1 rfl ?_
    refine gg_getR (k' := 12) rfl gf_RX7_18 dX7_derivedPower_38 sh_22 pl_22 (by decide) (by decide) rr_22_0 ?_
    refine gg_iconst dX7_derivedPower_41 ?_
    refine gg_aload_n dX7_derivedPower_42 1 rfl ?_
    refine gg_getR (k' := 12) rfl gf_RX7_18 dX7_derivedPower_43 sh_22 pl_22 (by decide) (by decide) rr_22_0 ?_
    refine gg_iconst dX7_derivedPower_46 ?_
    refine gg_lload_n dX7_derivedPower_47 4 rfl ?_
    refine gg_callVi (own := RX7) (yt := gm_X0_leaf) rfl gl_RX7_64 gk_X0_leaf gr_X0_leaf dX7_derivedPower_48 (c_X0_leaf (d := d - 1) (k := 0) (x := Int64.ofNat m0) hD1 (by simp; omega) (gNv_n _) rfl (by omega)) sh_12 pl_12 (by decide) rfl rfl rfl (Nat.le_of_ble_eq_true rfl) (by show _ ≤ d; omega) ⟨Nat.le_refl _, Nat.le_refl _⟩ (fun e2 μ' hc => ?_)
    obtain ⟨I2, J2, rfl, hD2, fa2, fb2, fc2, rfl⟩ := hc
    have hx : (D ++ [(5, Int64.ofNat m0 - 1) :: la] ++ [[(0, Int64.ofNat m0)]])[D.length]? = some ((5, Int64.ofNat m0 - 1) :: la) := gget_app gget_last
    have hy : (D ++ [(5, Int64.ofNat m0 - 1) :: la] ++ [[(0, Int64.ofNat m0)]])[(D ++ [(5, Int64.ofNat m0 - 1) :: la]).length]? = some [(0, Int64.ofNat m0)] := gget_last
    refine gg_iload dX7_derivedPower_51 0 rfl ?_
    refine gg_callVi (own := RX7) (yt := gm_X0_pair) rfl gl_RX7_68 gk_X0_pair gr_X0_pair dX7_derivedPower_53 (c_X0_pair (d := d - 1) (k := 4) (la := [(0, Int64.ofNat m0)]) (lb := (5, Int64.ofNat m0 - 1) :: la) hD2 (by simp; omega) (gNv_z (by omega) (by omega) (by omega)) (Or.inl ⟨by decide, _, rfl, gget_lt hy, hy⟩) (Or.inl ⟨by decide, D.length, rfl, gget_lt hx, hx⟩) (by decide) (by omega)) sh_12 pl_12 (by decide) rfl rfl rfl (Nat.le_of_ble_eq_true rfl) (by show _ ≤ d; omega) ⟨Nat.le_refl _, Nat.le_refl _⟩ (fun e3 μ' hc => ?_)
    obtain ⟨I3, J3, rfl, hD3, fa3, fb3, fc3, rfl⟩ := hc
    have he3 : (D ++ [(5, Int64.ofNat m0 - 1) :: la] ++ [[(0, Int64.ofNat m0)]] ++ [(4, 0) :: ([(0, Int64.ofNat m0)] ++ ((5, Int64.ofNat m0 - 1) :: la))])[e]? = some le := gget_app (gget_app (gget_app he))
    have hz : (D ++ [(5, Int64.ofNat m0 - 1) :: la] ++ [[(0, Int64.ofNat m0)]] ++ [(4, 0) :: ([(0, Int64.ofNat m0)] ++ ((5, Int64.ofNat m0 - 1) :: la))])[(D ++ [(5, Int64.ofNat m0 - 1) :: la] ++ [[(0, Int64.ofNat m0)]]).length]? = some ((4, 0) :: ([(0, Int64.ofNat m0)] ++ ((5, Int64.ofNat m0 - 1) :: la))) := gget_last
    refine gg_iload_n dX7_derivedPower_56 3 rfl ?_
    refine gg_callVi (own := RX7) (yt := gm_X0_pair) rfl gl_RX7_68 gk_X0_pair gr_X0_pair dX7_derivedPower_57 (c_X0_pair (d := d - 1) (k := 4) (la := (4, 0) :: ([(0, Int64.ofNat m0)] ++ ((5, Int64.ofNat m0 - 1) :: la))) (lb := le) hD3 (by simp; omega) (gNv_z (by omega) (by omega) (by omega)) (Or.inl ⟨by decide, _, rfl, gget_lt hz, hz⟩) (Or.inl ⟨by decide, e, rfl, gget_lt he3, he3⟩) (by decide) (by omega)) sh_12 pl_12 (by decide) rfl rfl rfl (Nat.le_of_ble_eq_true rfl) (by show _ ≤ d; omega) ⟨Nat.le_refl _, Nat.le_refl _⟩ (fun e4 μ' hc => ?_)
    obtain ⟨I4, J4, rfl, hD4, fa4, fb4, fc4, rfl⟩ := hc
    refine gg_ireti dX7_derivedPower_60 rfl ⟨rfl, rfl⟩ ?_
    refine ⟨I4, J4, [(5, Int64.ofNat m0 - 1) :: la, [(0, Int64.ofNat m0)], (4, 0) :: ([(0, Int64.ofNat m0)] ++ ((5, Int64.ofNat m0 - 1) :: la)), gdW la le (Int64.ofNat m0)], _, rfl, by simp, ?_, (fun p h1 h2 h3 h4 h5 h6 => (fa4 p h1 h2 h3 h4 h5 h6).trans ((fa3 p h1 h2 h3 h4 h5 h6).trans ((fa2 p h1 h2 h3 h4 h5 h6).trans ((fa1 p h1 h2 h3 h4 h5 h6).trans (rfl))))), (fun q h => (fb4 q h).trans ((fb3 q h).trans ((fb2 q h).trans ((fb1 q h).trans (rfl))))), (fun p h => (fc4 p h).trans ((fc3 p h).trans ((fc2 p h).trans ((fc1 p h).trans (rfl))))), rfl, ?_⟩
    · unfold gdW
      rw [if_neg h0]
      simpa using hD4
    · have z := gget_last (D := (D ++ [(5, Int64.ofNat m0 - 1) :: la] ++ [[(0, Int64.ofNat m0)]] ++ [(4, 0) :: ([(0, Int64.ofNat m0)] ++ ((5, Int64.ofNat m0 - 1) :: la))])) (x := gdW la le (Int64.ofNat m0))
      simpa using z
  · refine gg_aload_n dX7_derivedPower_6 0 rfl ?_
    refine gg_getR (k' := 12) rfl gf_RX7_18 dX7_derivedPower_7 sh_22 pl_22 (by decide) (by decide) rr_22_0 ?_
    refine gg_iconst dX7_derivedPower_10 ?_
    refine gg_lconstv (x := 0) dX7_derivedPower_11 rfl ?_
    refine gg_callVi (own := RX7) (yt := gm_X0_leaf) rfl gl_RX7_64 gk_X0_leaf gr_X0_leaf dX7_derivedPower_12 (c_X0_leaf (d := d - 1) (k := 0) (x := 0) hD (by omega) (gNv_n _) rfl (by omega)) sh_12 pl_12 (by decide) rfl rfl rfl (Nat.le_of_ble_eq_true rfl) (by show _ ≤ d; omega) ⟨Nat.le_refl _, Nat.le_refl _⟩ (fun e5 μ' hc => ?_)
    obtain ⟨I9, J9, rfl, hD9, fa9, fb9, fc9, rfl⟩ := hc
    refine gg_ireti dX7_derivedPower_15 rfl ⟨rfl, rfl⟩ ?_
    refine ⟨I9, J9, [_], D.length, rfl, by simp, hD9, (fun p h1 h2 h3 h4 h5 h6 => (fa9 p h1 h2 h3 h4 h5 h6).trans (rfl)), (fun q h => (fb9 q h).trans (rfl)), (fun p h => (fc9 p h).trans (rfl)), rfl, ?_⟩
    unfold gdW
    rw [if_pos h0]
    simp

set_option maxRecDepth 10000 in
theorem c_X7_derivedNode {l : Launch} {Γ : gC} {ad : Nat → Nat} {I : Nat → Nat → Int} {J : Nat → Nat → Int64} {d : Nat} {a0 n : Nat} {K : Nat → Nat} {N : Nat → Int64} {Z : Nat → Nat} (hF : gF a0) (hA : gAt I J a0 n K N Z) (hW : gWf n K N Z) {D : List gLn} {i : Nat} {nm : Int} (hi : i < n) (hP : gTa I 23 D (gSt1 K N Z) (i + 1) n) (hT : gTa I 24 D (gDv0 n nm K N Z) (i + 1) n) (hD : gDf I J D) (hu : D.length + 4 ≤ 1200) (hd : 6 ≤ d) : gKi l Γ gm_X7_derivedNode d [.ref (gad (gSS ad) 22), .ref (gad (gSS ad) a0), .int (iv (i : Int)), .int (iv nm)] (gSS ad, I, J) (fun e μ => ∃ I1 J1 E r, μ = (gSS ad, I1, J1) ∧ E.length ≤ 4 ∧ gDf I1 J1 (D ++ E) ∧ (∀ p, p ≠ 12 → p ≠ 13 → p ≠ 15 → p ≠ 16 → p ≠ 17 → p ≠ 18 → I1 p = I p) ∧ (∀ q, q ≠ 6 → I1 12 q = I 12 q) ∧ (∀ p, p ≠ 14 → J1 p = J p) ∧ e = ((r : Nat) : Int) ∧ (D ++ E)[r]? = some ((gDv0 n nm K N Z) i)) := by
  refine gKi_of gk_X7_derivedNode.1 (Nat.le_of_ble_eq_true rfl) ?_
  show gG l Γ gm_X7_derivedNode (d, 0, 0, 0, 0) 0 [(0, .ref (gad (gSS ad) 22)), (1, .ref (gad (gSS ad) a0)), (2, .int (iv (i : Int))), (3, .int (iv nm))] [] _ _
  have hv : gNv (K i, N i) := by
    obtain ⟨hK, -, -, -, -, -, -, -, -, -, h1, h5, h0⟩ := hW.2.2 i hi
    exact ⟨hK, h1, h5, h0⟩
  obtain ⟨hK, hZ1, hZ2, he0, he1, he2, he3, hc1, hc2, hc3, hnm, hpw, hz⟩ := hW.2.2 i hi
  have hn := hW.1
  refine gg_aload_n dX7_derivedNode_0 0 rfl ?_
  refine gg_getR (k' := 24) rfl gf_RX7_15 dX7_derivedNode_1 sh_22 pl_22 (by decide) (by decide) rr_22_2 ?_
  refine gg_aload_n dX7_derivedNode_4 1 rfl ?_
  refine gg_iload_n dX7_derivedNode_5 2 rfl ?_
  refine gg_iconst dX7_derivedNode_6 ?_
  refine gg_callSi (own := RX7) (yt := gm_X7_partOf) rfl gl_RX7_39 gk_X7_partOf gr_X7_partOf dX7_derivedNode_7 (c_X7_partOf (d := d - 1) hF hA hW (p := 24) sh_24 pl_24 (V := (gDv0 n nm K N Z)) (i := i) (w := 0) hi (by omega) hT (by omega)) rfl rfl (Nat.le_of_ble_eq_true rfl) (by show _ ≤ d; omega) ⟨Nat.le_refl _, Nat.le_refl _⟩ (fun er0 μ' hc => ?_)
  obtain ⟨rfl, r0⟩ := hc
  refine gg_istore (ls' := [(4, .int (iv er0)), (0, .ref (gad (gSS ad) 22)), (1, .ref (gad (gSS ad) a0)), (2, .int (iv (i : Int))), (3, .int (iv nm))]) dX7_derivedNode_10 (by decide) rfl ?_
  refine gg_aload_n dX7_derivedNode_12 1 rfl ?_
  refine gg_getR (k' := 24) rfl gf_RX7_15 dX7_derivedNode_13 sh_22 pl_22 (by decide) (by decide) rr_22_2 ?_
  refine gg_aload_n dX7_derivedNode_16 2 rfl ?_
  refine gg_iload_n dX7_derivedNode_17 3 rfl ?_
  refine gg_iconst dX7_derivedNode_18 ?_
  refine gg_callSi (own := RX7) (yt := gm_X7_partOf) rfl gl_RX7_39 gk_X7_partOf gr_X7_partOf dX7_derivedNode_19 (c_X7_partOf (d := d - 1) hF hA hW (p := 24) sh_24 pl_24 (V := (gDv0 n nm K N Z)) (i := i) (w := 1) hi (by omega) hT (by omega)) rfl rfl (Nat.le_of_ble_eq_true rfl) (by show _ ≤ d; omega) ⟨Nat.le_refl _, Nat.le_refl _⟩ (fun er1 μ' hc => ?_)
  obtain ⟨rfl, r1⟩ := hc
  refine gg_istore (ls' := [(5, .int (iv er1)), (4, .int (iv er0)), (0, .ref (gad (gSS ad) 22)), (1, .ref (gad (gSS ad) a0)), (2, .int (iv (i : Int))), (3, .int (iv nm))]) dX7_derivedNode_22 (by decide) rfl ?_
  refine gg_aload_n dX7_derivedNode_24 3 rfl ?_
  refine gg_iload_n dX7_derivedNode_25 4 rfl ?_
  refine gg_callVi (own := RX7) (yt := gm_X1_kind) rfl gl_RX7_32 gk_X1_kind gr_X1_kind dX7_derivedNode_26 (c_X1_kind (d := d - 1) hF hA hW.1 (j := i) hi (by omega)) (gFsh hF) (gFlt hF) (by decide) rfl rfl rfl (Nat.le_of_ble_eq_true rfl) (by show _ ≤ d; omega) ⟨Nat.le_refl _, Nat.le_refl _⟩ (fun e1 μ' hc => ?_)
  obtain ⟨rfl, rfl⟩ := hc
  obtain hk | hk | hk | hk | hk | hk | hk | hk := (by omega : K i = 0 ∨ K i = 1 ∨ K i = 2 ∨ K i = 3 ∨ K i = 4 ∨ K i = 5 ∨ K i = 6 ∨ K i = 7)
  · refine gg_toI (b := 0) (by omega) ?_
    refine gg_tsw_out (tgt := 235) dX7_derivedNode_29 (by decide) (by decide) (by decide) ?_
    refine gg_aload_n dX7_derivedNode_235 2 rfl ?_
    refine gg_getR (k' := 12) rfl gf_RX7_18 dX7_derivedNode_236 sh_22 pl_22 (by decide) (by decide) rr_22_0 ?_
    refine gg_iconst dX7_derivedNode_239 ?_
    refine gg_lconstv (x := 0) dX7_derivedNode_240 rfl ?_
    refine gg_callVi (own := RX7) (yt := gm_X0_leaf) rfl gl_RX7_64 gk_X0_leaf gr_X0_leaf dX7_derivedNode_241 (c_X0_leaf (d := d - 1) (k := 0) (x := 0) hD (by omega) (gNv_n _) rfl (by omega)) sh_12 pl_12 (by decide) rfl rfl rfl (Nat.le_of_ble_eq_true rfl) (by show _ ≤ d; omega) ⟨Nat.le_refl _, Nat.le_refl _⟩ (fun e2 μ' hc => ?_)
    obtain ⟨I1, J1, rfl, hD1, fa1, fb1, fc1, rfl⟩ := hc
    refine gg_ireti dX7_derivedNode_244 rfl ⟨rfl, rfl⟩ ?_
    refine ⟨I1, J1, [_], D.length, rfl, by simp, hD1, (fun p h1 h2 h3 h4 h5 h6 => (fa1 p h1 h2 h3 h4 h5 h6).trans (rfl)), (fun q h => (fb1 q h).trans (rfl)), (fun p h => (fc1 p h).trans (rfl)), rfl, ?_⟩
    rw [gDv0_is n nm K N Z i hi]
    unfold gdrF
    rw [hk]
    simp
  · refine gg_toI (b := 1) (by omega) ?_
    refine gg_tsw (off := 43) (tgt := 72) dX7_derivedNode_29 (by decide) (by decide) rfl (by decide) ?_
    refine gg_aload_n dX7_derivedNode_72 2 rfl ?_
    refine gg_getR (k' := 12) rfl gf_RX7_18 dX7_derivedNode_73 sh_22 pl_22 (by decide) (by decide) rr_22_0 ?_
    refine gg_iconst dX7_derivedNode_76 ?_
    refine gg_aload_n dX7_derivedNode_77 3 rfl ?_
    refine gg_iload_n dX7_derivedNode_78 4 rfl ?_
    refine gg_callVl (own := RX7) (yt := gm_X1_number) rfl gl_RX7_35 gk_X1_number gr_X1_number dX7_derivedNode_79 (c_X1_number (d := d - 1) hF hA hW.1 (j := i) hi (by omega)) (gFsh hF) (gFlt hF) (by decide) rfl rfl rfl (Nat.le_of_ble_eq_true rfl) (by show _ ≤ d; omega) ⟨Nat.le_refl _, Nat.le_refl _⟩ (fun e3 μ' hc => ?_)
    obtain ⟨rfl, rfl⟩ := hc
    refine gg_iload_n dX7_derivedNode_82 5 rfl ?_
    refine gg_i2l dX7_derivedNode_83 ?_
    refine gg_lcmp_ne (tgt := 92) dX7_derivedNode_84 dX7_derivedNode_85 (by decide) (fun hq => ?_) (fun hq => ?_)
    · have hq := hq
      refine gg_lconstv (x := 0) dX7_derivedNode_92 rfl ?_
      refine gg_callVi (own := RX7) (yt := gm_X0_leaf) rfl gl_RX7_64 gk_X0_leaf gr_X0_leaf dX7_derivedNode_93 (c_X0_leaf (d := d - 1) (k := 0) (x := 0) hD (by omega) (gNv_n _) rfl (by omega)) sh_12 pl_12 (by decide) rfl rfl rfl (Nat.le_of_ble_eq_true rfl) (by show _ ≤ d; omega) ⟨Nat.le_refl _, Nat.le_refl _⟩ (fun e4 μ' hc => ?_)
      obtain ⟨I1, J1, rfl, hD1, fa1, fb1, fc1, rfl⟩ := hc
      refine gg_ireti dX7_derivedNode_96 rfl ⟨rfl, rfl⟩ ?_
      refine ⟨I1, J1, [_], D.length, rfl, by simp, hD1, (fun p h1 h2 h3 h4 h5 h6 => (fa1 p h1 h2 h3 h4 h5 h6).trans (rfl)), (fun q h => (fb1 q h).trans (rfl)), (fun p h => (fc1 p h).trans (rfl)), rfl, ?_⟩
      rw [gDv0_is n nm K N Z i hi]
      unfold gdrF
      rw [hk]
      rw [if_neg hq]
      simp
    · have hq := hq
      refine gg_lconstv (x := 1) dX7_derivedNode_88 rfl ?_
      refine gg_goto (tgt := 93) dX7_derivedNode_89 (by decide) ?_
      refine gg_callVi (own := RX7) (yt := gm_X0_leaf) rfl gl_RX7_64 gk_X0_leaf gr_X0_leaf dX7_derivedNode_93 (c_X0_leaf (d := d - 1) (k := 0) (x := 1) hD (by omega) (gNv_n _) rfl (by omega)) sh_12 pl_12 (by decide) rfl rfl rfl (Nat.le_of_ble_eq_true rfl) (by show _ ≤ d; omega) ⟨Nat.le_refl _, Nat.le_refl _⟩ (fun e5 μ' hc => ?_)
      obtain ⟨I1, J1, rfl, hD1, fa1, fb1, fc1, rfl⟩ := hc
      refine gg_ireti dX7_derivedNode_96 rfl ⟨rfl, rfl⟩ ?_
      refine ⟨I1, J1, [_], D.length, rfl, by simp, hD1, (fun p h1 h2 h3 h4 h5 h6 => (fa1 p h1 h2 h3 h4 h5 h6).trans (rfl)), (fun q h => (fb1 q h).trans (rfl)), (fun p h => (fc1 p h).trans (rfl)), rfl, ?_⟩
      rw [gDv0_is n nm K N Z i hi]
      unfold gdrF
      rw [hk]
      rw [if_pos hq]
      simp
  · refine gg_toI (b := 2) (by omega) ?_
    refine gg_tsw (off := 68) (tgt := 97) dX7_derivedNode_29 (by decide) (by decide) rfl (by decide) ?_
    obtain ⟨e, rfl, he⟩ : ∃ e : Nat, er0 = (e : Int) ∧ D[e]? = some ((gDv0 n nm K N Z) (i + 1)) := by
      rcases r0 with ⟨hw, j, h1, -, h2⟩ | ⟨hw, -⟩
      · exact ⟨j, h1, by rw [h2]; unfold gVp; rw [if_pos hw]; rfl⟩
      · exact absurd (show 0 < gPar (K i) by rw [hk]; decide) hw
    refine gg_aload_n dX7_derivedNode_97 2 rfl ?_
    refine gg_getR (k' := 12) rfl gf_RX7_18 dX7_derivedNode_98 sh_22 pl_22 (by decide) (by decide) rr_22_0 ?_
    refine gg_iconst dX7_derivedNode_101 ?_
    refine gg_iload dX7_derivedNode_102 1 rfl ?_
    refine gg_iconst dX7_derivedNode_104 ?_
    refine gg_callVi (own := RX7) (yt := gm_X0_pair) rfl gl_RX7_68 gk_X0_pair gr_X0_pair dX7_derivedNode_105 (c_X0_pair (d := d - 1) (k := 2) (la := (gDv0 n nm K N Z) (i + 1)) (lb := []) hD (by omega) (gNv_z (by omega) (by omega) (by omega)) (Or.inl ⟨by decide, e, rfl, gget_lt he, he⟩) (Or.inr ⟨by decide, rfl, rfl⟩) (by decide) (by omega)) sh_12 pl_12 (by decide) rfl rfl rfl (Nat.le_of_ble_eq_true rfl) (by show _ ≤ d; omega) ⟨Nat.le_refl _, Nat.le_refl _⟩ (fun e6 μ' hc => ?_)
    obtain ⟨I1, J1, rfl, hD1, fa1, fb1, fc1, rfl⟩ := hc
    simp only [List.append_nil] at hD1
    refine gg_ireti dX7_derivedNode_108 rfl ⟨rfl, rfl⟩ ?_
    refine ⟨I1, J1, [_], D.length, rfl, by simp, hD1, (fun p h1 h2 h3 h4 h5 h6 => (fa1 p h1 h2 h3 h4 h5 h6).trans (rfl)), (fun q h => (fb1 q h).trans (rfl)), (fun p h => (fc1 p h).trans (rfl)), rfl, ?_⟩
    rw [gDv0_is n nm K N Z i hi]
    unfold gdrF
    rw [hk]
    simp
  · refine gg_toI (b := 3) (by omega) ?_
    refine gg_tsw (off := 80) (tgt := 109) dX7_derivedNode_29 (by decide) (by decide) rfl (by decide) ?_
    obtain ⟨e, rfl, he⟩ : ∃ e : Nat, er0 = (e : Int) ∧ D[e]? = some ((gDv0 n nm K N Z) (i + 1)) := by
      rcases r0 with ⟨hw, j, h1, -, h2⟩ | ⟨hw, -⟩
      · exact ⟨j, h1, by rw [h2]; unfold gVp; rw [if_pos hw]; rfl⟩
      · exact absurd (show 0 < gPar (K i) by rw [hk]; decide) hw
    obtain ⟨f, rfl, hf⟩ : ∃ f : Nat, er1 = (f : Int) ∧ D[f]? = some ((gDv0 n nm K N Z) (gPt Z i 1)) := by
      rcases r1 with ⟨hw, j, h1, -, h2⟩ | ⟨hw, -⟩
      · exact ⟨j, h1, by rw [h2]; unfold gVp; rw [if_pos hw]⟩
      · exact absurd (show 1 < gPar (K i) by rw [hk]; decide) hw
    refine gg_aload_n dX7_derivedNode_109 2 rfl ?_
    refine gg_getR (k' := 12) rfl gf_RX7_18 dX7_derivedNode_110 sh_22 pl_22 (by decide) (by decide) rr_22_0 ?_
    refine gg_iconst dX7_derivedNode_113 ?_
    refine gg_iload dX7_derivedNode_114 1 rfl ?_
    refine gg_iload dX7_derivedNode_116 0 rfl ?_
    refine gg_callVi (own := RX7) (yt := gm_X0_pair) rfl gl_RX7_68 gk_X0_pair gr_X0_pair dX7_derivedNode_118 (c_X0_pair (d := d - 1) (k := 3) (la := (gDv0 n nm K N Z) (i + 1)) (lb := (gDv0 n nm K N Z) (gPt Z i 1)) hD (by omega) (gNv_z (by omega) (by omega) (by omega)) (Or.inl ⟨by decide, e, rfl, gget_lt he, he⟩) (Or.inl ⟨by decide, f, rfl, gget_lt hf, hf⟩) (by decide) (by omega)) sh_12 pl_12 (by decide) rfl rfl rfl (Nat.le_of_ble_eq_true rfl) (by show _ ≤ d; omega) ⟨Nat.le_refl _, Nat.le_refl _⟩ (fun e7 μ' hc => ?_)
    obtain ⟨I1, J1, rfl, hD1, fa1, fb1, fc1, rfl⟩ := hc
    refine gg_ireti dX7_derivedNode_121 rfl ⟨rfl, rfl⟩ ?_
    refine ⟨I1, J1, [_], D.length, rfl, by simp, hD1, (fun p h1 h2 h3 h4 h5 h6 => (fa1 p h1 h2 h3 h4 h5 h6).trans (rfl)), (fun q h => (fb1 q h).trans (rfl)), (fun p h => (fc1 p h).trans (rfl)), rfl, ?_⟩
    rw [gDv0_is n nm K N Z i hi]
    unfold gdrF
    rw [hk]
    simp
  · refine gg_toI (b := 4) (by omega) ?_
    refine gg_tsw (off := 93) (tgt := 122) dX7_derivedNode_29 (by decide) (by decide) rfl (by decide) ?_
    obtain ⟨e, rfl, he⟩ : ∃ e : Nat, er0 = (e : Int) ∧ D[e]? = some ((gDv0 n nm K N Z) (i + 1)) := by
      rcases r0 with ⟨hw, j, h1, -, h2⟩ | ⟨hw, -⟩
      · exact ⟨j, h1, by rw [h2]; unfold gVp; rw [if_pos hw]; rfl⟩
      · exact absurd (show 0 < gPar (K i) by rw [hk]; decide) hw
    obtain ⟨f, rfl, hf⟩ : ∃ f : Nat, er1 = (f : Int) ∧ D[f]? = some ((gDv0 n nm K N Z) (gPt Z i 1)) := by
      rcases r1 with ⟨hw, j, h1, -, h2⟩ | ⟨hw, -⟩
      · exact ⟨j, h1, by rw [h2]; unfold gVp; rw [if_pos hw]⟩
      · exact absurd (show 1 < gPar (K i) by rw [hk]; decide) hw
    refine gg_aload_n dX7_derivedNode_122 2 rfl ?_
    refine gg_aload_n dX7_derivedNode_123 2 rfl ?_
    refine gg_getR (k' := 23) rfl gf_RX7_9 dX7_derivedNode_124 sh_22 pl_22 (by decide) (by decide) rr_22_1 ?_
    refine gg_aload_n dX7_derivedNode_127 3 rfl ?_
    refine gg_iload_n dX7_derivedNode_128 4 rfl ?_
    refine gg_iconst dX7_derivedNode_129 ?_
    refine gg_callSi (own := RX7) (yt := gm_X7_partOf) rfl gl_RX7_39 gk_X7_partOf gr_X7_partOf dX7_derivedNode_130 (c_X7_partOf (d := d - 1) hF hA hW (p := 23) sh_23 pl_23 (V := (gSt1 K N Z)) (i := i) (w := 0) hi (by omega) hP (by omega)) rfl rfl (Nat.le_of_ble_eq_true rfl) (by show _ ≤ d; omega) ⟨Nat.le_refl _, Nat.le_refl _⟩ (fun ep0 μ' hc => ?_)
    obtain ⟨rfl, p0⟩ := hc
    obtain ⟨a, rfl, ha⟩ : ∃ a : Nat, ep0 = (a : Int) ∧ D[a]? = some ((gSt1 K N Z) (i + 1)) := by
      rcases p0 with ⟨hw, j, h1, -, h2⟩ | ⟨hw, -⟩
      · exact ⟨j, h1, by rw [h2]; unfold gVp; rw [if_pos hw]; rfl⟩
      · exact absurd (show 0 < gPar (K i) by rw [hk]; decide) hw
    refine gg_iload dX7_derivedNode_133 1 rfl ?_
    refine gg_aload_n dX7_derivedNode_135 2 rfl ?_
    refine gg_getR (k' := 23) rfl gf_RX7_9 dX7_derivedNode_136 sh_22 pl_22 (by decide) (by decide) rr_22_1 ?_
    refine gg_aload_n dX7_derivedNode_139 3 rfl ?_
    refine gg_iload_n dX7_derivedNode_140 4 rfl ?_
    refine gg_iconst dX7_derivedNode_141 ?_
    refine gg_callSi (own := RX7) (yt := gm_X7_partOf) rfl gl_RX7_39 gk_X7_partOf gr_X7_partOf dX7_derivedNode_142 (c_X7_partOf (d := d - 1) hF hA hW (p := 23) sh_23 pl_23 (V := (gSt1 K N Z)) (i := i) (w := 1) hi (by omega) hP (by omega)) rfl rfl (Nat.le_of_ble_eq_true rfl) (by show _ ≤ d; omega) ⟨Nat.le_refl _, Nat.le_refl _⟩ (fun ep1 μ' hc => ?_)
    obtain ⟨rfl, p1⟩ := hc
    obtain ⟨b, rfl, hb⟩ : ∃ b : Nat, ep1 = (b : Int) ∧ D[b]? = some ((gSt1 K N Z) (gPt Z i 1)) := by
      rcases p1 with ⟨hw, j, h1, -, h2⟩ | ⟨hw, -⟩
      · exact ⟨j, h1, by rw [h2]; unfold gVp; rw [if_pos hw]⟩
      · exact absurd (show 1 < gPar (K i) by rw [hk]; decide) hw
    refine gg_iload dX7_derivedNode_145 0 rfl ?_
    refine gg_callVi (own := RX7) (yt := gm_X7_derivedProduct) rfl gl_RX7_72 gk_X7_derivedProduct gr_X7_derivedProduct dX7_derivedNode_147 (c_X7_derivedProduct (d := d - 1) hD (by omega) ha he hb hf (by omega)) sh_22 pl_22 (by decide) rfl rfl rfl (Nat.le_of_ble_eq_true rfl) (by show _ ≤ d; omega) ⟨Nat.le_refl _, Nat.le_refl _⟩ (fun e8 μ' hc => ?_)
    obtain ⟨I1, J1, E, r, rfl, hE, hD1, fa1, fb1, fc1, rfl, hr⟩ := hc
    refine gg_ireti dX7_derivedNode_150 rfl ⟨rfl, rfl⟩ ?_
    refine ⟨I1, J1, E, r, rfl, by omega, hD1, (fun p h1 h2 h3 h4 h5 h6 => (fa1 p h1 h2 h3 h4 h5 h6).trans (rfl)), (fun q h => (fb1 q h).trans (rfl)), (fun p h => (fc1 p h).trans (rfl)), rfl, ?_⟩
    rw [hr]
    rw [gDv0_is n nm K N Z i hi]
    unfold gdrF
    rw [hk]
    exact rfl
  · refine gg_toI (b := 5) (by omega) ?_
    refine gg_tsw (off := 122) (tgt := 151) dX7_derivedNode_29 (by decide) (by decide) rfl (by decide) ?_
    obtain ⟨e, rfl, he⟩ : ∃ e : Nat, er0 = (e : Int) ∧ D[e]? = some ((gDv0 n nm K N Z) (i + 1)) := by
      rcases r0 with ⟨hw, j, h1, -, h2⟩ | ⟨hw, -⟩
      · exact ⟨j, h1, by rw [h2]; unfold gVp; rw [if_pos hw]; rfl⟩
      · exact absurd (show 0 < gPar (K i) by rw [hk]; decide) hw
    obtain ⟨m0, hm0, hNm⟩ := hpw hk
    refine gg_aload_n dX7_derivedNode_151 2 rfl ?_
    refine gg_aload_n dX7_derivedNode_152 2 rfl ?_
    refine gg_getR (k' := 23) rfl gf_RX7_9 dX7_derivedNode_153 sh_22 pl_22 (by decide) (by decide) rr_22_1 ?_
    refine gg_aload_n dX7_derivedNode_156 3 rfl ?_
    refine gg_iload_n dX7_derivedNode_157 4 rfl ?_
    refine gg_iconst dX7_derivedNode_158 ?_
    refine gg_callSi (own := RX7) (yt := gm_X7_partOf) rfl gl_RX7_39 gk_X7_partOf gr_X7_partOf dX7_derivedNode_159 (c_X7_partOf (d := d - 1) hF hA hW (p := 23) sh_23 pl_23 (V := (gSt1 K N Z)) (i := i) (w := 0) hi (by omega) hP (by omega)) rfl rfl (Nat.le_of_ble_eq_true rfl) (by show _ ≤ d; omega) ⟨Nat.le_refl _, Nat.le_refl _⟩ (fun ep0 μ' hc => ?_)
    obtain ⟨rfl, p0⟩ := hc
    obtain ⟨a, rfl, ha⟩ : ∃ a : Nat, ep0 = (a : Int) ∧ D[a]? = some ((gSt1 K N Z) (i + 1)) := by
      rcases p0 with ⟨hw, j, h1, -, h2⟩ | ⟨hw, -⟩
      · exact ⟨j, h1, by rw [h2]; unfold gVp; rw [if_pos hw]; rfl⟩
      · exact absurd (show 0 < gPar (K i) by rw [hk]; decide) hw
    refine gg_iload dX7_derivedNode_162 1 rfl ?_
    refine gg_aload_n dX7_derivedNode_164 3 rfl ?_
    refine gg_iload_n dX7_derivedNode_165 4 rfl ?_
    refine gg_callVl (own := RX7) (yt := gm_X1_number) rfl gl_RX7_35 gk_X1_number gr_X1_number dX7_derivedNode_166 (c_X1_number (d := d - 1) hF hA hW.1 (j := i) hi (by omega)) (gFsh hF) (gFlt hF) (by decide) rfl rfl rfl (Nat.le_of_ble_eq_true rfl) (by show _ ≤ d; omega) ⟨Nat.le_refl _, Nat.le_refl _⟩ (fun e9 μ' hc => ?_)
    obtain ⟨rfl, rfl⟩ := hc
    refine gg_toL (b := Int64.ofNat m0) hNm ?_
    refine gg_callVi (own := RX7) (yt := gm_X7_derivedPower) rfl gl_RX7_76 gk_X7_derivedPower gr_X7_derivedPower dX7_derivedNode_169 (c_X7_derivedPower (d := d - 1) hD (by omega) ha he hm0 (by omega)) sh_22 pl_22 (by decide) rfl rfl rfl (Nat.le_of_ble_eq_true rfl) (by show _ ≤ d; omega) ⟨Nat.le_refl _, Nat.le_refl _⟩ (fun e10 μ' hc => ?_)
    obtain ⟨I1, J1, E, r, rfl, hE, hD1, fa1, fb1, fc1, rfl, hr⟩ := hc
    refine gg_ireti dX7_derivedNode_172 rfl ⟨rfl, rfl⟩ ?_
    refine ⟨I1, J1, E, r, rfl, by omega, hD1, (fun p h1 h2 h3 h4 h5 h6 => (fa1 p h1 h2 h3 h4 h5 h6).trans (rfl)), (fun q h => (fb1 q h).trans (rfl)), (fun p h => (fc1 p h).trans (rfl)), rfl, ?_⟩
    rw [hr]
    rw [gDv0_is n nm K N Z i hi]
    unfold gdrF
    rw [hk]
    rw [hNm]
    exact rfl
  · refine gg_toI (b := 6) (by omega) ?_
    refine gg_tsw (off := 144) (tgt := 173) dX7_derivedNode_29 (by decide) (by decide) rfl (by decide) ?_
    obtain ⟨e, rfl, he⟩ : ∃ e : Nat, er0 = (e : Int) ∧ D[e]? = some ((gDv0 n nm K N Z) (i + 1)) := by
      rcases r0 with ⟨hw, j, h1, -, h2⟩ | ⟨hw, -⟩
      · exact ⟨j, h1, by rw [h2]; unfold gVp; rw [if_pos hw]; rfl⟩
      · exact absurd (show 0 < gPar (K i) by rw [hk]; decide) hw
    obtain ⟨f, rfl, hf⟩ : ∃ f : Nat, er1 = (f : Int) ∧ D[f]? = some ((gDv0 n nm K N Z) (gPt Z i 1)) := by
      rcases r1 with ⟨hw, j, h1, -, h2⟩ | ⟨hw, -⟩
      · exact ⟨j, h1, by rw [h2]; unfold gVp; rw [if_pos hw]⟩
      · exact absurd (show 1 < gPar (K i) by rw [hk]; decide) hw
    refine gg_aload_n dX7_derivedNode_173 2 rfl ?_
    refine gg_getR (k' := 12) rfl gf_RX7_18 dX7_derivedNode_174 sh_22 pl_22 (by decide) (by decide) rr_22_0 ?_
    refine gg_bipush dX7_derivedNode_177 (by decide) ?_
    refine gg_lconstv (x := 0) dX7_derivedNode_179 rfl ?_
    refine gg_aload_n dX7_derivedNode_180 2 rfl ?_
    refine gg_getR (k' := 23) rfl gf_RX7_9 dX7_derivedNode_181 sh_22 pl_22 (by decide) (by decide) rr_22_1 ?_
    refine gg_aload_n dX7_derivedNode_184 3 rfl ?_
    refine gg_iload_n dX7_derivedNode_185 4 rfl ?_
    refine gg_iconst dX7_derivedNode_186 ?_
    refine gg_callSi (own := RX7) (yt := gm_X7_partOf) rfl gl_RX7_39 gk_X7_partOf gr_X7_partOf dX7_derivedNode_187 (c_X7_partOf (d := d - 1) hF hA hW (p := 23) sh_23 pl_23 (V := (gSt1 K N Z)) (i := i) (w := 0) hi (by omega) hP (by omega)) rfl rfl (Nat.le_of_ble_eq_true rfl) (by show _ ≤ d; omega) ⟨Nat.le_refl _, Nat.le_refl _⟩ (fun ep0 μ' hc => ?_)
    obtain ⟨rfl, p0⟩ := hc
    obtain ⟨a, rfl, ha⟩ : ∃ a : Nat, ep0 = (a : Int) ∧ D[a]? = some ((gSt1 K N Z) (i + 1)) := by
      rcases p0 with ⟨hw, j, h1, -, h2⟩ | ⟨hw, -⟩
      · exact ⟨j, h1, by rw [h2]; unfold gVp; rw [if_pos hw]; rfl⟩
      · exact absurd (show 0 < gPar (K i) by rw [hk]; decide) hw
    refine gg_iload dX7_derivedNode_190 0 rfl ?_
    refine gg_aload_n dX7_derivedNode_192 2 rfl ?_
    refine gg_getR (k' := 24) rfl gf_RX7_15 dX7_derivedNode_193 sh_22 pl_22 (by decide) (by decide) rr_22_2 ?_
    refine gg_aload_n dX7_derivedNode_196 3 rfl ?_
    refine gg_iload_n dX7_derivedNode_197 4 rfl ?_
    refine gg_iconst dX7_derivedNode_198 ?_
    refine gg_callSi (own := RX7) (yt := gm_X7_partOf) rfl gl_RX7_39 gk_X7_partOf gr_X7_partOf dX7_derivedNode_199 (c_X7_partOf (d := d - 1) hF hA hW (p := 24) sh_24 pl_24 (V := (gDv0 n nm K N Z)) (i := i) (w := 2) hi (by omega) hT (by omega)) rfl rfl (Nat.le_of_ble_eq_true rfl) (by show _ ≤ d; omega) ⟨Nat.le_refl _, Nat.le_refl _⟩ (fun er2 μ' hc => ?_)
    obtain ⟨rfl, r2⟩ := hc
    obtain ⟨g, rfl, hg⟩ : ∃ g : Nat, er2 = (g : Int) ∧ D[g]? = some ((gDv0 n nm K N Z) (gPt Z i 2)) := by
      rcases r2 with ⟨hw, j, h1, -, h2⟩ | ⟨hw, -⟩
      · exact ⟨j, h1, by rw [h2]; unfold gVp; rw [if_pos hw]⟩
      · exact absurd (show 2 < gPar (K i) by rw [hk]; decide) hw
    refine gg_callVi (own := RX7) (yt := gm_X0_make) rfl gl_RX7_43 gk_X0_make gr_X0_make dX7_derivedNode_202 (c_X0_make (d := d - 1) (k := 6) (x := 0) (la := (gSt1 K N Z) (i + 1)) (lb := (gDv0 n nm K N Z) (gPt Z i 1)) (lc := (gDv0 n nm K N Z) (gPt Z i 2)) hD (by omega) (gNv_z (by omega) (by omega) (by omega)) (Or.inl ⟨by decide, a, rfl, gget_lt ha, ha⟩) (Or.inl ⟨by decide, f, rfl, gget_lt hf, hf⟩) (Or.inl ⟨by decide, g, rfl, gget_lt hg, hg⟩) (by omega)) sh_12 pl_12 (by decide) rfl rfl rfl (Nat.le_of_ble_eq_true rfl) (by show _ ≤ d; omega) ⟨Nat.le_refl _, Nat.le_refl _⟩ (fun e11 μ' hc => ?_)
    obtain ⟨I1, J1, rfl, hD1, fa1, fb1, fc1, rfl⟩ := hc
    refine gg_ireti dX7_derivedNode_205 rfl ⟨rfl, rfl⟩ ?_
    refine ⟨I1, J1, [_], D.length, rfl, by simp, hD1, (fun p h1 h2 h3 h4 h5 h6 => (fa1 p h1 h2 h3 h4 h5 h6).trans (rfl)), (fun q h => (fb1 q h).trans (rfl)), (fun p h => (fc1 p h).trans (rfl)), rfl, ?_⟩
    rw [gDv0_is n nm K N Z i hi]
    unfold gdrF
    rw [hk]
    simp
  · refine gg_toI (b := 7) (by omega) ?_
    refine gg_tsw (off := 177) (tgt := 206) dX7_derivedNode_29 (by decide) (by decide) rfl (by decide) ?_
    obtain ⟨e, rfl, he⟩ : ∃ e : Nat, er0 = (e : Int) ∧ D[e]? = some ((gDv0 n nm K N Z) (i + 1)) := by
      rcases r0 with ⟨hw, j, h1, -, h2⟩ | ⟨hw, -⟩
      · exact ⟨j, h1, by rw [h2]; unfold gVp; rw [if_pos hw]; rfl⟩
      · exact absurd (show 0 < gPar (K i) by rw [hk]; decide) hw
    refine gg_aload_n dX7_derivedNode_206 2 rfl ?_
    refine gg_aload_n dX7_derivedNode_207 2 rfl ?_
    refine gg_getR (k' := 23) rfl gf_RX7_9 dX7_derivedNode_208 sh_22 pl_22 (by decide) (by decide) rr_22_1 ?_
    refine gg_aload_n dX7_derivedNode_211 3 rfl ?_
    refine gg_iload_n dX7_derivedNode_212 4 rfl ?_
    refine gg_iconst dX7_derivedNode_213 ?_
    refine gg_callSi (own := RX7) (yt := gm_X7_partOf) rfl gl_RX7_39 gk_X7_partOf gr_X7_partOf dX7_derivedNode_214 (c_X7_partOf (d := d - 1) hF hA hW (p := 23) sh_23 pl_23 (V := (gSt1 K N Z)) (i := i) (w := 0) hi (by omega) hP (by omega)) rfl rfl (Nat.le_of_ble_eq_true rfl) (by show _ ≤ d; omega) ⟨Nat.le_refl _, Nat.le_refl _⟩ (fun ep0 μ' hc => ?_)
    obtain ⟨rfl, p0⟩ := hc
    obtain ⟨a, rfl, ha⟩ : ∃ a : Nat, ep0 = (a : Int) ∧ D[a]? = some ((gSt1 K N Z) (i + 1)) := by
      rcases p0 with ⟨hw, j, h1, -, h2⟩ | ⟨hw, -⟩
      · exact ⟨j, h1, by rw [h2]; unfold gVp; rw [if_pos hw]; rfl⟩
      · exact absurd (show 0 < gPar (K i) by rw [hk]; decide) hw
    refine gg_iload dX7_derivedNode_217 1 rfl ?_
    refine gg_aload_n dX7_derivedNode_219 2 rfl ?_
    refine gg_getR (k' := 23) rfl gf_RX7_9 dX7_derivedNode_220 sh_22 pl_22 (by decide) (by decide) rr_22_1 ?_
    refine gg_aload_n dX7_derivedNode_223 3 rfl ?_
    refine gg_iload_n dX7_derivedNode_224 4 rfl ?_
    refine gg_iconst dX7_derivedNode_225 ?_
    refine gg_callSi (own := RX7) (yt := gm_X7_partOf) rfl gl_RX7_39 gk_X7_partOf gr_X7_partOf dX7_derivedNode_226 (c_X7_partOf (d := d - 1) hF hA hW (p := 23) sh_23 pl_23 (V := (gSt1 K N Z)) (i := i) (w := 0) hi (by omega) hP (by omega)) rfl rfl (Nat.le_of_ble_eq_true rfl) (by show _ ≤ d; omega) ⟨Nat.le_refl _, Nat.le_refl _⟩ (fun ep1 μ' hc => ?_)
    obtain ⟨rfl, p1⟩ := hc
    obtain ⟨b, rfl, hb⟩ : ∃ b : Nat, ep1 = (b : Int) ∧ D[b]? = some ((gSt1 K N Z) (i + 1)) := by
      rcases p1 with ⟨hw, j, h1, -, h2⟩ | ⟨hw, -⟩
      · exact ⟨j, h1, by rw [h2]; unfold gVp; rw [if_pos hw]; rfl⟩
      · exact absurd (show 0 < gPar (K i) by rw [hk]; decide) hw
    refine gg_iload dX7_derivedNode_229 1 rfl ?_
    refine gg_callVi (own := RX7) (yt := gm_X7_derivedProduct) rfl gl_RX7_72 gk_X7_derivedProduct gr_X7_derivedProduct dX7_derivedNode_231 (c_X7_derivedProduct (d := d - 1) hD (by omega) ha he hb he (by omega)) sh_22 pl_22 (by decide) rfl rfl rfl (Nat.le_of_ble_eq_true rfl) (by show _ ≤ d; omega) ⟨Nat.le_refl _, Nat.le_refl _⟩ (fun e12 μ' hc => ?_)
    obtain ⟨I1, J1, E, r, rfl, hE, hD1, fa1, fb1, fc1, rfl, hr⟩ := hc
    refine gg_ireti dX7_derivedNode_234 rfl ⟨rfl, rfl⟩ ?_
    refine ⟨I1, J1, E, r, rfl, by omega, hD1, (fun p h1 h2 h3 h4 h5 h6 => (fa1 p h1 h2 h3 h4 h5 h6).trans (rfl)), (fun q h => (fb1 q h).trans (rfl)), (fun p h => (fc1 p h).trans (rfl)), rfl, ?_⟩
    rw [hr]
    rw [gDv0_is n nm K N Z i hi]
    unfold gdrF
    rw [hk]
    exact rfl

set_option maxRecDepth 10000 in
theorem w_X7_derived {l : Launch} {Γ : gC} {ad : Nat → Nat} {I0 : Nat → Nat → Int} {J0 : Nat → Nat → Int64} {d : Nat} {a n : Nat} {K : Nat → Nat} {N : Nat → Int64} {Z : Nat → Nat} (hF : gF a) (hA : gAt I0 J0 a n K N Z) (hW : gWf n K N Z) {nm : Int} (hn0 : 0 < n) (hd : 7 ≤ d) : ∀ (m : Nat) (k : Nat) (D : List gLn) (I : Nat → Nat → Int) (J : Nat → Nat → Int64), k < m → (k ≤ n) → (gDf I J D) → (D.length + 5 * k ≤ 5 * n) → (gTa I 23 D (gSt1 K N Z) k n) → (gTa I 24 D (gDv0 n nm K N Z) k n) → (∀ p, p < 12 ∨ (20 ≤ p ∧ p ≤ 21) ∨ 25 ≤ p → I p = I0 p) → (∀ q, q ≠ 6 → I 12 q = I0 12 q) → (∀ p, p ≠ 14 → J p = J0 p) → gG l Γ gm_X7_derived (d, 0, 0, 0, 0) 14 [(3, .int (iv ((k : Int) - 1))), (0, .ref (gad (gSS ad) 22)), (1, .ref (gad (gSS ad) a)), (2, .int (iv nm))] [] (gSS ad, I, J) (gDi (fun e μ => ∃ I1 J1 D r, μ = (gSS ad, I1, J1) ∧ gDf I1 J1 D ∧ (∀ p, p < 12 ∨ (20 ≤ p ∧ p ≤ 21) ∨ 25 ≤ p → I1 p = I0 p) ∧ (∀ q, q ≠ 6 → I1 12 q = I0 12 q) ∧ (∀ p, p ≠ 14 → J1 p = J0 p) ∧ e = ((r : Nat) : Int) ∧ D[r]? = some ((gDv0 n nm K N Z) 0))) := by
  intro m
  induction m with
  | zero => intros; omega
  | succ m ih =>
    intro k D I J hm hk hD hDl hP hT f1 f2 f3
    have hn := hW.1
    refine gg_iload_n dX7_derived_14 0 rfl ?_
    refine gg_if_lt (tgt := 53) dX7_derived_15 (by decide) (by omega) (fun hb => ?_) (fun hb => ?_)
    · have hk0 : k = 0 := by omega
      subst hk0
      obtain ⟨r, hr, hDr⟩ := hT 0 (Nat.le_refl _) hn0
      refine gg_aload_n dX7_derived_53 1 rfl ?_
      refine gg_getR (k' := 24) rfl gf_RX7_15 dX7_derived_54 sh_22 pl_22 (by decide) (by decide) rr_22_2 ?_
      refine gg_iconst dX7_derived_57 ?_
      refine gg_ialdj 0 dX7_derived_58 sh_24 pl_24 (by decide) rfl (by omega) ?_
      refine gg_toI (b := (r : Int)) hr ?_
      refine gg_ireti dX7_derived_59 rfl ⟨rfl, rfl⟩ ?_
      exact ⟨I, J, D, r, rfl, hD, f1, f2, f3, rfl, hDr⟩
    · obtain ⟨j, rfl⟩ : ∃ j : Nat, k = j + 1 := ⟨k - 1, by omega⟩
      rw [show (((j + 1 : Nat) : Int) - 1) = (j : Int) by omega]
      refine gg_aload_n dX7_derived_18 1 rfl ?_
      refine gg_getR (k' := 23) rfl gf_RX7_9 dX7_derived_19 sh_22 pl_22 (by decide) (by decide) rr_22_1 ?_
      refine gg_iload_n dX7_derived_22 0 rfl ?_
      refine gg_aload_n dX7_derived_23 1 rfl ?_
      refine gg_aload_n dX7_derived_24 1 rfl ?_
      refine gg_getR (k' := 23) rfl gf_RX7_9 dX7_derived_25 sh_22 pl_22 (by decide) (by decide) rr_22_1 ?_
      refine gg_aload_n dX7_derived_28 2 rfl ?_
      refine gg_iload_n dX7_derived_29 0 rfl ?_
      refine gg_callVi (own := RX7) (yt := gm_X7_remade) rfl gl_RX7_56 gk_X7_remade gr_X7_remade dX7_derived_30 (c_X7_remade (d := d - 1) hF (gAt_T hF hA f1 f3) hW (p := 23) sh_23 pl_23 (V := (gSt1 K N Z)) (i := j) (by omega) hP hD (by omega) (by omega)) sh_22 pl_22 (by decide) rfl rfl rfl (Nat.le_of_ble_eq_true rfl) (by show _ ≤ d; omega) ⟨Nat.le_refl _, Nat.le_refl _⟩ (fun e1 μ' hc => ?_)
      obtain ⟨I1, J1, rfl, hD1, g1, g2, g3, rfl⟩ := hc
      rw [← gSt1_vp hW (by omega)] at hD1
      refine gg_iastj j dX7_derived_33 sh_23 pl_23 (by decide) rfl (by omega) ?_
      refine gg_memI (fun I2 hI2 => ?_)
      have k2 : ∀ p, p ≠ 23 → I2 p = I1 p := fun p h => by rw [hI2, gu_other h]
      have hD2 : gDf I2 J1 (D ++ [(gSt1 K N Z) j]) := gDf_W hD1 (fun p h => k2 p (by omega)) (by rw [k2 12 (by omega)]) rfl
      have e23 : I1 23 = I 23 := g1 23 (by omega) (by omega) (by omega) (by omega) (by omega) (by omega)
      have e24 : I2 24 = I 24 := (k2 24 (by omega)).trans (g1 24 (by omega) (by omega) (by omega) (by omega) (by omega) (by omega))
      have hP2 : gTa I2 23 (D ++ [(gSt1 K N Z) j]) (gSt1 K N Z) j n := by
        intro t h1 h2
        by_cases htj : t = j
        · subst htj
          exact ⟨D.length, by rw [hI2, gu_s], gget_last⟩
        · obtain ⟨i, x1, x2⟩ := hP t (by omega) h2
          exact ⟨i, by rw [hI2, gu_n (by omega), e23]; exact x1, gget_app x2⟩
      have hT2 : gTa I2 24 (D ++ [(gSt1 K N Z) j]) (gDv0 n nm K N Z) (j + 1) n := gTa_app hT e24 (Nat.le_refl _)
      have f1b : ∀ p, p < 12 ∨ (20 ≤ p ∧ p ≤ 21) ∨ 25 ≤ p → I2 p = I0 p := fun p h => by rw [k2 p (by omega), g1 p (by omega) (by omega) (by omega) (by omega) (by omega) (by omega)]; exact f1 p h
      have f3b : ∀ p, p ≠ 14 → J1 p = J0 p := fun p h => by rw [g3 p h]; exact f3 p h
      refine gg_aload_n dX7_derived_34 1 rfl ?_
      refine gg_getR (k' := 24) rfl gf_RX7_15 dX7_derived_35 sh_22 pl_22 (by decide) (by decide) rr_22_2 ?_
      refine gg_iload_n dX7_derived_38 0 rfl ?_
      refine gg_aload_n dX7_derived_39 1 rfl ?_
      refine gg_aload_n dX7_derived_40 2 rfl ?_
      refine gg_iload_n dX7_derived_41 0 rfl ?_
      refine gg_iload_n dX7_derived_42 3 rfl ?_
      refine gg_callVi (own := RX7) (yt := gm_X7_derivedNode) rfl gl_RX7_60 gk_X7_derivedNode gr_X7_derivedNode dX7_derived_43 (c_X7_derivedNode (d := d - 1) hF (gAt_T hF hA f1b f3b) hW (i := j) (nm := nm) (by omega) (fun t h1 h2 => hP2 t (by omega) h2) hT2 hD2 (by simp; omega) (by omega)) sh_22 pl_22 (by decide) rfl rfl rfl (Nat.le_of_ble_eq_true rfl) (by show _ ≤ d; omega) ⟨Nat.le_refl _, Nat.le_refl _⟩ (fun e2 μ' hc => ?_)
      obtain ⟨I3, J3, E, r, rfl, hE, hD3, p1, p2, p3, rfl, hr⟩ := hc
      refine gg_iastj j dX7_derived_46 sh_24 pl_24 (by decide) rfl (by omega) ?_
      refine gg_memI (fun I4 hI4 => ?_)
      refine gg_iincv (ls' := [(3, .int (iv ((j : Int) - 1))), (0, .ref (gad (gSS ad) 22)), (1, .ref (gad (gSS ad) a)), (2, .int (iv nm))]) dX7_derived_47 0 rfl (by omega) (by decide) rfl ?_
      refine gg_goto (tgt := 14) dX7_derived_50 (by decide) ?_
      have k4 : ∀ p, p ≠ 24 → I4 p = I3 p := fun p h => by rw [hI4, gu_other h]
      have q24 : I3 24 = I2 24 := p1 24 (by omega) (by omega) (by omega) (by omega) (by omega) (by omega)
      refine ih j (D ++ [(gSt1 K N Z) j] ++ E) I4 J3 (by omega) (by omega) (gDf_W hD3 (fun p h => k4 p (by omega)) (by rw [k4 12 (by omega)]) rfl) (by simp only [List.length_append, List.length_cons, List.length_nil]; omega) (gTa_app hP2 (by rw [k4 23 (by omega), p1 23 (by omega) (by omega) (by omega) (by omega) (by omega) (by omega)]) (Nat.le_refl _)) (fun t h1 h2 => ?_) (fun p h => by rw [k4 p (by omega), p1 p (by omega) (by omega) (by omega) (by omega) (by omega) (by omega)]; exact f1b p h) (fun q h => by rw [k4 12 (by omega), p2 q h, k2 12 (by omega), g2 q h]; exact f2 q h) (fun p h => by rw [p3 p h]; exact f3b p h)
      by_cases htj : t = j
      · subst htj
        exact ⟨r, by rw [hI4, gu_s], hr⟩
      · obtain ⟨i, x1, x2⟩ := hT2 t (by omega) h2
        exact ⟨i, by rw [hI4, gu_n (by omega), q24]; exact x1, gget_app x2⟩

set_option maxRecDepth 10000 in
theorem c_X7_derived {l : Launch} {Γ : gC} {ad : Nat → Nat} {I : Nat → Nat → Int} {J : Nat → Nat → Int64} {d : Nat} {a n : Nat} {K : Nat → Nat} {N : Nat → Int64} {Z : Nat → Nat} (hF : gF a) (hA : gAt I J a n K N Z) (hW : gWf n K N Z) {nm : Int} (hn0 : 0 < n) (hd : 7 ≤ d) : gKi l Γ gm_X7_derived d [.ref (gad (gSS ad) 22), .ref (gad (gSS ad) a), .int (iv nm)] (gSS ad, I, J) (fun e μ => ∃ I1 J1 D r, μ = (gSS ad, I1, J1) ∧ gDf I1 J1 D ∧ (∀ p, p < 12 ∨ (20 ≤ p ∧ p ≤ 21) ∨ 25 ≤ p → I1 p = I p) ∧ (∀ q, q ≠ 6 → I1 12 q = I 12 q) ∧ (∀ p, p ≠ 14 → J1 p = J p) ∧ e = ((r : Nat) : Int) ∧ D[r]? = some ((gDv0 n nm K N Z) 0)) := by
  refine gKi_of gk_X7_derived.1 (Nat.le_of_ble_eq_true rfl) ?_
  show gG l Γ gm_X7_derived (d, 0, 0, 0, 0) 0 [(0, .ref (gad (gSS ad) 22)), (1, .ref (gad (gSS ad) a)), (2, .int (iv nm))] [] _ _
  refine gg_aload_n dX7_derived_0 0 rfl ?_
  refine gg_getR (k' := 12) rfl gf_RX7_18 dX7_derived_1 sh_22 pl_22 (by decide) (by decide) rr_22_0 ?_
  refine gg_callVv (own := RX7) (yt := gm_X0_clear) rfl gl_RX7_49 gk_X0_clear gr_X0_clear dX7_derived_4 (c_X0_clear (d := d - 1)) sh_12 pl_12 (by decide) rfl rfl rfl (Nat.le_of_ble_eq_true rfl) (by show _ ≤ d; omega) ⟨Nat.le_refl _, Nat.le_refl _⟩ (fun μ' hc => ?_)
  obtain rfl := hc
  refine gg_aload_n dX7_derived_7 1 rfl ?_
  refine gg_callVi (own := RX7) (yt := gm_X1_size) rfl gl_RX7_52 gk_X1_size gr_X1_size dX7_derived_8 (c_X1_size (d := d - 1) hF (gAt_T hF hA (fun p h => gu_other (by omega)) (fun _ _ => rfl))) (gFsh hF) (gFlt hF) (by decide) rfl rfl rfl (Nat.le_of_ble_eq_true rfl) (by show _ ≤ d; omega) ⟨Nat.le_refl _, Nat.le_refl _⟩ (fun e2 μ' hc => ?_)
  obtain ⟨rfl, rfl⟩ := hc
  refine gg_iconst dX7_derived_11 ?_
  refine gg_isub dX7_derived_12 ?_
  refine gg_istore_n (ls' := [(3, .int (iv ((n : Int) - 1))), (0, .ref (gad (gSS ad) 22)), (1, .ref (gad (gSS ad) a)), (2, .int (iv nm))]) dX7_derived_13 rfl (by decide) rfl ?_
  refine gg_sub [0, 1, 2, 3] rfl ?_
  refine gG_post (w_X7_derived hF (gAt_T hF hA (fun p h => gu_other (by omega)) (fun _ _ => rfl)) hW (nm := nm) hn0 hd (n + 1) n [] (gu I 12 6 0) J (by omega) (by omega) (gDf_0 gu_s) (by simp) (fun t h1 h2 => by omega) (fun t h1 h2 => by omega) (fun _ _ => rfl) (fun _ _ => rfl) (fun _ _ => rfl)) (fun r μ h => ?_)
  obtain ⟨e, rfl, I1, J1, D, r, rfl, h1, h2, h3, h4, rfl, h5⟩ := h
  exact ⟨_, rfl, I1, J1, D, r, rfl, h1, fun p a => (h2 p a).trans (gu_other (by omega)), fun q a => (h3 q a).trans (gu_n (by omega)), h4, rfl, h5⟩

set_option maxRecDepth 10000 in
theorem w_X7_replaced2 {l : Launch} {Γ : gC} {ad : Nat → Nat} {I0 : Nat → Nat → Int} {J0 : Nat → Nat → Int64} {d : Nat} {a n : Nat} {K : Nat → Nat} {N : Nat → Int64} {Z : Nat → Nat} (hF : gF a) (hA : gAt I0 J0 a n K N Z) (hW : gWf n K N Z) {b n' : Nat} {K' : Nat → Nat} {N' : Nat → Int64} {Z' : Nat → Nat} (hG : gF b) (hA' : gAt I0 J0 b n' K' N' Z') (hW' : gWf n' K' N' Z') (hn0 : 0 < n) (hn0' : 0 < n') {nm : Int} {root : Nat} (hd : 7 ≤ d) : ∀ (m : Nat) (k : Nat) (D : List gLn) (I : Nat → Nat → Int) (J : Nat → Nat → Int64), k < m → (k ≤ n) → (gDf I J D) → (D.length + k ≤ n + n') → (D[root]? = some (gSt1 K' N' Z' 0)) → (gTa I 23 D (gRp n nm (gSt1 K' N' Z' 0) K N Z) k n) → (∀ p, p < 12 ∨ (20 ≤ p ∧ p ≤ 21) ∨ 25 ≤ p → I p = I0 p) → (∀ q, q ≠ 6 → I 12 q = I0 12 q) → (∀ p, p ≠ 14 → J p = J0 p) → gG l Γ gm_X7_replaced (d, 0, 0, 0, 0) 60 [(5, .int (iv ((k : Int) - 1))), (0, .ref (gad (gSS ad) 22)), (1, .ref (gad (gSS ad) a)), (2, .int (iv nm)), (3, .ref (gad (gSS ad) b)), (4, .int (iv (root : Int)))] [] (gSS ad, I, J) (gDi (fun e μ => ∃ I1 J1 D r, μ = (gSS ad, I1, J1) ∧ gDf I1 J1 D ∧ (∀ p, p < 12 ∨ (20 ≤ p ∧ p ≤ 21) ∨ 25 ≤ p → I1 p = I0 p) ∧ (∀ q, q ≠ 6 → I1 12 q = I0 12 q) ∧ (∀ p, p ≠ 14 → J1 p = J0 p) ∧ e = ((r : Nat) : Int) ∧ D[r]? = some ((gRp n nm (gSt1 K' N' Z' 0) K N Z) 0))) := by
  intro m
  induction m with
  | zero => intros; omega
  | succ m ih =>
    intro k D I J hm hk hD hDl hr hP f1 f2 f3
    have hn := hW.1
    have hn' := hW'.1
    refine gg_iload dX7_replaced_60 0 rfl ?_
    refine gg_if_lt (tgt := 128) dX7_replaced_62 (by decide) (by omega) (fun hb => ?_) (fun hb => ?_)
    · have hk0 : k = 0 := by omega
      subst hk0
      obtain ⟨r, hr0, hDr⟩ := hP 0 (Nat.le_refl _) hn0
      refine gg_aload_n dX7_replaced_128 1 rfl ?_
      refine gg_getR (k' := 23) rfl gf_RX7_9 dX7_replaced_129 sh_22 pl_22 (by decide) (by decide) rr_22_1 ?_
      refine gg_iconst dX7_replaced_132 ?_
      refine gg_ialdj 0 dX7_replaced_133 sh_23 pl_23 (by decide) rfl (by omega) ?_
      refine gg_toI (b := (r : Int)) hr0 ?_
      refine gg_ireti dX7_replaced_134 rfl ⟨rfl, rfl⟩ ?_
      exact ⟨I, J, D, r, rfl, hD, f1, f2, f3, rfl, hDr⟩
    · obtain ⟨j, rfl⟩ : ∃ j : Nat, k = j + 1 := ⟨k - 1, by omega⟩
      rw [show (((j + 1 : Nat) : Int) - 1) = (j : Int) by omega]
      refine gg_aload_n dX7_replaced_65 2 rfl ?_
      refine gg_iload dX7_replaced_66 0 rfl ?_
      refine gg_callVi (own := RX7) (yt := gm_X1_kind) rfl gl_RX7_32 gk_X1_kind gr_X1_kind dX7_replaced_68 (c_X1_kind (d := d - 1) hF (gAt_T hF hA f1 f3) hW.1 (j := j) (by omega) (by omega)) (gFsh hF) (gFlt hF) (by decide) rfl rfl rfl (Nat.le_of_ble_eq_true rfl) (by show _ ≤ d; omega) ⟨Nat.le_refl _, Nat.le_refl _⟩ (fun e1 μ' hc => ?_)
      obtain ⟨rfl, rfl⟩ := hc
      refine gg_iconst dX7_replaced_71 ?_
      refine gg_icmp_ne (tgt := 91) dX7_replaced_72 (by decide) (by have := (hW.2.2 j (by omega)).1; omega) (fun hx => ?_) (fun hx => ?_)
      · have hnot : ¬ (K j = 1 ∧ N j = gi2l nm) := fun h => by omega
        refine gg_iconst dX7_replaced_91 ?_
        refine gg_istore (ls' := [(6, .int (iv 0)), (5, .int (iv (j : Int))), (0, .ref (gad (gSS ad) 22)), (1, .ref (gad (gSS ad) a)), (2, .int (iv nm)), (3, .ref (gad (gSS ad) b)), (4, .int (iv (root : Int)))]) dX7_replaced_92 (by decide) rfl ?_
        refine gg_aload_n dX7_replaced_94 2 rfl ?_
        refine gg_getR (k' := 23) rfl gf_RX7_9 dX7_replaced_95 sh_22 pl_22 (by decide) (by decide) rr_22_1 ?_
        refine gg_iload dX7_replaced_98 1 rfl ?_
        refine gg_iload dX7_replaced_100 0 rfl ?_
        refine gg_if_eq_t (tgt := 110) dX7_replaced_102 (by decide) (by decide) (by decide) ?_
        refine gg_aload_n dX7_replaced_110 2 rfl ?_
        refine gg_aload_n dX7_replaced_111 2 rfl ?_
        refine gg_getR (k' := 23) rfl gf_RX7_9 dX7_replaced_112 sh_22 pl_22 (by decide) (by decide) rr_22_1 ?_
        refine gg_aload_n dX7_replaced_115 3 rfl ?_
        refine gg_iload dX7_replaced_116 1 rfl ?_
        refine gg_callVi (own := RX7) (yt := gm_X7_remade) rfl gl_RX7_56 gk_X7_remade gr_X7_remade dX7_replaced_118 (c_X7_remade (d := d - 1) hF (gAt_T hF hA f1 f3) hW (p := 23) sh_23 pl_23 (V := (gRp n nm (gSt1 K' N' Z' 0) K N Z)) (i := j) (by omega) hP hD (by omega) (by omega)) sh_22 pl_22 (by decide) rfl rfl rfl (Nat.le_of_ble_eq_true rfl) (by show _ ≤ d; omega) ⟨Nat.le_refl _, Nat.le_refl _⟩ (fun e2 μ' hc => ?_)
        obtain ⟨I1, J1, rfl, hD1, g1, g2, g3, rfl⟩ := hc
        refine gg_iastj j dX7_replaced_121 sh_23 pl_23 (by decide) rfl (by omega) ?_
        refine gg_memI (fun I2 hI2 => ?_)
        refine gg_iincv (ls' := [(5, .int (iv ((j : Int) - 1))), (6, .int (iv 0)), (0, .ref (gad (gSS ad) 22)), (1, .ref (gad (gSS ad) a)), (2, .int (iv nm)), (3, .ref (gad (gSS ad) b)), (4, .int (iv (root : Int)))]) dX7_replaced_122 1 rfl (by omega) (by decide) rfl ?_
        refine gg_goto (tgt := 60) dX7_replaced_125 (by decide) ?_
        refine gg_sub [0, 2, 3, 4, 5, 6] rfl ?_
        have e23 : I1 23 = I 23 := g1 23 (by omega) (by omega) (by omega) (by omega) (by omega) (by omega)
        refine ih j (D ++ [(gRp n nm (gSt1 K' N' Z' 0) K N Z) j]) I2 J1 (by omega) (by omega) ?_ (by simp only [List.length_append, List.length_cons, List.length_nil]; omega) (gget_app hr) (fun t h1 h2 => ?_) (fun p h => by rw [hI2, gu_other (by omega), g1 p (by omega) (by omega) (by omega) (by omega) (by omega) (by omega)]; exact f1 p h) (fun q h => by rw [hI2, gu_other (by omega), g2 q h]; exact f2 q h) (fun p h => by rw [g3 p h]; exact f3 p h)
        · have hR : (gRp n nm (gSt1 K' N' Z' 0) K N Z) j = (K j, N j) :: (gVp K Z (gRp n nm (gSt1 K' N' Z' 0) K N Z) j 0 ++ (gVp K Z (gRp n nm (gSt1 K' N' Z' 0) K N Z) j 1 ++ gVp K Z (gRp n nm (gSt1 K' N' Z' 0) K N Z) j 2)) := by
            rw [gRp_is n nm (gSt1 K' N' Z' 0) K N Z j (by omega)]
            unfold gRpF
            rw [if_neg hnot]
          rw [hR]
          exact gDf_W hD1 (fun p h => by rw [hI2, gu_other (by omega)]) (by rw [hI2, gu_other (by omega)]) rfl
        · by_cases htj : t = j
          · subst htj
            exact ⟨D.length, by rw [hI2, gu_s], gget_last⟩
          · obtain ⟨i, e1, e2⟩ := hP t (by omega) h2
            exact ⟨i, by rw [hI2, gu_n (by omega), e23]; exact e1, gget_app e2⟩
      · refine gg_aload_n dX7_replaced_75 2 rfl ?_
        refine gg_iload dX7_replaced_76 0 rfl ?_
        refine gg_callVl (own := RX7) (yt := gm_X1_number) rfl gl_RX7_35 gk_X1_number gr_X1_number dX7_replaced_78 (c_X1_number (d := d - 1) hF (gAt_T hF hA f1 f3) hW.1 (j := j) (by omega) (by omega)) (gFsh hF) (gFlt hF) (by decide) rfl rfl rfl (Nat.le_of_ble_eq_true rfl) (by show _ ≤ d; omega) ⟨Nat.le_refl _, Nat.le_refl _⟩ (fun e3 μ' hc => ?_)
        obtain ⟨rfl, rfl⟩ := hc
        refine gg_iload_n dX7_replaced_81 3 rfl ?_
        refine gg_i2l dX7_replaced_82 ?_
        refine gg_lcmp_ne (tgt := 91) dX7_replaced_83 dX7_replaced_84 (by decide) (fun hq2 => ?_) (fun hq2 => ?_)
        · have hnot : ¬ (K j = 1 ∧ N j = gi2l nm) := fun h => hq2 h.2
          refine gg_iconst dX7_replaced_91 ?_
          refine gg_istore (ls' := [(6, .int (iv 0)), (5, .int (iv (j : Int))), (0, .ref (gad (gSS ad) 22)), (1, .ref (gad (gSS ad) a)), (2, .int (iv nm)), (3, .ref (gad (gSS ad) b)), (4, .int (iv (root : Int)))]) dX7_replaced_92 (by decide) rfl ?_
          refine gg_aload_n dX7_replaced_94 2 rfl ?_
          refine gg_getR (k' := 23) rfl gf_RX7_9 dX7_replaced_95 sh_22 pl_22 (by decide) (by decide) rr_22_1 ?_
          refine gg_iload dX7_replaced_98 1 rfl ?_
          refine gg_iload dX7_replaced_100 0 rfl ?_
          refine gg_if_eq_t (tgt := 110) dX7_replaced_102 (by decide) (by decide) (by decide) ?_
          refine gg_aload_n dX7_replaced_110 2 rfl ?_
          refine gg_aload_n dX7_replaced_111 2 rfl ?_
          refine gg_getR (k' := 23) rfl gf_RX7_9 dX7_replaced_112 sh_22 pl_22 (by decide) (by decide) rr_22_1 ?_
          refine gg_aload_n dX7_replaced_115 3 rfl ?_
          refine gg_iload dX7_replaced_116 1 rfl ?_
          refine gg_callVi (own := RX7) (yt := gm_X7_remade) rfl gl_RX7_56 gk_X7_remade gr_X7_remade dX7_replaced_118 (c_X7_remade (d := d - 1) hF (gAt_T hF hA f1 f3) hW (p := 23) sh_23 pl_23 (V := (gRp n nm (gSt1 K' N' Z' 0) K N Z)) (i := j) (by omega) hP hD (by omega) (by omega)) sh_22 pl_22 (by decide) rfl rfl rfl (Nat.le_of_ble_eq_true rfl) (by show _ ≤ d; omega) ⟨Nat.le_refl _, Nat.le_refl _⟩ (fun e4 μ' hc => ?_)
          obtain ⟨I1, J1, rfl, hD1, g1, g2, g3, rfl⟩ := hc
          refine gg_iastj j dX7_replaced_121 sh_23 pl_23 (by decide) rfl (by omega) ?_
          refine gg_memI (fun I2 hI2 => ?_)
          refine gg_iincv (ls' := [(5, .int (iv ((j : Int) - 1))), (6, .int (iv 0)), (0, .ref (gad (gSS ad) 22)), (1, .ref (gad (gSS ad) a)), (2, .int (iv nm)), (3, .ref (gad (gSS ad) b)), (4, .int (iv (root : Int)))]) dX7_replaced_122 1 rfl (by omega) (by decide) rfl ?_
          refine gg_goto (tgt := 60) dX7_replaced_125 (by decide) ?_
          refine gg_sub [0, 2, 3, 4, 5, 6] rfl ?_
          have e23 : I1 23 = I 23 := g1 23 (by omega) (by omega) (by omega) (by omega) (by omega) (by omega)
          refine ih j (D ++ [(gRp n nm (gSt1 K' N' Z' 0) K N Z) j]) I2 J1 (by omega) (by omega) ?_ (by simp only [List.length_append, List.length_cons, List.length_nil]; omega) (gget_app hr) (fun t h1 h2 => ?_) (fun p h => by rw [hI2, gu_other (by omega), g1 p (by omega) (by omega) (by omega) (by omega) (by omega) (by omega)]; exact f1 p h) (fun q h => by rw [hI2, gu_other (by omega), g2 q h]; exact f2 q h) (fun p h => by rw [g3 p h]; exact f3 p h)
          · have hR : (gRp n nm (gSt1 K' N' Z' 0) K N Z) j = (K j, N j) :: (gVp K Z (gRp n nm (gSt1 K' N' Z' 0) K N Z) j 0 ++ (gVp K Z (gRp n nm (gSt1 K' N' Z' 0) K N Z) j 1 ++ gVp K Z (gRp n nm (gSt1 K' N' Z' 0) K N Z) j 2)) := by
              rw [gRp_is n nm (gSt1 K' N' Z' 0) K N Z j (by omega)]
              unfold gRpF
              rw [if_neg hnot]
            rw [hR]
            exact gDf_W hD1 (fun p h => by rw [hI2, gu_other (by omega)]) (by rw [hI2, gu_other (by omega)]) rfl
          · by_cases htj : t = j
            · subst htj
              exact ⟨D.length, by rw [hI2, gu_s], gget_last⟩
            · obtain ⟨i, e1, e2⟩ := hP t (by omega) h2
              exact ⟨i, by rw [hI2, gu_n (by omega), e23]; exact e1, gget_app e2⟩
        · refine gg_iconst dX7_replaced_87 ?_
          refine gg_goto (tgt := 92) dX7_replaced_88 (by decide) ?_
          refine gg_istore (ls' := [(6, .int (iv 1)), (5, .int (iv (j : Int))), (0, .ref (gad (gSS ad) 22)), (1, .ref (gad (gSS ad) a)), (2, .int (iv nm)), (3, .ref (gad (gSS ad) b)), (4, .int (iv (root : Int)))]) dX7_replaced_92 (by decide) rfl ?_
          refine gg_aload_n dX7_replaced_94 2 rfl ?_
          refine gg_getR (k' := 23) rfl gf_RX7_9 dX7_replaced_95 sh_22 pl_22 (by decide) (by decide) rr_22_1 ?_
          refine gg_iload dX7_replaced_98 1 rfl ?_
          refine gg_iload dX7_replaced_100 0 rfl ?_
          refine gg_if_eq_f (tgt := 110) dX7_replaced_102 (by decide) (by decide) (by decide) ?_
          refine gg_iload dX7_replaced_105 6 rfl ?_
          refine gg_goto (tgt := 121) dX7_replaced_107 (by decide) ?_
          refine gg_iastj j dX7_replaced_121 sh_23 pl_23 (by decide) rfl (by omega) ?_
          refine gg_memI (fun I2 hI2 => ?_)
          refine gg_iincv (ls' := [(5, .int (iv ((j : Int) - 1))), (6, .int (iv 1)), (0, .ref (gad (gSS ad) 22)), (1, .ref (gad (gSS ad) a)), (2, .int (iv nm)), (3, .ref (gad (gSS ad) b)), (4, .int (iv (root : Int)))]) dX7_replaced_122 1 rfl (by omega) (by decide) rfl ?_
          refine gg_goto (tgt := 60) dX7_replaced_125 (by decide) ?_
          refine gg_sub [0, 2, 3, 4, 5, 6] rfl ?_
          refine ih j D I2 J (by omega) (by omega) (gDf_W hD (fun p h => by rw [hI2, gu_other (by omega)]) (by rw [hI2, gu_other (by omega)]) rfl) (by omega) hr (fun t h1 h2 => ?_) (fun p h => by rw [hI2, gu_other (by omega)]; exact f1 p h) (fun q h => by rw [hI2, gu_other (by omega)]; exact f2 q h) f3
          by_cases htj : t = j
          · subst htj
            refine ⟨root, by rw [hI2, gu_s], ?_⟩
            rw [gRp_is n nm (gSt1 K' N' Z' 0) K N Z t (by omega)]
            unfold gRpF
            rw [if_pos ⟨by omega, hq2⟩]
            exact hr
          · obtain ⟨i, e1, e2⟩ := hP t (by omega) h2
            exact ⟨i, by rw [hI2, gu_n (by omega)]; exact e1, e2⟩

set_option maxRecDepth 10000 in
theorem w_X7_replaced {l : Launch} {Γ : gC} {ad : Nat → Nat} {I0 : Nat → Nat → Int} {J0 : Nat → Nat → Int64} {d : Nat} {a n : Nat} {K : Nat → Nat} {N : Nat → Int64} {Z : Nat → Nat} (hF : gF a) (hA : gAt I0 J0 a n K N Z) (hW : gWf n K N Z) {b n' : Nat} {K' : Nat → Nat} {N' : Nat → Int64} {Z' : Nat → Nat} (hG : gF b) (hA' : gAt I0 J0 b n' K' N' Z') (hW' : gWf n' K' N' Z') (hn0 : 0 < n) (hn0' : 0 < n') {nm : Int} (hd : 7 ≤ d) : ∀ (m : Nat) (k : Nat) (D : List gLn) (I : Nat → Nat → Int) (J : Nat → Nat → Int64), k < m → (k ≤ n') → (gDf I J D) → (D.length + k ≤ n') → (gTa I 24 D (gSt1 K' N' Z') k n') → (∀ p, p < 12 ∨ (20 ≤ p ∧ p ≤ 21) ∨ 25 ≤ p → I p = I0 p) → (∀ q, q ≠ 6 → I 12 q = I0 12 q) → (∀ p, p ≠ 14 → J p = J0 p) → gG l Γ gm_X7_replaced (d, 0, 0, 0, 0) 15 [(4, .int (iv ((k : Int) - 1))), (0, .ref (gad (gSS ad) 22)), (1, .ref (gad (gSS ad) a)), (2, .int (iv nm)), (3, .ref (gad (gSS ad) b))] [] (gSS ad, I, J) (gDi (fun e μ => ∃ I1 J1 D r, μ = (gSS ad, I1, J1) ∧ gDf I1 J1 D ∧ (∀ p, p < 12 ∨ (20 ≤ p ∧ p ≤ 21) ∨ 25 ≤ p → I1 p = I0 p) ∧ (∀ q, q ≠ 6 → I1 12 q = I0 12 q) ∧ (∀ p, p ≠ 14 → J1 p = J0 p) ∧ e = ((r : Nat) : Int) ∧ D[r]? = some ((gRp n nm (gSt1 K' N' Z' 0) K N Z) 0))) := by
  intro m
  induction m with
  | zero => intros; omega
  | succ m ih =>
    intro k D I J hm hk hD hDl hT f1 f2 f3
    have hn := hW.1
    have hn' := hW'.1
    refine gg_iload dX7_replaced_15 0 rfl ?_
    refine gg_if_lt (tgt := 44) dX7_replaced_17 (by decide) (by omega) (fun hb => ?_) (fun hb => ?_)
    · have hk0 : k = 0 := by omega
      subst hk0
      obtain ⟨r, hr, hDr⟩ := hT 0 (Nat.le_refl _) hn0'
      refine gg_aload_n dX7_replaced_44 1 rfl ?_
      refine gg_getR (k' := 24) rfl gf_RX7_15 dX7_replaced_45 sh_22 pl_22 (by decide) (by decide) rr_22_2 ?_
      refine gg_iconst dX7_replaced_48 ?_
      refine gg_ialdj 0 dX7_replaced_49 sh_24 pl_24 (by decide) rfl (by omega) ?_
      refine gg_toI (b := (r : Int)) hr ?_
      refine gg_istore (ls' := [(4, .int (iv (r : Int))), (0, .ref (gad (gSS ad) 22)), (1, .ref (gad (gSS ad) a)), (2, .int (iv nm)), (3, .ref (gad (gSS ad) b))]) dX7_replaced_50 (by decide) rfl ?_
      refine gg_aload_n dX7_replaced_52 2 rfl ?_
      refine gg_callVi (own := RX7) (yt := gm_X1_size) rfl gl_RX7_52 gk_X1_size gr_X1_size dX7_replaced_53 (c_X1_size (d := d - 1) hF (gAt_T hF hA f1 f3)) (gFsh hF) (gFlt hF) (by decide) rfl rfl rfl (Nat.le_of_ble_eq_true rfl) (by show _ ≤ d; omega) ⟨Nat.le_refl _, Nat.le_refl _⟩ (fun e1 μ' hc => ?_)
      obtain ⟨rfl, rfl⟩ := hc
      refine gg_iconst dX7_replaced_56 ?_
      refine gg_isub dX7_replaced_57 ?_
      refine gg_istore (ls' := [(5, .int (iv ((n : Int) - 1))), (4, .int (iv (r : Int))), (0, .ref (gad (gSS ad) 22)), (1, .ref (gad (gSS ad) a)), (2, .int (iv nm)), (3, .ref (gad (gSS ad) b))]) dX7_replaced_58 (by decide) rfl ?_
      refine gg_sub [0, 2, 3, 4, 5, 1] rfl ?_
      exact w_X7_replaced2 hF hA hW hG hA' hW' hn0 hn0' hd (n + 1) n D I J (by omega) (by omega) hD (by omega) hDr (fun t h1 h2 => by omega) f1 f2 f3
    · obtain ⟨j, rfl⟩ : ∃ j : Nat, k = j + 1 := ⟨k - 1, by omega⟩
      rw [show (((j + 1 : Nat) : Int) - 1) = (j : Int) by omega]
      refine gg_aload_n dX7_replaced_20 1 rfl ?_
      refine gg_getR (k' := 24) rfl gf_RX7_15 dX7_replaced_21 sh_22 pl_22 (by decide) (by decide) rr_22_2 ?_
      refine gg_iload dX7_replaced_24 0 rfl ?_
      refine gg_aload_n dX7_replaced_26 1 rfl ?_
      refine gg_aload_n dX7_replaced_27 1 rfl ?_
      refine gg_getR (k' := 24) rfl gf_RX7_15 dX7_replaced_28 sh_22 pl_22 (by decide) (by decide) rr_22_2 ?_
      refine gg_aload_n dX7_replaced_31 4 rfl ?_
      refine gg_iload dX7_replaced_32 0 rfl ?_
      refine gg_callVi (own := RX7) (yt := gm_X7_remade) rfl gl_RX7_56 gk_X7_remade gr_X7_remade dX7_replaced_34 (c_X7_remade (d := d - 1) hG (gAt_T hG hA' f1 f3) hW' (p := 24) sh_24 pl_24 (V := (gSt1 K' N' Z')) (i := j) (by omega) hT hD (by omega) (by omega)) sh_22 pl_22 (by decide) rfl rfl rfl (Nat.le_of_ble_eq_true rfl) (by show _ ≤ d; omega) ⟨Nat.le_refl _, Nat.le_refl _⟩ (fun e2 μ' hc => ?_)
      obtain ⟨I1, J1, rfl, hD1, g1, g2, g3, rfl⟩ := hc
      rw [← gSt1_vp hW' (by omega)] at hD1
      refine gg_iastj j dX7_replaced_37 sh_24 pl_24 (by decide) rfl (by omega) ?_
      refine gg_memI (fun I2 hI2 => ?_)
      refine gg_iincv (ls' := [(4, .int (iv ((j : Int) - 1))), (0, .ref (gad (gSS ad) 22)), (1, .ref (gad (gSS ad) a)), (2, .int (iv nm)), (3, .ref (gad (gSS ad) b))]) dX7_replaced_38 0 rfl (by omega) (by decide) rfl ?_
      refine gg_goto (tgt := 15) dX7_replaced_41 (by decide) ?_
      have g24 : I1 24 = I 24 := g1 24 (by omega) (by omega) (by omega) (by omega) (by omega) (by omega)
      refine ih j (D ++ [(gSt1 K' N' Z') j]) I2 J1 (by omega) (by omega) (gDf_W hD1 (fun p h => by rw [hI2, gu_other (by omega)]) (by rw [hI2, gu_other (by omega)]) rfl) (by simp only [List.length_append, List.length_cons, List.length_nil]; omega) (fun t h1 h2 => ?_) (fun p h => by rw [hI2, gu_other (by omega), g1 p (by omega) (by omega) (by omega) (by omega) (by omega) (by omega)]; exact f1 p h) (fun q h => by rw [hI2, gu_other (by omega), g2 q h]; exact f2 q h) (fun p h => by rw [g3 p h]; exact f3 p h)
      by_cases htj : t = j
      · subst htj
        exact ⟨D.length, by rw [hI2, gu_s], gget_last⟩
      · obtain ⟨i, e1, e2⟩ := hT t (by omega) h2
        exact ⟨i, by rw [hI2, gu_n (by omega), g24]; exact e1, gget_app e2⟩

set_option maxRecDepth 10000 in
theorem c_X7_replaced {l : Launch} {Γ : gC} {ad : Nat → Nat} {I : Nat → Nat → Int} {J : Nat → Nat → Int64} {d : Nat} {a n : Nat} {K : Nat → Nat} {N : Nat → Int64} {Z : Nat → Nat} (hF : gF a) (hA : gAt I J a n K N Z) (hW : gWf n K N Z) {b n' : Nat} {K' : Nat → Nat} {N' : Nat → Int64} {Z' : Nat → Nat} (hG : gF b) (hA' : gAt I J b n' K' N' Z') (hW' : gWf n' K' N' Z') (hn0 : 0 < n) (hn0' : 0 < n') {nm : Int} (hd : 7 ≤ d) : gKi l Γ gm_X7_replaced d [.ref (gad (gSS ad) 22), .ref (gad (gSS ad) a), .int (iv nm), .ref (gad (gSS ad) b)] (gSS ad, I, J) (fun e μ => ∃ I1 J1 D r, μ = (gSS ad, I1, J1) ∧ gDf I1 J1 D ∧ (∀ p, p < 12 ∨ (20 ≤ p ∧ p ≤ 21) ∨ 25 ≤ p → I1 p = I p) ∧ (∀ q, q ≠ 6 → I1 12 q = I 12 q) ∧ (∀ p, p ≠ 14 → J1 p = J p) ∧ e = ((r : Nat) : Int) ∧ D[r]? = some ((gRp n nm (gSt1 K' N' Z' 0) K N Z) 0)) := by
  refine gKi_of gk_X7_replaced.1 (Nat.le_of_ble_eq_true rfl) ?_
  show gG l Γ gm_X7_replaced (d, 0, 0, 0, 0) 0 [(0, .ref (gad (gSS ad) 22)), (1, .ref (gad (gSS ad) a)), (2, .int (iv nm)), (3, .ref (gad (gSS ad) b))] [] _ _
  refine gg_aload_n dX7_replaced_0 0 rfl ?_
  refine gg_getR (k' := 12) rfl gf_RX7_18 dX7_replaced_1 sh_22 pl_22 (by decide) (by decide) rr_22_0 ?_
  refine gg_callVv (own := RX7) (yt := gm_X0_clear) rfl gl_RX7_49 gk_X0_clear gr_X0_clear dX7_replaced_4 (c_X0_clear (d := d - 1)) sh_12 pl_12 (by decide) rfl rfl rfl (Nat.le_of_ble_eq_true rfl) (by show _ ≤ d; omega) ⟨Nat.le_refl _, Nat.le_refl _⟩ (fun μ' hc => ?_)
  obtain rfl := hc
  refine gg_aload_n dX7_replaced_7 3 rfl ?_
  refine gg_callVi (own := RX7) (yt := gm_X1_size) rfl gl_RX7_52 gk_X1_size gr_X1_size dX7_replaced_8 (c_X1_size (d := d - 1) hG (gAt_T hG hA' (fun p h => gu_other (by omega)) (fun _ _ => rfl))) (gFsh hG) (gFlt hG) (by decide) rfl rfl rfl (Nat.le_of_ble_eq_true rfl) (by show _ ≤ d; omega) ⟨Nat.le_refl _, Nat.le_refl _⟩ (fun e2 μ' hc => ?_)
  obtain ⟨rfl, rfl⟩ := hc
  refine gg_iconst dX7_replaced_11 ?_
  refine gg_isub dX7_replaced_12 ?_
  refine gg_istore (ls' := [(4, .int (iv ((n' : Int) - 1))), (0, .ref (gad (gSS ad) 22)), (1, .ref (gad (gSS ad) a)), (2, .int (iv nm)), (3, .ref (gad (gSS ad) b))]) dX7_replaced_13 (by decide) rfl ?_
  refine gg_sub [0, 1, 2, 3, 4] rfl ?_
  refine gG_post (w_X7_replaced hF (gAt_T hF hA (fun p h => gu_other (by omega)) (fun _ _ => rfl)) hW hG (gAt_T hG hA' (fun p h => gu_other (by omega)) (fun _ _ => rfl)) hW' hn0 hn0' (nm := nm) hd (n' + 1) n' [] (gu I 12 6 0) J (by omega) (by omega) (gDf_0 gu_s) (by simp) (fun t h1 h2 => by omega) (fun _ _ => rfl) (fun _ _ => rfl) (fun _ _ => rfl)) (fun r μ h => ?_)
  obtain ⟨e, rfl, I1, J1, D, r, rfl, h1, h2, h3, h4, rfl, h5⟩ := h
  exact ⟨_, rfl, I1, J1, D, r, rfl, h1, fun p a => (h2 p a).trans (gu_other (by omega)), fun q a => (h3 q a).trans (gu_n (by omega)), h4, rfl, h5⟩

