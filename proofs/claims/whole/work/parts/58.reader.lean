/-! the class's reader: texts are read -/
theorem gBd_inr {t : gLn} {q : Nat} {k : gLn → Nat → gRT} : gBd (.inr (t, q)) k = k t q := rfl
theorem gBd_inl {p : Nat} {k : gLn → Nat → gRT} : gBd (.inl p) k = .inl p := rfl
theorem gKeep_d {I I1 : Nat → Nat → Int} {J J1 : Nat → Nat → Int64} {D : List gLn} {q : Nat} (h : gDf I J D) (hq : q ≤ 120) (hl : D.length ≤ 2 * q) : D.length < 1190 := by omega
set_option maxRecDepth 10000 in
theorem c_X5_leafOf_0 {l : Launch} {Γ : gC} {ad : Nat → Nat} {T : Nat → Int} {n : Nat} {d : Nat} {I : Nat → Nat → Int} {J : Nat → Nat → Int64} {D : List gLn} {q : Nat} (hT : gTp I T n) (hR : gRd I T n q) (hD : gDf I J D) (hq : q ≤ n) (hl : D.length ≤ 2 * q) (hC : gtC T n q = 3) (hd : 4 ≤ d) : gKi l Γ gm_X5_leafOf d [.ref (gad (gSS ad) 20), .int (iv 0)] (gSS ad, I, J) (fun e μ => ∃ I1 J1, μ = (gSS ad, I1, J1) ∧ gKeep I J I1 J1 ∧ gRs I1 J1 D q T n (.inr ([(0, gi2l (gtV T n q))], gtE T n q)) e) := by
  refine gKi_of gk_X5_leafOf.1 (Nat.le_of_ble_eq_true rfl) ?_
  have hn := hT.1
  have hE := gtE_le T hq
  have hc := hE.2.2.2 (by omega)
  have hv := @gtC_23 T n q
  show gG l Γ gm_X5_leafOf (d, 0, 0, 0, 0) 0 [(0, .ref (gad (gSS ad) 20)), (1, .int (iv 0))] [] _ _
  refine gg_aload_n dX5_leafOf_0 0 rfl ?_
  refine gg_getR (k' := 12) rfl gf_RX5_15 dX5_leafOf_1 sh_20 pl_20 (by decide) (by decide) rr_20_0 ?_
  refine gg_iload_n dX5_leafOf_4 1 rfl ?_
  refine gg_aload_n dX5_leafOf_5 0 rfl ?_
  refine gg_getI rfl gf_RX5_74 dX5_leafOf_6 sh_20 pl_20 (by decide) (by decide) ?_
  refine gg_toI (b := gtV T n q) (hR.2.2.2 (by omega)) ?_
  refine gg_i2l dX5_leafOf_9 ?_
  refine gg_callVi (own := RX5) (yt := gm_X0_leaf) rfl gl_RX5_113 gk_X0_leaf gr_X0_leaf dX5_leafOf_10 (c_X0_leaf (d := d - 1) (k := 0) (x := gi2l (gtV T n q)) hD (by omega) (gNv_n _) rfl (by omega)) sh_12 pl_12 (by decide) rfl rfl rfl (Nat.le_of_ble_eq_true rfl) (by show _ ≤ d; omega) ⟨Nat.le_refl _, Nat.le_refl _⟩ (fun e1 μ' hc => ?_)
  obtain ⟨I1, J1, rfl, hD1, x1, x2, x3, rfl⟩ := hc
  obtain ⟨hK1, e20⟩ := gKeep_D x1 x2 x3
  have hT1 := gTp_p hT hK1
  have hR1 := gRd_e hR e20
  refine gg_istore_n (ls' := [(2, .int (iv (D.length : Int))), (0, .ref (gad (gSS ad) 20)), (1, .int (iv 0))]) dX5_leafOf_13 rfl (by decide) rfl ?_
  refine gg_aload_n dX5_leafOf_14 1 rfl ?_
  refine gg_callVv (own := RX5) (yt := gm_X5_advance) rfl gl_RX5_34 gk_X5_advance gr_X5_advance dX5_leafOf_15 (c_X5_advance (d := d - 1) (T := T) (n := n) (q := gtE T n q) (by omega) hT1 hR1.2.2.1 (by omega)) sh_20 pl_20 (by decide) rfl rfl rfl (Nat.le_of_ble_eq_true rfl) (by show _ ≤ d; omega) ⟨Nat.le_refl _, Nat.le_refl _⟩ (fun μ' hc => ?_)
  obtain ⟨I2, rfl, a2, hR2⟩ := hc
  refine gg_iload_n dX5_leafOf_18 0 rfl ?_
  refine gg_ireti dX5_leafOf_19 rfl ⟨rfl, rfl⟩ ?_
  refine ⟨I2, J1, rfl, gKeep_t hK1 (gKeep_20 a2), ?_⟩
  exact ⟨[[(0, gi2l (gtV T n q))]], D.length, rfl, gDf_20 hD1 a2, gget_last, hR2, by omega, by omega, by simp; omega⟩

set_option maxRecDepth 10000 in
theorem c_X5_leafOf_1 {l : Launch} {Γ : gC} {ad : Nat → Nat} {T : Nat → Int} {n : Nat} {d : Nat} {I : Nat → Nat → Int} {J : Nat → Nat → Int64} {D : List gLn} {q : Nat} (hT : gTp I T n) (hR : gRd I T n q) (hD : gDf I J D) (hq : q ≤ n) (hl : D.length ≤ 2 * q) (hC : gtC T n q = 2) (hd : 4 ≤ d) : gKi l Γ gm_X5_leafOf d [.ref (gad (gSS ad) 20), .int (iv 1)] (gSS ad, I, J) (fun e μ => ∃ I1 J1, μ = (gSS ad, I1, J1) ∧ gKeep I J I1 J1 ∧ gRs I1 J1 D q T n (.inr ([(1, gi2l (gtV T n q))], gtE T n q)) e) := by
  refine gKi_of gk_X5_leafOf.1 (Nat.le_of_ble_eq_true rfl) ?_
  have hn := hT.1
  have hE := gtE_le T hq
  have hc := hE.2.2.2 (by omega)
  have hv := @gtC_23 T n q
  show gG l Γ gm_X5_leafOf (d, 0, 0, 0, 0) 0 [(0, .ref (gad (gSS ad) 20)), (1, .int (iv 1))] [] _ _
  refine gg_aload_n dX5_leafOf_0 0 rfl ?_
  refine gg_getR (k' := 12) rfl gf_RX5_15 dX5_leafOf_1 sh_20 pl_20 (by decide) (by decide) rr_20_0 ?_
  refine gg_iload_n dX5_leafOf_4 1 rfl ?_
  refine gg_aload_n dX5_leafOf_5 0 rfl ?_
  refine gg_getI rfl gf_RX5_74 dX5_leafOf_6 sh_20 pl_20 (by decide) (by decide) ?_
  refine gg_toI (b := gtV T n q) (hR.2.2.2 (by omega)) ?_
  refine gg_i2l dX5_leafOf_9 ?_
  refine gg_callVi (own := RX5) (yt := gm_X0_leaf) rfl gl_RX5_113 gk_X0_leaf gr_X0_leaf dX5_leafOf_10 (c_X0_leaf (d := d - 1) (k := 1) (x := gi2l (gtV T n q)) hD (by omega) (by rw [gi2l_of (by omega)]; exact gNv_a (by omega)) rfl (by omega)) sh_12 pl_12 (by decide) rfl rfl rfl (Nat.le_of_ble_eq_true rfl) (by show _ ≤ d; omega) ⟨Nat.le_refl _, Nat.le_refl _⟩ (fun e1 μ' hc => ?_)
  obtain ⟨I1, J1, rfl, hD1, x1, x2, x3, rfl⟩ := hc
  obtain ⟨hK1, e20⟩ := gKeep_D x1 x2 x3
  have hT1 := gTp_p hT hK1
  have hR1 := gRd_e hR e20
  refine gg_istore_n (ls' := [(2, .int (iv (D.length : Int))), (0, .ref (gad (gSS ad) 20)), (1, .int (iv 1))]) dX5_leafOf_13 rfl (by decide) rfl ?_
  refine gg_aload_n dX5_leafOf_14 1 rfl ?_
  refine gg_callVv (own := RX5) (yt := gm_X5_advance) rfl gl_RX5_34 gk_X5_advance gr_X5_advance dX5_leafOf_15 (c_X5_advance (d := d - 1) (T := T) (n := n) (q := gtE T n q) (by omega) hT1 hR1.2.2.1 (by omega)) sh_20 pl_20 (by decide) rfl rfl rfl (Nat.le_of_ble_eq_true rfl) (by show _ ≤ d; omega) ⟨Nat.le_refl _, Nat.le_refl _⟩ (fun μ' hc => ?_)
  obtain ⟨I2, rfl, a2, hR2⟩ := hc
  refine gg_iload_n dX5_leafOf_18 0 rfl ?_
  refine gg_ireti dX5_leafOf_19 rfl ⟨rfl, rfl⟩ ?_
  refine ⟨I2, J1, rfl, gKeep_t hK1 (gKeep_20 a2), ?_⟩
  exact ⟨[[(1, gi2l (gtV T n q))]], D.length, rfl, gDf_20 hD1 a2, gget_last, hR2, by omega, by omega, by simp; omega⟩

set_option maxRecDepth 10000 in
theorem w_X5_pow {l : Launch} {Γ : gC} {ad : Nat → Nat} {T : Nat → Int} {n : Nat} {I0 : Nat → Nat → Int} {J0 : Nat → Nat → Int64} {D : List gLn} {q0 d : Nat} {op : Int} (hl : D.length ≤ 2 * q0) (hd : 6 ≤ d) : ∀ (m : Nat) (i : Nat) (t : gLn) (q rr : Nat) (E : List gLn) (I : Nat → Nat → Int) (J : Nat → Nat → Int64), 121 - i < m → (i ≤ 120) → (gTp I T n) → (gRd I T n q) → (gDf I J (D ++ E)) → ((D ++ E)[rr]? = some t) → (q0 < q ∧ q ≤ n) → (E.length + 2 * q0 ≤ 2 * q) → (gKeep I0 J0 I J) → gG l Γ gm_X5_pow (d, 0, 0, 0, 0) 8 [(3, .int (iv (i : Int))), (2, .int (iv (rr : Int))), (0, .ref (gad (gSS ad) 20)), (1, .int (iv op))] [] (gSS ad, I, J) (gDi (fun e μ => ∃ I1 J1, μ = (gSS ad, I1, J1) ∧ gKeep I0 J0 I1 J1 ∧ gRs I1 J1 D q0 T n (gPwL T n (120 - i) t q) e)) := by
  intro m
  induction m with
  | zero => intros; omega
  | succ m ih =>
    intro i t q rr E I J hm hi hT hR hD ht hq hEl hK
    have hn := hT.1
    have hE := gtE_le T hq.2
    have hrr := gget_lt ht
    have hDl := hD.2.1
    refine gg_iload_n dX5_pow_8 0 rfl ?_
    refine gg_bipush dX5_pow_9 (by decide) ?_
    refine gg_icmp_ge (tgt := 80) dX5_pow_11 (by decide) (by omega) (fun hb => ?_) (fun hb => ?_)
    · have hres : gPwL T n (120 - i) t q = .inr (t, q) := by rw [show 120 - i = 0 by omega]; first | rw [gPwL] | rw [gTmL] | rw [gSmL]
      refine gg_iload_n dX5_pow_80 1 rfl ?_
      refine gg_ireti dX5_pow_81 rfl ⟨rfl, rfl⟩ ?_
      refine ⟨I, J, rfl, hK, ?_⟩
      rw [hres]
      exact ⟨E, rr, rfl, hD, ht, hR, hq.1, hq.2, hEl⟩
    · refine gg_iload_n dX5_pow_14 1 rfl ?_
      refine gg_if_lt_f (tgt := 80) dX5_pow_15 (by decide) (by omega) (by omega) ?_
      refine gg_aload_n dX5_pow_18 2 rfl ?_
      refine gg_getI rfl gf_RX5_41 dX5_pow_19 sh_20 pl_20 (by decide) (by decide) ?_
      refine gg_toI (b := gtC T n q) hR.1 ?_
      have hcr := gtC_rng T n q
      refine gg_bipush dX5_pow_22 (by decide) ?_
      refine gg_icmp_ne (tgt := 80) dX5_pow_24 (by decide) (by omega) (fun hc => ?_) (fun hc => ?_)
      · have hres : gPwL T n (120 - i) t q = .inr (t, q) := by
          obtain ⟨z, hz⟩ : ∃ z, 120 - i = z + 1 := ⟨119 - i, by omega⟩
          rw [hz]
          simp only [gPwL]
          rw [if_neg hc]
        refine gg_iload_n dX5_pow_80 1 rfl ?_
        refine gg_ireti dX5_pow_81 rfl ⟨rfl, rfl⟩ ?_
        refine ⟨I, J, rfl, hK, ?_⟩
        rw [hres]
        exact ⟨E, rr, rfl, hD, ht, hR, hq.1, hq.2, hEl⟩
      · obtain ⟨z, hz⟩ : ∃ z, 120 - i = z + 1 := ⟨119 - i, by omega⟩
        have hz2 : 120 - (i + 1) = z := by omega
        have hC : gtC T n q = 94 := by omega
        have hc0 := hE.2.2.2 (by omega)
        refine gg_aload_n dX5_pow_27 2 rfl ?_
        refine gg_callVv (own := RX5) (yt := gm_X5_advance) rfl gl_RX5_34 gk_X5_advance gr_X5_advance dX5_pow_28 (c_X5_advance (d := d - 1) (T := T) (n := n) (q := gtE T n q) (by omega) hT hR.2.2.1 (by omega)) sh_20 pl_20 (by decide) rfl rfl rfl (Nat.le_of_ble_eq_true rfl) (by show _ ≤ d; omega) ⟨Nat.le_refl _, Nat.le_refl _⟩ (fun μ' hc => ?_)
        obtain ⟨I4, rfl, a4, hR4⟩ := hc
        obtain ⟨q4, hqe4⟩ : ∃ z, z = gtE T n q := ⟨_, rfl⟩
        rw [← hqe4] at hR4
        have hT4 := gTp_f hT a4
        have hD4 := gDf_20 hD a4
        have hE4 := gtE_le T (show q4 ≤ n by omega)
        refine gg_aload_n dX5_pow_31 2 rfl ?_
        refine gg_getI rfl gf_RX5_41 dX5_pow_32 sh_20 pl_20 (by decide) (by decide) ?_
        refine gg_toI (b := gtC T n q4) hR4.1 ?_
        have hcr4 := gtC_rng T n q4
        have hv4 := @gtC_23 T n q4
        refine gg_iconst dX5_pow_35 ?_
        refine gg_icmp_ne (tgt := 48) dX5_pow_36 (by decide) (by omega) (fun hc3 => ?_) (fun hc3 => ?_)
        · have hno : ¬ (gtC T n q4 = 3 ∧ gtV T n q4 ≤ 9) := fun h => by omega
          refine gg_aload_n dX5_pow_48 2 rfl ?_
          refine gg_callVi (own := RX5) (yt := gm_X5_fail) rfl gl_RX5_44 gk_X5_fail gr_X5_fail dX5_pow_49 (c_X5_fail (d := d - 1) (p := gtP T n q4) hR4.2.1) sh_20 pl_20 (by decide) rfl rfl rfl (Nat.le_of_ble_eq_true rfl) (by show _ ≤ d; omega) ⟨Nat.le_refl _, Nat.le_refl _⟩ (fun e2 μ' hc => ?_)
          obtain ⟨rfl, rfl⟩ := hc
          refine gg_ireti dX5_pow_52 rfl ⟨rfl, rfl⟩ ?_
          refine ⟨_, J, rfl, gKeep_t hK (gKeep_t (gKeep_20 a4) gKeep_7), ?_⟩
          rw [hz]
          simp only [gPwL]
          rw [if_pos hC, ← hqe4, if_neg hno]
          exact ⟨rfl, gu_s⟩
        · have hC4 : gtC T n q4 = 3 := by omega
          have hv3 := hv4.2 hC4
          have hc4 := hE4.2.2.2 (by omega)
          refine gg_aload_n dX5_pow_39 2 rfl ?_
          refine gg_getI rfl gf_RX5_74 dX5_pow_40 sh_20 pl_20 (by decide) (by decide) ?_
          refine gg_toI (b := gtV T n q4) (hR4.2.2.2 (Or.inr hC4)) ?_
          refine gg_bipush dX5_pow_43 (by decide) ?_
          refine gg_icmp_le (tgt := 53) dX5_pow_45 (by decide) (by omega) (fun hv9 => ?_) (fun hv9 => ?_)
          · refine gg_aload_n dX5_pow_53 2 rfl ?_
            refine gg_getR (k' := 12) rfl gf_RX5_15 dX5_pow_54 sh_20 pl_20 (by decide) (by decide) rr_20_0 ?_
            refine gg_iconst dX5_pow_57 ?_
            refine gg_aload_n dX5_pow_58 2 rfl ?_
            refine gg_getI rfl gf_RX5_74 dX5_pow_59 sh_20 pl_20 (by decide) (by decide) ?_
            refine gg_toI (b := gtV T n q4) (hR4.2.2.2 (Or.inr hC4)) ?_
            refine gg_i2l dX5_pow_62 ?_
            refine gg_iload_n dX5_pow_63 1 rfl ?_
            refine gg_iconst dX5_pow_64 ?_
            refine gg_iconst dX5_pow_65 ?_
            refine gg_callVi (own := RX5) (yt := gm_X0_make) rfl gl_RX5_83 gk_X0_make gr_X0_make dX5_pow_66 (c_X0_make (d := d - 1) (k := 5) (x := gi2l (gtV T n q4)) (la := t) (lb := []) (lc := []) hD4 (by simp only [List.length_append] at hDl ⊢; omega) (by rw [gi2l_of (by omega)]; exact gNv_p (by omega)) (Or.inl ⟨by decide, rr, rfl, hrr, ht⟩) (Or.inr ⟨by decide, rfl, rfl⟩) (Or.inr ⟨by decide, rfl, rfl⟩) (by omega)) sh_12 pl_12 (by decide) rfl rfl rfl (Nat.le_of_ble_eq_true rfl) (by show _ ≤ d; omega) ⟨Nat.le_refl _, Nat.le_refl _⟩ (fun e3 μ' hc => ?_)
            obtain ⟨I5, J5, rfl, hD5, x1, x2, x3, rfl⟩ := hc
            simp only [List.append_nil] at hD5
            obtain ⟨hK5, e20⟩ := gKeep_D x1 x2 x3
            have hT5 := gTp_p hT4 hK5
            have hR5 := gRd_e hR4 e20
            refine gg_istore_n (ls' := [(2, .int (iv ((D ++ E).length : Int))), (3, .int (iv (i : Int))), (0, .ref (gad (gSS ad) 20)), (1, .int (iv op))]) dX5_pow_69 rfl (by decide) rfl ?_
            refine gg_aload_n dX5_pow_70 2 rfl ?_
            refine gg_callVv (own := RX5) (yt := gm_X5_advance) rfl gl_RX5_34 gk_X5_advance gr_X5_advance dX5_pow_71 (c_X5_advance (d := d - 1) (T := T) (n := n) (q := gtE T n q4) (by omega) hT5 hR5.2.2.1 (by omega)) sh_20 pl_20 (by decide) rfl rfl rfl (Nat.le_of_ble_eq_true rfl) (by show _ ≤ d; omega) ⟨Nat.le_refl _, Nat.le_refl _⟩ (fun μ' hc => ?_)
            obtain ⟨I6, rfl, a6, hR6⟩ := hc
            obtain ⟨q6, hqe6⟩ : ∃ z, z = gtE T n q4 := ⟨_, rfl⟩
            rw [← hqe6] at hR6
            have hT6 := gTp_f hT5 a6
            have hD6 := gDf_20 hD5 a6
            have hE6 := gtE_le T (show q6 ≤ n by omega)
            refine gg_iincv (ls' := [(3, .int (iv ((i + 1 : Nat) : Int))), (2, .int (iv ((D ++ E).length : Int))), (0, .ref (gad (gSS ad) 20)), (1, .int (iv op))]) dX5_pow_74 1 rfl (by omega) (by decide) rfl ?_
            refine gg_goto (tgt := 8) dX5_pow_77 (by decide) ?_
            have hstep : gPwL T n (120 - i) t q = gPwL T n (120 - (i + 1)) ((5, gi2l (gtV T n q4)) :: t) q6 := by
              rw [hz, hz2]
              show (if gtC T n q = 94 then _ else _) = _
              rw [if_pos hC, ← hqe4, if_pos ⟨hC4, by omega⟩, ← hqe6]
            rw [hstep]
            refine ih (i + 1) _ q6 _ (E ++ [(5, gi2l (gtV T n q4)) :: t]) I6 J5 (by omega) (by omega) hT6 hR6 (by rw [← List.append_assoc]; exact hD6) (by rw [← List.append_assoc]; exact gget_last) (by omega) (by simp only [List.length_append, List.length_cons, List.length_nil]; omega) (gKeep_t hK (gKeep_t (gKeep_20 a4) (gKeep_t hK5 (gKeep_20 a6))))
          · have hno : ¬ (gtC T n q4 = 3 ∧ gtV T n q4 ≤ 9) := fun h => by omega
            refine gg_aload_n dX5_pow_48 2 rfl ?_
            refine gg_callVi (own := RX5) (yt := gm_X5_fail) rfl gl_RX5_44 gk_X5_fail gr_X5_fail dX5_pow_49 (c_X5_fail (d := d - 1) (p := gtP T n q4) hR4.2.1) sh_20 pl_20 (by decide) rfl rfl rfl (Nat.le_of_ble_eq_true rfl) (by show _ ≤ d; omega) ⟨Nat.le_refl _, Nat.le_refl _⟩ (fun e5 μ' hc => ?_)
            obtain ⟨rfl, rfl⟩ := hc
            refine gg_ireti dX5_pow_52 rfl ⟨rfl, rfl⟩ ?_
            refine ⟨_, J, rfl, gKeep_t hK (gKeep_t (gKeep_20 a4) gKeep_7), ?_⟩
            rw [hz]
            simp only [gPwL]
            rw [if_pos hC, ← hqe4, if_neg hno]
            exact ⟨rfl, gu_s⟩

set_option maxRecDepth 10000 in
theorem w_X5_term {l : Launch} {Γ : gC} {ad : Nat → Nat} {T : Nat → Int} {n : Nat} {I0 : Nat → Nat → Int} {J0 : Nat → Nat → Int64} {D : List gLn} {q0 d : Nat} {op : Int} {pw : Nat → gRT} (H : gCx l Γ ad gm_X5_pow (d - 1) [.ref (gad (gSS ad) 20), .int (iv op)] T n pw) (hl : D.length ≤ 2 * q0) (hd : 6 ≤ d) : ∀ (m : Nat) (i : Nat) (t : gLn) (q rr : Nat) (E : List gLn) (I : Nat → Nat → Int) (J : Nat → Nat → Int64), 121 - i < m → (i ≤ 120) → (gTp I T n) → (gRd I T n q) → (gDf I J (D ++ E)) → ((D ++ E)[rr]? = some t) → (q0 < q ∧ q ≤ n) → (E.length + 2 * q0 ≤ 2 * q) → (gKeep I0 J0 I J) → gG l Γ gm_X5_term (d, 0, 0, 0, 0) 8 [(3, .int (iv (i : Int))), (2, .int (iv (rr : Int))), (0, .ref (gad (gSS ad) 20)), (1, .int (iv op))] [] (gSS ad, I, J) (gDi (fun e μ => ∃ I1 J1, μ = (gSS ad, I1, J1) ∧ gKeep I0 J0 I1 J1 ∧ gRs I1 J1 D q0 T n (gTmL T n pw (120 - i) t q) e)) := by
  intro m
  induction m with
  | zero => intros; omega
  | succ m ih =>
    intro i t q rr E I J hm hi hT hR hD ht hq hEl hK
    have hn := hT.1
    have hE := gtE_le T hq.2
    have hrr := gget_lt ht
    have hDl := hD.2.1
    refine gg_iload_n dX5_term_8 0 rfl ?_
    refine gg_bipush dX5_term_9 (by decide) ?_
    refine gg_icmp_ge (tgt := 63) dX5_term_11 (by decide) (by omega) (fun hb => ?_) (fun hb => ?_)
    · have hres : gTmL T n pw (120 - i) t q = .inr (t, q) := by rw [show 120 - i = 0 by omega]; first | rw [gPwL] | rw [gTmL] | rw [gSmL]
      refine gg_iload_n dX5_term_63 1 rfl ?_
      refine gg_ireti dX5_term_64 rfl ⟨rfl, rfl⟩ ?_
      refine ⟨I, J, rfl, hK, ?_⟩
      rw [hres]
      exact ⟨E, rr, rfl, hD, ht, hR, hq.1, hq.2, hEl⟩
    · refine gg_iload_n dX5_term_14 1 rfl ?_
      refine gg_if_lt_f (tgt := 63) dX5_term_15 (by decide) (by omega) (by omega) ?_
      refine gg_aload_n dX5_term_18 2 rfl ?_
      refine gg_getI rfl gf_RX5_41 dX5_term_19 sh_20 pl_20 (by decide) (by decide) ?_
      refine gg_toI (b := gtC T n q) hR.1 ?_
      have hcr := gtC_rng T n q
      refine gg_bipush dX5_term_22 (by decide) ?_
      refine gg_icmp_ne (tgt := 63) dX5_term_24 (by decide) (by omega) (fun hc => ?_) (fun hc => ?_)
      · have hres : gTmL T n pw (120 - i) t q = .inr (t, q) := by
          obtain ⟨z, hz⟩ : ∃ z, 120 - i = z + 1 := ⟨119 - i, by omega⟩
          rw [hz]
          simp only [gTmL]
          rw [if_neg hc]
        refine gg_iload_n dX5_term_63 1 rfl ?_
        refine gg_ireti dX5_term_64 rfl ⟨rfl, rfl⟩ ?_
        refine ⟨I, J, rfl, hK, ?_⟩
        rw [hres]
        exact ⟨E, rr, rfl, hD, ht, hR, hq.1, hq.2, hEl⟩
      · obtain ⟨z, hz⟩ : ∃ z, 120 - i = z + 1 := ⟨119 - i, by omega⟩
        have hz2 : 120 - (i + 1) = z := by omega
        have hC : gtC T n q = 42 := by omega
        have hc0 := hE.2.2.2 (by omega)
        refine gg_aload_n dX5_term_27 2 rfl ?_
        refine gg_callVv (own := RX5) (yt := gm_X5_advance) rfl gl_RX5_34 gk_X5_advance gr_X5_advance dX5_term_28 (c_X5_advance (d := d - 1) (T := T) (n := n) (q := gtE T n q) (by omega) hT hR.2.2.1 (by omega)) sh_20 pl_20 (by decide) rfl rfl rfl (Nat.le_of_ble_eq_true rfl) (by show _ ≤ d; omega) ⟨Nat.le_refl _, Nat.le_refl _⟩ (fun μ' hc => ?_)
        obtain ⟨I4, rfl, a4, hR4⟩ := hc
        obtain ⟨q4, hqe4⟩ : ∃ z, z = gtE T n q := ⟨_, rfl⟩
        rw [← hqe4] at hR4
        have hT4 := gTp_f hT a4
        have hD4 := gDf_20 hD a4
        have hE4 := gtE_le T (show q4 ≤ n by omega)
        refine gg_aload_n dX5_term_31 2 rfl ?_
        refine gg_iload_n dX5_term_32 3 rfl ?_
        refine gg_callVi (own := RX5) (yt := gm_X5_pow) rfl gl_RX5_94 gk_X5_pow gr_X5_pow dX5_term_33 (H I4 J (D ++ E) q4 hT4 hR4 hD4 (by omega) (by first | omega | (simp only [List.length_append, List.length_cons, List.length_nil]; omega))) sh_20 pl_20 (by decide) rfl rfl rfl (Nat.le_of_ble_eq_true rfl) (by show _ ≤ d; omega) ⟨Nat.le_refl _, Nat.le_refl _⟩ (fun e5 μ' hc => ?_)
        obtain ⟨I5, J5, rfl, hK5, hs5⟩ := hc
        refine gg_istore (ls' := [(4, .int (iv e5)), (3, .int (iv (i : Int))), (2, .int (iv (rr : Int))), (0, .ref (gad (gSS ad) 20)), (1, .int (iv op))]) dX5_term_36 (by decide) rfl ?_
        refine gg_iload dX5_term_38 0 rfl ?_
        refine gg_if_ge (tgt := 45) dX5_term_40 (by decide) (by have := gRs_rng hs5; omega) (fun hg5 => ?_) (fun hg5 => ?_)
        · obtain ⟨t5, p5, E5, r5, hr5, rfl, g5a, g5b, g5c, g5d, g5e, g5f⟩ := gRs_pos hs5 hg5
          have hT5 := gTp_p hT4 hK5
          have hL5 := g5a.2.1
          have hE5 := gtE_le T g5e
          have hlt5 := gget_lt g5b
          refine gg_aload_n dX5_term_45 3 rfl ?_
          refine gg_getR (k' := 12) rfl gf_RX5_15 dX5_term_46 sh_20 pl_20 (by decide) (by decide) rr_20_0 ?_
          refine gg_iconst dX5_term_49 ?_
          refine gg_iload_n dX5_term_50 2 rfl ?_
          refine gg_iload dX5_term_51 0 rfl ?_
          refine gg_callVi (own := RX5) (yt := gm_X0_pair) rfl gl_RX5_90 gk_X0_pair gr_X0_pair dX5_term_53 (c_X0_pair (d := d - 1) (k := 4) (la := t) (lb := t5) g5a (by simp only [List.length_append, List.length_cons, List.length_nil] at hL5 ⊢; omega) (gNv_z (by omega) (by omega) (by omega)) (Or.inl ⟨by decide, rr, rfl, gget_lt (gget_app ht), (gget_app ht)⟩) (Or.inl ⟨by decide, r5, rfl, gget_lt g5b, g5b⟩) (by decide) (by omega)) sh_12 pl_12 (by decide) rfl rfl rfl (Nat.le_of_ble_eq_true rfl) (by show _ ≤ d; omega) ⟨Nat.le_refl _, Nat.le_refl _⟩ (fun e2 μ' hc => ?_)
          obtain ⟨I6, J6, rfl, hD6, x6a, x6b, x6c, rfl⟩ := hc
          obtain ⟨hK6, e20_6⟩ := gKeep_D x6a x6b x6c
          refine gg_istore_n (ls' := [(2, .int (iv ((D ++ E ++ E5).length : Int))), (4, .int (iv (r5 : Int))), (3, .int (iv (i : Int))), (0, .ref (gad (gSS ad) 20)), (1, .int (iv op))]) dX5_term_56 rfl (by decide) rfl ?_
          refine gg_iincv (ls' := [(3, .int (iv ((i + 1 : Nat) : Int))), (2, .int (iv ((D ++ E ++ E5).length : Int))), (4, .int (iv (r5 : Int))), (0, .ref (gad (gSS ad) 20)), (1, .int (iv op))]) dX5_term_57 2 rfl (by omega) (by decide) rfl ?_
          refine gg_goto (tgt := 8) dX5_term_60 (by decide) ?_
          refine gg_sub [0, 1, 3, 4] rfl ?_
          have hstep : gTmL T n pw (120 - i) t q = gTmL T n pw (120 - (i + 1)) ((4, 0) :: (t ++ t5)) p5 := by
            rw [hz, hz2]
            show (if gtC T n q = 42 then _ else _) = _
            rw [if_pos hC, ← hqe4, hr5, gBd_inr]
          rw [hstep]
          refine ih (i + 1) _ p5 _ (E ++ E5 ++ [(4, 0) :: (t ++ t5)]) I6 J6 (by omega) (by omega) (gTp_p hT5 hK6) (gRd_e g5c e20_6) (by simpa using hD6) (by have z := gget_last (D := D ++ E ++ E5) (x := (4, 0) :: (t ++ t5)); simpa using z) (by omega) (by simp only [List.length_append, List.length_cons, List.length_nil]; omega) (gKeep_t hK (gKeep_t (gKeep_20 a4) (gKeep_t hK5 hK6)))
        · obtain ⟨p, hr5, -, h7⟩ := gRs_neg hs5 (by omega)
          refine gg_iconst dX5_term_43 ?_
          refine gg_ireti dX5_term_44 rfl ⟨rfl, rfl⟩ ?_
          refine ⟨I5, J5, rfl, gKeep_t hK (gKeep_t (gKeep_20 a4) hK5), ?_⟩
          rw [hz]
          simp only [gTmL]
          rw [if_pos hC, ← hqe4, hr5, gBd_inl]
          exact ⟨rfl, h7⟩

set_option maxRecDepth 10000 in
theorem w_X5_sum {l : Launch} {Γ : gC} {ad : Nat → Nat} {T : Nat → Int} {n : Nat} {I0 : Nat → Nat → Int} {J0 : Nat → Nat → Int64} {D : List gLn} {q0 d : Nat} {op : Int} {tm : Nat → gRT} (H : gCx l Γ ad gm_X5_term (d - 1) [.ref (gad (gSS ad) 20), .int (iv op)] T n tm) (hl : D.length ≤ 2 * q0) (hd : 6 ≤ d) : ∀ (m : Nat) (i : Nat) (t : gLn) (q rr : Nat) (E : List gLn) (I : Nat → Nat → Int) (J : Nat → Nat → Int64), 121 - i < m → (i ≤ 120) → (gTp I T n) → (gRd I T n q) → (gDf I J (D ++ E)) → ((D ++ E)[rr]? = some t) → (q0 < q ∧ q ≤ n) → (E.length + 2 * q0 ≤ 2 * q) → (gKeep I0 J0 I J) → gG l Γ gm_X5_sum (d, 0, 0, 0, 0) 8 [(3, .int (iv (i : Int))), (2, .int (iv (rr : Int))), (0, .ref (gad (gSS ad) 20)), (1, .int (iv op))] [] (gSS ad, I, J) (gDi (fun e μ => ∃ I1 J1, μ = (gSS ad, I1, J1) ∧ gKeep I0 J0 I1 J1 ∧ gRs I1 J1 D q0 T n (gSmL T n tm (120 - i) t q) e)) := by
  intro m
  induction m with
  | zero => intros; omega
  | succ m ih =>
    intro i t q rr E I J hm hi hT hR hD ht hq hEl hK
    have hn := hT.1
    have hE := gtE_le T hq.2
    have hrr := gget_lt ht
    have hDl := hD.2.1
    refine gg_iload_n dX5_sum_8 0 rfl ?_
    refine gg_bipush dX5_sum_9 (by decide) ?_
    refine gg_icmp_ge (tgt := 107) dX5_sum_11 (by decide) (by omega) (fun hb => ?_) (fun hb => ?_)
    · have hres : gSmL T n tm (120 - i) t q = .inr (t, q) := by rw [show 120 - i = 0 by omega]; first | rw [gPwL] | rw [gTmL] | rw [gSmL]
      refine gg_iload_n dX5_sum_107 1 rfl ?_
      refine gg_ireti dX5_sum_108 rfl ⟨rfl, rfl⟩ ?_
      refine ⟨I, J, rfl, hK, ?_⟩
      rw [hres]
      exact ⟨E, rr, rfl, hD, ht, hR, hq.1, hq.2, hEl⟩
    · refine gg_iload_n dX5_sum_14 1 rfl ?_
      refine gg_if_lt_f (tgt := 107) dX5_sum_15 (by decide) (by omega) (by omega) ?_
      refine gg_aload_n dX5_sum_18 2 rfl ?_
      refine gg_getI rfl gf_RX5_41 dX5_sum_19 sh_20 pl_20 (by decide) (by decide) ?_
      refine gg_toI (b := gtC T n q) hR.1 ?_
      have hcr := gtC_rng T n q
      refine gg_bipush dX5_sum_22 (by decide) ?_
      refine gg_icmp_eq (tgt := 36) dX5_sum_24 (by decide) (by omega) (fun hc => ?_) (fun hc => ?_)
      · obtain ⟨z, hz⟩ : ∃ z, 120 - i = z + 1 := ⟨119 - i, by omega⟩
        have hz2 : 120 - (i + 1) = z := by omega
        have hC : gtC T n q = 43 := by omega
        have hc0 := hE.2.2.2 (by omega)
        refine gg_aload_n dX5_sum_36 2 rfl ?_
        refine gg_getI rfl gf_RX5_41 dX5_sum_37 sh_20 pl_20 (by decide) (by decide) ?_
        refine gg_toI (b := gtC T n q) hR.1 ?_
        have hcr := gtC_rng T n q
        refine gg_bipush dX5_sum_40 (by decide) ?_
        refine gg_icmp_ne_t (tgt := 49) dX5_sum_42 (by decide) (by omega) (by omega) ?_
        refine gg_iconst dX5_sum_49 ?_
        refine gg_istore (ls' := [(4, .int (iv 0)), (3, .int (iv (i : Int))), (2, .int (iv (rr : Int))), (0, .ref (gad (gSS ad) 20)), (1, .int (iv op))]) dX5_sum_50 (by decide) rfl ?_
        refine gg_aload_n dX5_sum_52 3 rfl ?_
        refine gg_callVv (own := RX5) (yt := gm_X5_advance) rfl gl_RX5_34 gk_X5_advance gr_X5_advance dX5_sum_53 (c_X5_advance (d := d - 1) (T := T) (n := n) (q := gtE T n q) (by omega) hT hR.2.2.1 (by omega)) sh_20 pl_20 (by decide) rfl rfl rfl (Nat.le_of_ble_eq_true rfl) (by show _ ≤ d; omega) ⟨Nat.le_refl _, Nat.le_refl _⟩ (fun μ' hc => ?_)
        obtain ⟨I4, rfl, a4, hR4⟩ := hc
        obtain ⟨q4, hqe4⟩ : ∃ z, z = gtE T n q := ⟨_, rfl⟩
        rw [← hqe4] at hR4
        have hT4 := gTp_f hT a4
        have hD4 := gDf_20 hD a4
        have hE4 := gtE_le T (show q4 ≤ n by omega)
        refine gg_aload_n dX5_sum_56 3 rfl ?_
        refine gg_iload_n dX5_sum_57 4 rfl ?_
        refine gg_callVi (own := RX5) (yt := gm_X5_term) rfl gl_RX5_87 gk_X5_term gr_X5_term dX5_sum_58 (H I4 J (D ++ E) q4 hT4 hR4 hD4 (by omega) (by first | omega | (simp only [List.length_append, List.length_cons, List.length_nil]; omega))) sh_20 pl_20 (by decide) rfl rfl rfl (Nat.le_of_ble_eq_true rfl) (by show _ ≤ d; omega) ⟨Nat.le_refl _, Nat.le_refl _⟩ (fun e5 μ' hc => ?_)
        obtain ⟨I5, J5, rfl, hK5, hs5⟩ := hc
        refine gg_istore (ls' := [(5, .int (iv e5)), (4, .int (iv 0)), (3, .int (iv (i : Int))), (2, .int (iv (rr : Int))), (0, .ref (gad (gSS ad) 20)), (1, .int (iv op))]) dX5_sum_61 (by decide) rfl ?_
        refine gg_iload dX5_sum_63 0 rfl ?_
        refine gg_if_ge (tgt := 70) dX5_sum_65 (by decide) (by have := gRs_rng hs5; omega) (fun hg5 => ?_) (fun hg5 => ?_)
        · obtain ⟨t5, p5, E5, r5, hr5, rfl, g5a, g5b, g5c, g5d, g5e, g5f⟩ := gRs_pos hs5 hg5
          have hT5 := gTp_p hT4 hK5
          have hL5 := g5a.2.1
          have hE5 := gtE_le T g5e
          have hlt5 := gget_lt g5b
          refine gg_aload_n dX5_sum_70 4 rfl ?_
          refine gg_getR (k' := 12) rfl gf_RX5_15 dX5_sum_71 sh_20 pl_20 (by decide) (by decide) rr_20_0 ?_
          refine gg_iconst dX5_sum_74 ?_
          refine gg_iload_n dX5_sum_75 3 rfl ?_
          refine gg_iload dX5_sum_76 1 rfl ?_
          refine gg_if_eq_t (tgt := 95) dX5_sum_78 (by decide) (by decide) (by decide) ?_
          refine gg_iload dX5_sum_95 0 rfl ?_
          refine gg_callVi (own := RX5) (yt := gm_X0_pair) rfl gl_RX5_90 gk_X0_pair gr_X0_pair dX5_sum_97 (c_X0_pair (d := d - 1) (k := 3) (la := t) (lb := t5) g5a (by simp only [List.length_append, List.length_cons, List.length_nil] at hL5 ⊢; omega) (gNv_z (by omega) (by omega) (by omega)) (Or.inl ⟨by decide, rr, rfl, gget_lt (gget_app ht), (gget_app ht)⟩) (Or.inl ⟨by decide, r5, rfl, gget_lt g5b, g5b⟩) (by decide) (by omega)) sh_12 pl_12 (by decide) rfl rfl rfl (Nat.le_of_ble_eq_true rfl) (by show _ ≤ d; omega) ⟨Nat.le_refl _, Nat.le_refl _⟩ (fun e2 μ' hc => ?_)
          obtain ⟨I6, J6, rfl, hD6, x6a, x6b, x6c, rfl⟩ := hc
          obtain ⟨hK6, e20_6⟩ := gKeep_D x6a x6b x6c
          refine gg_istore_n (ls' := [(2, .int (iv ((D ++ E ++ E5).length : Int))), (5, .int (iv (r5 : Int))), (4, .int (iv 0)), (3, .int (iv (i : Int))), (0, .ref (gad (gSS ad) 20)), (1, .int (iv op))]) dX5_sum_100 rfl (by decide) rfl ?_
          refine gg_iincv (ls' := [(3, .int (iv ((i + 1 : Nat) : Int))), (2, .int (iv ((D ++ E ++ E5).length : Int))), (5, .int (iv (r5 : Int))), (4, .int (iv 0)), (0, .ref (gad (gSS ad) 20)), (1, .int (iv op))]) dX5_sum_101 3 rfl (by omega) (by decide) rfl ?_
          refine gg_goto (tgt := 8) dX5_sum_104 (by decide) ?_
          refine gg_sub [0, 1, 4, 5] rfl ?_
          have hstep : gSmL T n tm (120 - i) t q = gSmL T n tm (120 - (i + 1)) ((3, 0) :: (t ++ t5)) p5 := by
            rw [hz, hz2]
            show (if gtC T n q = 43 then _ else _) = _
            rw [if_pos hC, ← hqe4, hr5, gBd_inr]
          rw [hstep]
          refine ih (i + 1) _ p5 _ (E ++ E5 ++ [(3, 0) :: (t ++ t5)]) I6 J6 (by omega) (by omega) (gTp_p hT5 hK6) (gRd_e g5c e20_6) (by simpa using hD6) (by have z := gget_last (D := D ++ E ++ E5) (x := (3, 0) :: (t ++ t5)); simpa using z) (by omega) (by simp only [List.length_append, List.length_cons, List.length_nil]; omega) (gKeep_t hK (gKeep_t (gKeep_20 a4) (gKeep_t hK5 hK6)))
        · obtain ⟨p, hr5, -, h7⟩ := gRs_neg hs5 (by omega)
          refine gg_iconst dX5_sum_68 ?_
          refine gg_ireti dX5_sum_69 rfl ⟨rfl, rfl⟩ ?_
          refine ⟨I5, J5, rfl, gKeep_t hK (gKeep_t (gKeep_20 a4) hK5), ?_⟩
          rw [hz]
          simp only [gSmL]
          rw [if_pos hC, ← hqe4, hr5, gBd_inl]
          exact ⟨rfl, h7⟩
      · have hn43 : ¬ gtC T n q = 43 := hc
        refine gg_aload_n dX5_sum_27 2 rfl ?_
        refine gg_getI rfl gf_RX5_41 dX5_sum_28 sh_20 pl_20 (by decide) (by decide) ?_
        refine gg_toI (b := gtC T n q) hR.1 ?_
        have hcr := gtC_rng T n q
        refine gg_bipush dX5_sum_31 (by decide) ?_
        refine gg_icmp_ne (tgt := 107) dX5_sum_33 (by decide) (by omega) (fun hc2 => ?_) (fun hc2 => ?_)
        · have hres : gSmL T n tm (120 - i) t q = .inr (t, q) := by
            obtain ⟨z, hz⟩ : ∃ z, 120 - i = z + 1 := ⟨119 - i, by omega⟩
            rw [hz]
            simp only [gSmL]
            rw [if_neg hn43, if_neg hc2]
          refine gg_iload_n dX5_sum_107 1 rfl ?_
          refine gg_ireti dX5_sum_108 rfl ⟨rfl, rfl⟩ ?_
          refine ⟨I, J, rfl, hK, ?_⟩
          rw [hres]
          exact ⟨E, rr, rfl, hD, ht, hR, hq.1, hq.2, hEl⟩
        · obtain ⟨z, hz⟩ : ∃ z, 120 - i = z + 1 := ⟨119 - i, by omega⟩
          have hz2 : 120 - (i + 1) = z := by omega
          have hC : gtC T n q = 45 := by omega
          have hc0 := hE.2.2.2 (by omega)
          refine gg_aload_n dX5_sum_36 2 rfl ?_
          refine gg_getI rfl gf_RX5_41 dX5_sum_37 sh_20 pl_20 (by decide) (by decide) ?_
          refine gg_toI (b := gtC T n q) hR.1 ?_
          have hcr := gtC_rng T n q
          refine gg_bipush dX5_sum_40 (by decide) ?_
          refine gg_icmp_ne_f (tgt := 49) dX5_sum_42 (by decide) (by omega) (by omega) ?_
          refine gg_iconst dX5_sum_45 ?_
          refine gg_goto (tgt := 50) dX5_sum_46 (by decide) ?_
          refine gg_istore (ls' := [(4, .int (iv 1)), (3, .int (iv (i : Int))), (2, .int (iv (rr : Int))), (0, .ref (gad (gSS ad) 20)), (1, .int (iv op))]) dX5_sum_50 (by decide) rfl ?_
          refine gg_aload_n dX5_sum_52 3 rfl ?_
          refine gg_callVv (own := RX5) (yt := gm_X5_advance) rfl gl_RX5_34 gk_X5_advance gr_X5_advance dX5_sum_53 (c_X5_advance (d := d - 1) (T := T) (n := n) (q := gtE T n q) (by omega) hT hR.2.2.1 (by omega)) sh_20 pl_20 (by decide) rfl rfl rfl (Nat.le_of_ble_eq_true rfl) (by show _ ≤ d; omega) ⟨Nat.le_refl _, Nat.le_refl _⟩ (fun μ' hc => ?_)
          obtain ⟨I4, rfl, a4, hR4⟩ := hc
          obtain ⟨q4, hqe4⟩ : ∃ z, z = gtE T n q := ⟨_, rfl⟩
          rw [← hqe4] at hR4
          have hT4 := gTp_f hT a4
          have hD4 := gDf_20 hD a4
          have hE4 := gtE_le T (show q4 ≤ n by omega)
          refine gg_aload_n dX5_sum_56 3 rfl ?_
          refine gg_iload_n dX5_sum_57 4 rfl ?_
          refine gg_callVi (own := RX5) (yt := gm_X5_term) rfl gl_RX5_87 gk_X5_term gr_X5_term dX5_sum_58 (H I4 J (D ++ E) q4 hT4 hR4 hD4 (by omega) (by first | omega | (simp only [List.length_append, List.length_cons, List.length_nil]; omega))) sh_20 pl_20 (by decide) rfl rfl rfl (Nat.le_of_ble_eq_true rfl) (by show _ ≤ d; omega) ⟨Nat.le_refl _, Nat.le_refl _⟩ (fun e5 μ' hc => ?_)
          obtain ⟨I5, J5, rfl, hK5, hs5⟩ := hc
          refine gg_istore (ls' := [(5, .int (iv e5)), (4, .int (iv 1)), (3, .int (iv (i : Int))), (2, .int (iv (rr : Int))), (0, .ref (gad (gSS ad) 20)), (1, .int (iv op))]) dX5_sum_61 (by decide) rfl ?_
          refine gg_iload dX5_sum_63 0 rfl ?_
          refine gg_if_ge (tgt := 70) dX5_sum_65 (by decide) (by have := gRs_rng hs5; omega) (fun hg5 => ?_) (fun hg5 => ?_)
          · obtain ⟨t5, p5, E5, r5, hr5, rfl, g5a, g5b, g5c, g5d, g5e, g5f⟩ := gRs_pos hs5 hg5
            have hT5 := gTp_p hT4 hK5
            have hL5 := g5a.2.1
            have hE5 := gtE_le T g5e
            have hlt5 := gget_lt g5b
            refine gg_aload_n dX5_sum_70 4 rfl ?_
            refine gg_getR (k' := 12) rfl gf_RX5_15 dX5_sum_71 sh_20 pl_20 (by decide) (by decide) rr_20_0 ?_
            refine gg_iconst dX5_sum_74 ?_
            refine gg_iload_n dX5_sum_75 3 rfl ?_
            refine gg_iload dX5_sum_76 1 rfl ?_
            refine gg_if_eq_f (tgt := 95) dX5_sum_78 (by decide) (by decide) (by decide) ?_
            refine gg_aload_n dX5_sum_81 4 rfl ?_
            refine gg_getR (k' := 12) rfl gf_RX5_15 dX5_sum_82 sh_20 pl_20 (by decide) (by decide) rr_20_0 ?_
            refine gg_iconst dX5_sum_85 ?_
            refine gg_iload dX5_sum_86 0 rfl ?_
            refine gg_iconst dX5_sum_88 ?_
            refine gg_callVi (own := RX5) (yt := gm_X0_pair) rfl gl_RX5_90 gk_X0_pair gr_X0_pair dX5_sum_89 (c_X0_pair (d := d - 1) (k := 2) (la := t5) (lb := []) g5a (by simp only [List.length_append, List.length_cons, List.length_nil] at hL5 ⊢; omega) (gNv_z (by omega) (by omega) (by omega)) (Or.inl ⟨by decide, r5, rfl, gget_lt g5b, g5b⟩) (Or.inr ⟨by decide, rfl, rfl⟩) (by decide) (by omega)) sh_12 pl_12 (by decide) rfl rfl rfl (Nat.le_of_ble_eq_true rfl) (by show _ ≤ d; omega) ⟨Nat.le_refl _, Nat.le_refl _⟩ (fun e4 μ' hc => ?_)
            obtain ⟨I7, J7, rfl, hD7, x7a, x7b, x7c, rfl⟩ := hc
            simp only [List.append_nil] at hD7
            obtain ⟨hK7, e20_7⟩ := gKeep_D x7a x7b x7c
            have hL7 := hD7.2.1
            have gt7 : (D ++ E ++ E5 ++ [(2, 0) :: t5])[(D ++ E ++ E5).length]? = some ((2, 0) :: t5) := gget_last
            have ht7 : (D ++ E ++ E5 ++ [(2, 0) :: t5])[rr]? = some t := gget_app (gget_app ht)
            refine gg_goto (tgt := 97) dX5_sum_92 (by decide) ?_
            refine gg_callVi (own := RX5) (yt := gm_X0_pair) rfl gl_RX5_90 gk_X0_pair gr_X0_pair dX5_sum_97 (c_X0_pair (d := d - 1) (k := 3) (la := t) (lb := ((2, 0) :: t5)) hD7 (by simp only [List.length_append, List.length_cons, List.length_nil] at hL7 ⊢; omega) (gNv_z (by omega) (by omega) (by omega)) (Or.inl ⟨by decide, rr, rfl, gget_lt ht7, ht7⟩) (Or.inl ⟨by decide, (D ++ E ++ E5).length, rfl, gget_lt gt7, gt7⟩) (by decide) (by omega)) sh_12 pl_12 (by decide) rfl rfl rfl (Nat.le_of_ble_eq_true rfl) (by show _ ≤ d; omega) ⟨Nat.le_refl _, Nat.le_refl _⟩ (fun e5 μ' hc => ?_)
            obtain ⟨I6, J6, rfl, hD6, x6a, x6b, x6c, rfl⟩ := hc
            obtain ⟨hK6, e20_6⟩ := gKeep_D x6a x6b x6c
            refine gg_istore_n (ls' := [(2, .int (iv ((D ++ E ++ E5 ++ [(2, 0) :: t5]).length : Int))), (5, .int (iv (r5 : Int))), (4, .int (iv 1)), (3, .int (iv (i : Int))), (0, .ref (gad (gSS ad) 20)), (1, .int (iv op))]) dX5_sum_100 rfl (by decide) rfl ?_
            refine gg_iincv (ls' := [(3, .int (iv ((i + 1 : Nat) : Int))), (2, .int (iv ((D ++ E ++ E5 ++ [(2, 0) :: t5]).length : Int))), (5, .int (iv (r5 : Int))), (4, .int (iv 1)), (0, .ref (gad (gSS ad) 20)), (1, .int (iv op))]) dX5_sum_101 3 rfl (by omega) (by decide) rfl ?_
            refine gg_goto (tgt := 8) dX5_sum_104 (by decide) ?_
            refine gg_sub [0, 1, 4, 5] rfl ?_
            have hstep : gSmL T n tm (120 - i) t q = gSmL T n tm (120 - (i + 1)) ((3, 0) :: (t ++ (2, 0) :: t5)) p5 := by
              rw [hz, hz2]
              show (if gtC T n q = 43 then _ else _) = _
              rw [if_neg hn43, if_pos hC, ← hqe4, hr5, gBd_inr]
            rw [hstep]
            refine ih (i + 1) _ p5 _ (E ++ E5 ++ [(2, 0) :: t5, (3, 0) :: (t ++ (2, 0) :: t5)]) I6 J6 (by omega) (by omega) (gTp_p (gTp_p hT5 hK7) hK6) (gRd_e (gRd_e g5c e20_7) e20_6) (by simpa using hD6) (by have z := gget_last (D := D ++ E ++ E5 ++ [(2, 0) :: t5]) (x := (3, 0) :: (t ++ (2, 0) :: t5)); simpa using z) (by omega) (by simp only [List.length_append, List.length_cons, List.length_nil]; omega) (gKeep_t hK (gKeep_t (gKeep_20 a4) (gKeep_t hK5 (gKeep_t hK7 hK6))))
          · obtain ⟨p, hr5, -, h7⟩ := gRs_neg hs5 (by omega)
            refine gg_iconst dX5_sum_68 ?_
            refine gg_ireti dX5_sum_69 rfl ⟨rfl, rfl⟩ ?_
            refine ⟨I5, J5, rfl, gKeep_t hK (gKeep_t (gKeep_20 a4) hK5), ?_⟩
            rw [hz]
            simp only [gSmL]
            rw [if_neg hn43, if_pos hC, ← hqe4, hr5, gBd_inl]
            exact ⟨rfl, h7⟩

set_option maxRecDepth 10000 in
theorem c_X5_pow {l : Launch} {Γ : gC} {ad : Nat → Nat} {T : Nat → Int} {n : Nat} {op : Int} {d : Nat} {o : Nat → gRT} (hd : 7 ≤ d) (H : gCx l Γ ad gm_X5_one (d - 1) [.ref (gad (gSS ad) 20), .int (iv op)] T n o) : gCx l Γ ad gm_X5_pow d [.ref (gad (gSS ad) 20), .int (iv op)] T n (gPw T n o) := by
  intro I J D q hT hR hD hq hl
  refine gKi_of gk_X5_pow.1 (Nat.le_of_ble_eq_true rfl) ?_
  show gG l Γ gm_X5_pow (d, 0, 0, 0, 0) 0 [(0, .ref (gad (gSS ad) 20)), (1, .int (iv op))] [] _ _
  refine gg_aload_n dX5_pow_0 0 rfl ?_
  refine gg_iload_n dX5_pow_1 1 rfl ?_
  refine gg_callVi (own := RX5) (yt := gm_X5_one) rfl gl_RX5_97 gk_X5_one gr_X5_one dX5_pow_2 (H I J D q hT hR hD hq hl) sh_20 pl_20 (by decide) rfl rfl rfl (Nat.le_of_ble_eq_true rfl) (by show _ ≤ d; omega) ⟨Nat.le_refl _, Nat.le_refl _⟩ (fun e1 μ' hc => ?_)
  obtain ⟨I1, J1, rfl, hK1, hs1⟩ := hc
  refine gg_istore_n (ls' := [(2, .int (iv e1)), (0, .ref (gad (gSS ad) 20)), (1, .int (iv op))]) dX5_pow_5 rfl (by decide) rfl ?_
  refine gg_iconst dX5_pow_6 ?_
  refine gg_istore_n (ls' := [(3, .int (iv 0)), (2, .int (iv e1)), (0, .ref (gad (gSS ad) 20)), (1, .int (iv op))]) dX5_pow_7 rfl (by decide) rfl ?_
  by_cases he : e1 < 0
  · obtain ⟨p, hr, hem, h7⟩ := gRs_neg hs1 he
    subst hem
    refine gg_sub [0, 1, 2, 3] rfl ?_
    refine gg_iload_n dX5_pow_8 0 rfl ?_
    refine gg_bipush dX5_pow_9 (by decide) ?_
    refine gg_icmp_ge_f (tgt := 80) dX5_pow_11 (by decide) (by omega) (by omega) ?_
    refine gg_iload_n dX5_pow_14 1 rfl ?_
    refine gg_if_lt_t (tgt := 80) dX5_pow_15 (by decide) (by omega) (by omega) ?_
    refine gg_iload_n dX5_pow_80 1 rfl ?_
    refine gg_ireti dX5_pow_81 rfl ⟨rfl, rfl⟩ ?_
    refine ⟨I1, J1, rfl, hK1, ?_⟩
    have hfin : (gPw T n o) q = .inl p := by unfold gPw; rw [hr, gBd_inl]
    rw [hfin]
    exact ⟨rfl, h7⟩
  · obtain ⟨t, q1, E, rr, hr, rfl, g1, g2, g3, g4, g5, g6⟩ := gRs_pos hs1 (by omega)
    have hfin : (gPw T n o) q = gPwL T n (120 - 0) t q1 := by unfold gPw; rw [hr, gBd_inr, Nat.sub_zero]
    rw [hfin]
    refine gg_sub [0, 1, 2, 3] rfl ?_
    exact w_X5_pow hl (by omega) (122) 0 t q1 rr E I1 J1 (by omega) (by omega) (gTp_p hT hK1) g3 g1 g2 ⟨g4, g5⟩ g6 hK1

set_option maxRecDepth 10000 in
theorem c_X5_term {l : Launch} {Γ : gC} {ad : Nat → Nat} {T : Nat → Int} {n : Nat} {op : Int} {d : Nat} {pw : Nat → gRT} (hd : 7 ≤ d) (H : gCx l Γ ad gm_X5_pow (d - 1) [.ref (gad (gSS ad) 20), .int (iv op)] T n pw) : gCx l Γ ad gm_X5_term d [.ref (gad (gSS ad) 20), .int (iv op)] T n (fun q => gBd (pw q) (gTmL T n pw 120)) := by
  intro I J D q hT hR hD hq hl
  refine gKi_of gk_X5_term.1 (Nat.le_of_ble_eq_true rfl) ?_
  show gG l Γ gm_X5_term (d, 0, 0, 0, 0) 0 [(0, .ref (gad (gSS ad) 20)), (1, .int (iv op))] [] _ _
  refine gg_aload_n dX5_term_0 0 rfl ?_
  refine gg_iload_n dX5_term_1 1 rfl ?_
  refine gg_callVi (own := RX5) (yt := gm_X5_pow) rfl gl_RX5_94 gk_X5_pow gr_X5_pow dX5_term_2 (H I J D q hT hR hD hq hl) sh_20 pl_20 (by decide) rfl rfl rfl (Nat.le_of_ble_eq_true rfl) (by show _ ≤ d; omega) ⟨Nat.le_refl _, Nat.le_refl _⟩ (fun e1 μ' hc => ?_)
  obtain ⟨I1, J1, rfl, hK1, hs1⟩ := hc
  refine gg_istore_n (ls' := [(2, .int (iv e1)), (0, .ref (gad (gSS ad) 20)), (1, .int (iv op))]) dX5_term_5 rfl (by decide) rfl ?_
  refine gg_iconst dX5_term_6 ?_
  refine gg_istore_n (ls' := [(3, .int (iv 0)), (2, .int (iv e1)), (0, .ref (gad (gSS ad) 20)), (1, .int (iv op))]) dX5_term_7 rfl (by decide) rfl ?_
  by_cases he : e1 < 0
  · obtain ⟨p, hr, hem, h7⟩ := gRs_neg hs1 he
    subst hem
    refine gg_sub [0, 1, 2, 3] rfl ?_
    refine gg_iload_n dX5_term_8 0 rfl ?_
    refine gg_bipush dX5_term_9 (by decide) ?_
    refine gg_icmp_ge_f (tgt := 63) dX5_term_11 (by decide) (by omega) (by omega) ?_
    refine gg_iload_n dX5_term_14 1 rfl ?_
    refine gg_if_lt_t (tgt := 63) dX5_term_15 (by decide) (by omega) (by omega) ?_
    refine gg_iload_n dX5_term_63 1 rfl ?_
    refine gg_ireti dX5_term_64 rfl ⟨rfl, rfl⟩ ?_
    refine ⟨I1, J1, rfl, hK1, ?_⟩
    have hfin : (fun q => gBd (pw q) (gTmL T n pw 120)) q = .inl p := by show gBd _ _ = _; rw [hr, gBd_inl]
    rw [hfin]
    exact ⟨rfl, h7⟩
  · obtain ⟨t, q1, E, rr, hr, rfl, g1, g2, g3, g4, g5, g6⟩ := gRs_pos hs1 (by omega)
    have hfin : (fun q => gBd (pw q) (gTmL T n pw 120)) q = gTmL T n pw (120 - 0) t q1 := by show gBd _ _ = _; rw [hr, gBd_inr, Nat.sub_zero]
    rw [hfin]
    refine gg_sub [0, 1, 2, 3] rfl ?_
    exact w_X5_term H hl (by omega) (122) 0 t q1 rr E I1 J1 (by omega) (by omega) (gTp_p hT hK1) g3 g1 g2 ⟨g4, g5⟩ g6 hK1

set_option maxRecDepth 10000 in
theorem c_X5_sum {l : Launch} {Γ : gC} {ad : Nat → Nat} {T : Nat → Int} {n : Nat} {op : Int} {d : Nat} {tm : Nat → gRT} (hd : 7 ≤ d) (H : gCx l Γ ad gm_X5_term (d - 1) [.ref (gad (gSS ad) 20), .int (iv op)] T n tm) : gCx l Γ ad gm_X5_sum d [.ref (gad (gSS ad) 20), .int (iv op)] T n (fun q => gBd (tm q) (gSmL T n tm 120)) := by
  intro I J D q hT hR hD hq hl
  refine gKi_of gk_X5_sum.1 (Nat.le_of_ble_eq_true rfl) ?_
  show gG l Γ gm_X5_sum (d, 0, 0, 0, 0) 0 [(0, .ref (gad (gSS ad) 20)), (1, .int (iv op))] [] _ _
  refine gg_aload_n dX5_sum_0 0 rfl ?_
  refine gg_iload_n dX5_sum_1 1 rfl ?_
  refine gg_callVi (own := RX5) (yt := gm_X5_term) rfl gl_RX5_87 gk_X5_term gr_X5_term dX5_sum_2 (H I J D q hT hR hD hq hl) sh_20 pl_20 (by decide) rfl rfl rfl (Nat.le_of_ble_eq_true rfl) (by show _ ≤ d; omega) ⟨Nat.le_refl _, Nat.le_refl _⟩ (fun e1 μ' hc => ?_)
  obtain ⟨I1, J1, rfl, hK1, hs1⟩ := hc
  refine gg_istore_n (ls' := [(2, .int (iv e1)), (0, .ref (gad (gSS ad) 20)), (1, .int (iv op))]) dX5_sum_5 rfl (by decide) rfl ?_
  refine gg_iconst dX5_sum_6 ?_
  refine gg_istore_n (ls' := [(3, .int (iv 0)), (2, .int (iv e1)), (0, .ref (gad (gSS ad) 20)), (1, .int (iv op))]) dX5_sum_7 rfl (by decide) rfl ?_
  by_cases he : e1 < 0
  · obtain ⟨p, hr, hem, h7⟩ := gRs_neg hs1 he
    subst hem
    refine gg_sub [0, 1, 2, 3] rfl ?_
    refine gg_iload_n dX5_sum_8 0 rfl ?_
    refine gg_bipush dX5_sum_9 (by decide) ?_
    refine gg_icmp_ge_f (tgt := 107) dX5_sum_11 (by decide) (by omega) (by omega) ?_
    refine gg_iload_n dX5_sum_14 1 rfl ?_
    refine gg_if_lt_t (tgt := 107) dX5_sum_15 (by decide) (by omega) (by omega) ?_
    refine gg_iload_n dX5_sum_107 1 rfl ?_
    refine gg_ireti dX5_sum_108 rfl ⟨rfl, rfl⟩ ?_
    refine ⟨I1, J1, rfl, hK1, ?_⟩
    have hfin : (fun q => gBd (tm q) (gSmL T n tm 120)) q = .inl p := by show gBd _ _ = _; rw [hr, gBd_inl]
    rw [hfin]
    exact ⟨rfl, h7⟩
  · obtain ⟨t, q1, E, rr, hr, rfl, g1, g2, g3, g4, g5, g6⟩ := gRs_pos hs1 (by omega)
    have hfin : (fun q => gBd (tm q) (gSmL T n tm 120)) q = gSmL T n tm (120 - 0) t q1 := by show gBd _ _ = _; rw [hr, gBd_inr, Nat.sub_zero]
    rw [hfin]
    refine gg_sub [0, 1, 2, 3] rfl ?_
    exact w_X5_sum H hl (by omega) (122) 0 t q1 rr E I1 J1 (by omega) (by omega) (gTp_p hT hK1) g3 g1 g2 ⟨g4, g5⟩ g6 hK1

