/-! the class: a choice, one -/
theorem gRs_less {I1 : Nat → Nat → Int} {J1 : Nat → Nat → Int64} {D : List gLn} {q : Nat} {T : Nat → Int} {n : Nat} {r : gRT} {e : Int} (h : gRs I1 J1 D (q + 1) T n r e) : gRs I1 J1 D q T n r e := by
  cases r with
  | inl p => exact h
  | inr x =>
    obtain ⟨E, rr, h1, h2, h3, h4, h5, h6, h7⟩ := h
    exact ⟨E, rr, h1, h2, h3, h4, by omega, h6, by omega⟩
set_option maxRecDepth 10000 in
theorem c_X5_choice {l : Launch} {Γ : gC} {ad : Nat → Nat} {T : Nat → Int} {n : Nat} {d : Nat} {I : Nat → Nat → Int} {J : Nat → Nat → Int64} {D : List gLn} {q : Nat} (hT : gTp I T n) (hR : gRd I T n q) (hD : gDf I J D) (hq : q ≤ n) (hl : D.length ≤ 2 * q) {op : Int} {sm : Nat → gRT} (hd : 7 ≤ d) (H : gCx l Γ ad gm_X5_sum (d - 1) [.ref (gad (gSS ad) 20), .int (iv op)] T n sm) : gKi l Γ gm_X5_choice d [.ref (gad (gSS ad) 20), .int (iv op)] (gSS ad, I, J) (fun e μ => ∃ I1 J1, μ = (gSS ad, I1, J1) ∧ gKeep I J I1 J1 ∧ gRs I1 J1 D q T n (gChF T n sm q) e) := by
  refine gKi_of gk_X5_choice.1 (Nat.le_of_ble_eq_true rfl) ?_
  have hn := hT.1
  have hE := gtE_le T hq
  show gG l Γ gm_X5_choice (d, 0, 0, 0, 0) 0 [(0, .ref (gad (gSS ad) 20)), (1, .int (iv op))] [] _ _
  refine gg_aload_n dX5_choice_0 0 rfl ?_
  refine gg_iload_n dX5_choice_1 1 rfl ?_
  refine gg_callVi (own := RX5) (yt := gm_X5_sum) rfl gl_RX5_80 gk_X5_sum gr_X5_sum dX5_choice_2 (H I J D q hT hR hD (by omega) (by first | omega | (simp only [List.length_append, List.length_cons, List.length_nil]; omega))) sh_20 pl_20 (by decide) rfl rfl rfl (Nat.le_of_ble_eq_true rfl) (by show _ ≤ d; omega) ⟨Nat.le_refl _, Nat.le_refl _⟩ (fun e1 μ' hc => ?_)
  obtain ⟨I1, J1, rfl, hK1, hs1⟩ := hc
  refine gg_istore_n (ls' := [(2, .int (iv e1)), (0, .ref (gad (gSS ad) 20)), (1, .int (iv op))]) dX5_choice_5 rfl (by decide) rfl ?_
  refine gg_iload_n dX5_choice_6 0 rfl ?_
  refine gg_if_lt (tgt := 19) dX5_choice_7 (by decide) (by have := gRs_rng hs1; omega) (fun hg1 => ?_) (fun hg1 => ?_)
  · obtain ⟨p, hr1, hem1, h7⟩ := gRs_neg hs1 (by omega)
    subst hem1
    refine gg_iload_n dX5_choice_19 0 rfl ?_
    refine gg_ireti dX5_choice_20 rfl ⟨rfl, rfl⟩ ?_
    refine ⟨I1, J1, rfl, hK1, ?_⟩
    rw [show gChF T n sm q = .inl p by unfold gChF; rw [hr1, gBd_inl]]
    exact ⟨rfl, h7⟩
  · have hg1 : 0 ≤ e1 := by omega
    obtain ⟨t1, p1, E1, r1, hr1, rfl, g1a, g1b, g1c, g1d, g1e, g1f⟩ := gRs_pos hs1 hg1
    have hT1 := gTp_p hT hK1
    have hL1 := g1a.2.1
    have hE1 := gtE_le T g1e
    have hlt1 := gget_lt g1b
    refine gg_aload_n dX5_choice_10 1 rfl ?_
    refine gg_getI rfl gf_RX5_41 dX5_choice_11 sh_20 pl_20 (by decide) (by decide) ?_
    refine gg_toI (b := gtC T n p1) g1c.1 ?_
    have hcrp1 := gtC_rng T n p1
    refine gg_bipush dX5_choice_14 (by decide) ?_
    refine gg_icmp_eq (tgt := 21) dX5_choice_16 (by decide) (by omega) (fun hqm => ?_) (fun hqm => ?_)
    · have hC1 : gtC T n p1 = 63 := by omega
      have hc1 := hE1.2.2.2 (by omega)
      refine gg_aload_n dX5_choice_21 1 rfl ?_
      refine gg_callVv (own := RX5) (yt := gm_X5_advance) rfl gl_RX5_34 gk_X5_advance gr_X5_advance dX5_choice_22 (c_X5_advance (d := d - 1) (T := T) (n := n) (q := gtE T n p1) (by omega) hT1 g1c.2.2.1 (by omega)) sh_20 pl_20 (by decide) rfl rfl rfl (Nat.le_of_ble_eq_true rfl) (by show _ ≤ d; omega) ⟨Nat.le_refl _, Nat.le_refl _⟩ (fun μ' hc => ?_)
      obtain ⟨I2, rfl, a2, hR2⟩ := hc
      obtain ⟨q2, hqe2⟩ : ∃ z, z = gtE T n p1 := ⟨_, rfl⟩
      rw [← hqe2] at hR2
      have hT2 := gTp_f hT1 a2
      have hD2 := gDf_20 g1a a2
      have hE2 := gtE_le T (show q2 ≤ n by omega)
      refine gg_aload_n dX5_choice_25 1 rfl ?_
      refine gg_iload_n dX5_choice_26 2 rfl ?_
      refine gg_callVi (own := RX5) (yt := gm_X5_sum) rfl gl_RX5_80 gk_X5_sum gr_X5_sum dX5_choice_27 (H I2 J1 (D ++ E1) q2 hT2 hR2 hD2 (by omega) (by first | omega | (simp only [List.length_append, List.length_cons, List.length_nil]; omega))) sh_20 pl_20 (by decide) rfl rfl rfl (Nat.le_of_ble_eq_true rfl) (by show _ ≤ d; omega) ⟨Nat.le_refl _, Nat.le_refl _⟩ (fun e3 μ' hc => ?_)
      obtain ⟨I3, J3, rfl, hK3, hs3⟩ := hc
      refine gg_istore_n (ls' := [(3, .int (iv e3)), (2, .int (iv (r1 : Int))), (0, .ref (gad (gSS ad) 20)), (1, .int (iv op))]) dX5_choice_30 rfl (by decide) rfl ?_
      refine gg_iload_n dX5_choice_31 0 rfl ?_
      refine gg_if_ge (tgt := 37) dX5_choice_32 (by decide) (by have := gRs_rng hs3; omega) (fun hg3 => ?_) (fun hg3 => ?_)
      · obtain ⟨t3, p3, E3, r3, hr3, rfl, g3a, g3b, g3c, g3d, g3e, g3f⟩ := gRs_pos hs3 hg3
        have hT3 := gTp_p hT2 hK3
        have hL3 := g3a.2.1
        have hE3 := gtE_le T g3e
        have hlt3 := gget_lt g3b
        refine gg_aload_n dX5_choice_37 2 rfl ?_
        refine gg_getI rfl gf_RX5_41 dX5_choice_38 sh_20 pl_20 (by decide) (by decide) ?_
        refine gg_toI (b := gtC T n p3) g3c.1 ?_
        have hcrp3 := gtC_rng T n p3
        refine gg_bipush dX5_choice_41 (by decide) ?_
        refine gg_icmp_eq (tgt := 51) dX5_choice_43 (by decide) (by omega) (fun hqn => ?_) (fun hqn => ?_)
        · have hC3 : gtC T n p3 = 58 := by omega
          have hc3 := hE3.2.2.2 (by omega)
          refine gg_aload_n dX5_choice_51 2 rfl ?_
          refine gg_callVv (own := RX5) (yt := gm_X5_advance) rfl gl_RX5_34 gk_X5_advance gr_X5_advance dX5_choice_52 (c_X5_advance (d := d - 1) (T := T) (n := n) (q := gtE T n p3) (by omega) hT3 g3c.2.2.1 (by omega)) sh_20 pl_20 (by decide) rfl rfl rfl (Nat.le_of_ble_eq_true rfl) (by show _ ≤ d; omega) ⟨Nat.le_refl _, Nat.le_refl _⟩ (fun μ' hc => ?_)
          obtain ⟨I4, rfl, a4, hR4⟩ := hc
          obtain ⟨q4, hqe4⟩ : ∃ z, z = gtE T n p3 := ⟨_, rfl⟩
          rw [← hqe4] at hR4
          have hT4 := gTp_f hT3 a4
          have hD4 := gDf_20 g3a a4
          have hE4 := gtE_le T (show q4 ≤ n by omega)
          refine gg_aload_n dX5_choice_55 2 rfl ?_
          refine gg_iload_n dX5_choice_56 3 rfl ?_
          refine gg_callVi (own := RX5) (yt := gm_X5_sum) rfl gl_RX5_80 gk_X5_sum gr_X5_sum dX5_choice_57 (H I4 J3 (D ++ E1 ++ E3) q4 hT4 hR4 hD4 (by omega) (by first | omega | (simp only [List.length_append, List.length_cons, List.length_nil]; omega))) sh_20 pl_20 (by decide) rfl rfl rfl (Nat.le_of_ble_eq_true rfl) (by show _ ≤ d; omega) ⟨Nat.le_refl _, Nat.le_refl _⟩ (fun e5 μ' hc => ?_)
          obtain ⟨I5, J5, rfl, hK5, hs5⟩ := hc
          refine gg_istore (ls' := [(4, .int (iv e5)), (3, .int (iv (r3 : Int))), (2, .int (iv (r1 : Int))), (0, .ref (gad (gSS ad) 20)), (1, .int (iv op))]) dX5_choice_60 (by decide) rfl ?_
          refine gg_iload dX5_choice_62 0 rfl ?_
          refine gg_if_ge (tgt := 71) dX5_choice_64 (by decide) (by have := gRs_rng hs5; omega) (fun hg5 => ?_) (fun hg5 => ?_)
          · obtain ⟨t5, p5, E5, r5, hr5, rfl, g5a, g5b, g5c, g5d, g5e, g5f⟩ := gRs_pos hs5 hg5
            have hT5 := gTp_p hT4 hK5
            have hL5 := g5a.2.1
            have hE5 := gtE_le T g5e
            have hlt5 := gget_lt g5b
            refine gg_aload_n dX5_choice_71 3 rfl ?_
            refine gg_getR (k' := 12) rfl gf_RX5_15 dX5_choice_72 sh_20 pl_20 (by decide) (by decide) rr_20_0 ?_
            refine gg_bipush dX5_choice_75 (by decide) ?_
            refine gg_lconstv (x := 0) dX5_choice_77 rfl ?_
            refine gg_iload_n dX5_choice_78 2 rfl ?_
            refine gg_iload_n dX5_choice_79 1 rfl ?_
            refine gg_iload dX5_choice_80 0 rfl ?_
            refine gg_callVi (own := RX5) (yt := gm_X0_make) rfl gl_RX5_83 gk_X0_make gr_X0_make dX5_choice_82 (c_X0_make (d := d - 1) (k := 6) (x := 0) (la := t1) (lb := t3) (lc := t5) g5a (by simp only [List.length_append] at hL5 ⊢; omega) (gNv_z (by omega) (by omega) (by omega)) (Or.inl ⟨by decide, r1, rfl, gget_lt (gget_app (gget_app g1b)), (gget_app (gget_app g1b))⟩) (Or.inl ⟨by decide, r3, rfl, gget_lt (gget_app g3b), (gget_app g3b)⟩) (Or.inl ⟨by decide, r5, rfl, gget_lt g5b, g5b⟩) (by omega)) sh_12 pl_12 (by decide) rfl rfl rfl (Nat.le_of_ble_eq_true rfl) (by show _ ≤ d; omega) ⟨Nat.le_refl _, Nat.le_refl _⟩ (fun e3 μ' hc => ?_)
            obtain ⟨I6, J6, rfl, hD6, x6a, x6b, x6c, rfl⟩ := hc
            obtain ⟨hK6, e20_6⟩ := gKeep_D x6a x6b x6c
            refine gg_ireti dX5_choice_85 rfl ⟨rfl, rfl⟩ ?_
            refine ⟨I6, J6, rfl, (gKeep_t hK1 (gKeep_t (gKeep_20 a2) (gKeep_t hK3 (gKeep_t (gKeep_20 a4) (gKeep_t hK5 hK6))))), ?_⟩
            rw [show gChF T n sm q = .inr ((6, 0) :: (t1 ++ (t3 ++ t5)), p5) by unfold gChF; rw [hr1, gBd_inr, if_pos hC1, ← hqe2, hr3, gBd_inr, if_pos hC3, ← hqe4, hr5, gBd_inr]]
            refine ⟨E1 ++ E3 ++ E5 ++ [(6, 0) :: (t1 ++ (t3 ++ t5))], _, rfl, by simpa using hD6, ?_, gRd_e g5c e20_6, by omega, by omega, by simp only [List.length_append, List.length_cons, List.length_nil]; omega⟩
            have z := gget_last (D := D ++ E1 ++ E3 ++ E5) (x := (6, 0) :: (t1 ++ (t3 ++ t5)))
            exact (by simpa using z)
          · obtain ⟨p, hr5, hem5, h7⟩ := gRs_neg hs5 (by omega)
            subst hem5
            refine gg_iconst dX5_choice_67 ?_
            refine gg_goto (tgt := 85) dX5_choice_68 (by decide) ?_
            refine gg_ireti dX5_choice_85 rfl ⟨rfl, rfl⟩ ?_
            refine ⟨I5, J5, rfl, (gKeep_t hK1 (gKeep_t (gKeep_20 a2) (gKeep_t hK3 (gKeep_t (gKeep_20 a4) hK5)))), ?_⟩
            rw [show gChF T n sm q = .inl p by unfold gChF; rw [hr1, gBd_inr, if_pos hC1, ← hqe2, hr3, gBd_inr, if_pos hC3, ← hqe4, hr5, gBd_inl]]
            exact ⟨rfl, h7⟩
        · have hq58 : ¬ gtC T n p3 = 58 := by omega
          refine gg_aload_n dX5_choice_46 2 rfl ?_
          refine gg_callVi (own := RX5) (yt := gm_X5_fail) rfl gl_RX5_44 gk_X5_fail gr_X5_fail dX5_choice_47 (c_X5_fail (d := d - 1) (p := gtP T n p3) g3c.2.1) sh_20 pl_20 (by decide) rfl rfl rfl (Nat.le_of_ble_eq_true rfl) (by show _ ≤ d; omega) ⟨Nat.le_refl _, Nat.le_refl _⟩ (fun e4 μ' hc => ?_)
          obtain ⟨rfl, rfl⟩ := hc
          refine gg_ireti dX5_choice_50 rfl ⟨rfl, rfl⟩ ?_
          refine ⟨_, J3, rfl, (gKeep_t hK1 (gKeep_t (gKeep_20 a2) (gKeep_t hK3 gKeep_7))), ?_⟩
          rw [show gChF T n sm q = .inl (gtP T n p3) by unfold gChF; rw [hr1, gBd_inr, if_pos hC1, ← hqe2, hr3, gBd_inr, if_neg hq58]]
          exact ⟨rfl, gu_s⟩
      · obtain ⟨p, hr3, hem3, h7⟩ := gRs_neg hs3 (by omega)
        subst hem3
        refine gg_iconst dX5_choice_35 ?_
        refine gg_ireti dX5_choice_36 rfl ⟨rfl, rfl⟩ ?_
        refine ⟨I3, J3, rfl, (gKeep_t hK1 (gKeep_t (gKeep_20 a2) hK3)), ?_⟩
        rw [show gChF T n sm q = .inl p by unfold gChF; rw [hr1, gBd_inr, if_pos hC1, ← hqe2, hr3, gBd_inl]]
        exact ⟨rfl, h7⟩
    · have hq63 : ¬ gtC T n p1 = 63 := by omega
      refine gg_iload_n dX5_choice_19 0 rfl ?_
      refine gg_ireti dX5_choice_20 rfl ⟨rfl, rfl⟩ ?_
      refine ⟨I1, J1, rfl, hK1, ?_⟩
      rw [show gChF T n sm q = .inr (t1, p1) by unfold gChF; rw [hr1, gBd_inr, if_neg hq63]]
      exact ⟨E1, r1, rfl, g1a, g1b, g1c, g1d, g1e, g1f⟩

set_option maxRecDepth 10000 in
theorem c_X5_enclosed {l : Launch} {Γ : gC} {ad : Nat → Nat} {T : Nat → Int} {n : Nat} {d : Nat} {I : Nat → Nat → Int} {J : Nat → Nat → Int64} {D : List gLn} {q : Nat} (hT : gTp I T n) (hR : gRd I T n q) (hD : gDf I J D) (hq : q ≤ n) (hl : D.length ≤ 2 * q) {op cl : Int} {ch : Nat → gRT} (hcl : 2 ≤ cl ∧ cl ≤ 100) (hc0 : gtC T n q ≠ 0) (hd : 7 ≤ d) (H : gCx l Γ ad gm_X5_choice (d - 1) [.ref (gad (gSS ad) 20), .int (iv op)] T n ch) : gKi l Γ gm_X5_enclosed d [.ref (gad (gSS ad) 20), .int (iv op), .int (iv cl)] (gSS ad, I, J) (fun e μ => ∃ I1 J1, μ = (gSS ad, I1, J1) ∧ gKeep I J I1 J1 ∧ gRs I1 J1 D (q + 1) T n (gBd (ch (gtE T n q)) (fun t q' => if gtC T n q' = cl then .inr (t, gtE T n q') else .inl (gtP T n q'))) e) := by
  refine gKi_of gk_X5_enclosed.1 (Nat.le_of_ble_eq_true rfl) ?_
  have hn := hT.1
  have hE := gtE_le T hq
  have hc1 := hE.2.2.2 hc0
  show gG l Γ gm_X5_enclosed (d, 0, 0, 0, 0) 0 [(0, .ref (gad (gSS ad) 20)), (1, .int (iv op)), (2, .int (iv cl))] [] _ _
  refine gg_aload_n dX5_enclosed_0 0 rfl ?_
  refine gg_callVv (own := RX5) (yt := gm_X5_advance) rfl gl_RX5_34 gk_X5_advance gr_X5_advance dX5_enclosed_1 (c_X5_advance (d := d - 1) (T := T) (n := n) (q := gtE T n q) (by omega) hT hR.2.2.1 (by omega)) sh_20 pl_20 (by decide) rfl rfl rfl (Nat.le_of_ble_eq_true rfl) (by show _ ≤ d; omega) ⟨Nat.le_refl _, Nat.le_refl _⟩ (fun μ' hc => ?_)
  obtain ⟨I4, rfl, a4, hR4⟩ := hc
  obtain ⟨q4, hqe4⟩ : ∃ z, z = gtE T n q := ⟨_, rfl⟩
  rw [← hqe4] at hR4
  have hT4 := gTp_f hT a4
  have hD4 := gDf_20 hD a4
  have hE4 := gtE_le T (show q4 ≤ n by omega)
  refine gg_aload_n dX5_enclosed_4 0 rfl ?_
  refine gg_iload_n dX5_enclosed_5 1 rfl ?_
  refine gg_callVi (own := RX5) (yt := gm_X5_choice) rfl gl_RX5_37 gk_X5_choice gr_X5_choice dX5_enclosed_6 (H I4 J D q4 hT4 hR4 hD4 (by omega) (by first | omega | (simp only [List.length_append, List.length_cons, List.length_nil]; omega))) sh_20 pl_20 (by decide) rfl rfl rfl (Nat.le_of_ble_eq_true rfl) (by show _ ≤ d; omega) ⟨Nat.le_refl _, Nat.le_refl _⟩ (fun e5 μ' hc => ?_)
  obtain ⟨I5, J5, rfl, hK5, hs5⟩ := hc
  refine gg_istore_n (ls' := [(3, .int (iv e5)), (0, .ref (gad (gSS ad) 20)), (1, .int (iv op)), (2, .int (iv cl))]) dX5_enclosed_9 rfl (by decide) rfl ?_
  refine gg_iload_n dX5_enclosed_10 0 rfl ?_
  refine gg_if_ge (tgt := 16) dX5_enclosed_11 (by decide) (by have := gRs_rng hs5; omega) (fun hg5 => ?_) (fun hg5 => ?_)
  · obtain ⟨t5, p5, E5, r5, hr5, rfl, g5a, g5b, g5c, g5d, g5e, g5f⟩ := gRs_pos hs5 hg5
    have hT5 := gTp_p hT4 hK5
    have hL5 := g5a.2.1
    have hE5 := gtE_le T g5e
    have hlt5 := gget_lt g5b
    refine gg_aload_n dX5_enclosed_16 1 rfl ?_
    refine gg_getI rfl gf_RX5_41 dX5_enclosed_17 sh_20 pl_20 (by decide) (by decide) ?_
    refine gg_toI (b := gtC T n p5) g5c.1 ?_
    have hcrp5 := gtC_rng T n p5
    refine gg_iload_n dX5_enclosed_20 3 rfl ?_
    refine gg_icmp_eq (tgt := 29) dX5_enclosed_21 (by decide) (by omega) (fun hqm => ?_) (fun hqm => ?_)
    · have hC5 : gtC T n p5 = cl := by omega
      have hc5 := hE5.2.2.2 (by omega)
      refine gg_aload_n dX5_enclosed_29 1 rfl ?_
      refine gg_callVv (own := RX5) (yt := gm_X5_advance) rfl gl_RX5_34 gk_X5_advance gr_X5_advance dX5_enclosed_30 (c_X5_advance (d := d - 1) (T := T) (n := n) (q := gtE T n p5) (by omega) hT5 g5c.2.2.1 (by omega)) sh_20 pl_20 (by decide) rfl rfl rfl (Nat.le_of_ble_eq_true rfl) (by show _ ≤ d; omega) ⟨Nat.le_refl _, Nat.le_refl _⟩ (fun μ' hc => ?_)
      obtain ⟨I6, rfl, a6, hR6⟩ := hc
      obtain ⟨q6, hqe6⟩ : ∃ z, z = gtE T n p5 := ⟨_, rfl⟩
      rw [← hqe6] at hR6
      have hT6 := gTp_f hT5 a6
      have hD6 := gDf_20 g5a a6
      have hE6 := gtE_le T (show q6 ≤ n by omega)
      refine gg_iload_n dX5_enclosed_33 0 rfl ?_
      refine gg_ireti dX5_enclosed_34 rfl ⟨rfl, rfl⟩ ?_
      refine ⟨I6, J5, rfl, (gKeep_t (gKeep_20 a4) (gKeep_t hK5 (gKeep_20 a6))), ?_⟩
      rw [← hqe4, hr5, gBd_inr, if_pos hC5, ← hqe6]
      exact ⟨E5, r5, rfl, gDf_20 g5a a6, g5b, hR6, by omega, by omega, by omega⟩
    · have hqc : ¬ gtC T n p5 = cl := by omega
      refine gg_aload_n dX5_enclosed_24 1 rfl ?_
      refine gg_callVi (own := RX5) (yt := gm_X5_fail) rfl gl_RX5_44 gk_X5_fail gr_X5_fail dX5_enclosed_25 (c_X5_fail (d := d - 1) (p := gtP T n p5) g5c.2.1) sh_20 pl_20 (by decide) rfl rfl rfl (Nat.le_of_ble_eq_true rfl) (by show _ ≤ d; omega) ⟨Nat.le_refl _, Nat.le_refl _⟩ (fun e3 μ' hc => ?_)
      obtain ⟨rfl, rfl⟩ := hc
      refine gg_ireti dX5_enclosed_28 rfl ⟨rfl, rfl⟩ ?_
      refine ⟨_, J5, rfl, (gKeep_t (gKeep_20 a4) (gKeep_t hK5 gKeep_7)), ?_⟩
      rw [← hqe4, hr5, gBd_inr, if_neg hqc]
      exact ⟨rfl, gu_s⟩
  · obtain ⟨p, hr5, hem5, h7⟩ := gRs_neg hs5 (by omega)
    subst hem5
    refine gg_iconst dX5_enclosed_14 ?_
    refine gg_ireti dX5_enclosed_15 rfl ⟨rfl, rfl⟩ ?_
    refine ⟨I5, J5, rfl, (gKeep_t (gKeep_20 a4) hK5), ?_⟩
    rw [← hqe4, hr5, gBd_inl]
    exact ⟨rfl, h7⟩

set_option maxRecDepth 10000 in
theorem c_X5_negated {l : Launch} {Γ : gC} {ad : Nat → Nat} {T : Nat → Int} {n : Nat} {d : Nat} {I : Nat → Nat → Int} {J : Nat → Nat → Int64} {D : List gLn} {q : Nat} (hT : gTp I T n) (hR : gRd I T n q) (hD : gDf I J D) (hq : q ≤ n) (hl : D.length ≤ 2 * q) {op : Int} {on : Nat → gRT} (hc0 : gtC T n q ≠ 0) (hd : 7 ≤ d) (H : gCx l Γ ad gm_X5_one (d - 1) [.ref (gad (gSS ad) 20), .int (iv op)] T n on) : gKi l Γ gm_X5_negated d [.ref (gad (gSS ad) 20), .int (iv op)] (gSS ad, I, J) (fun e μ => ∃ I1 J1, μ = (gSS ad, I1, J1) ∧ gKeep I J I1 J1 ∧ gRs I1 J1 D q T n (gNe T n on q) e) := by
  refine gKi_of gk_X5_negated.1 (Nat.le_of_ble_eq_true rfl) ?_
  have hn := hT.1
  have hE := gtE_le T hq
  have hc1 := hE.2.2.2 hc0
  show gG l Γ gm_X5_negated (d, 0, 0, 0, 0) 0 [(0, .ref (gad (gSS ad) 20)), (1, .int (iv op))] [] _ _
  refine gg_aload_n dX5_negated_0 0 rfl ?_
  refine gg_callVv (own := RX5) (yt := gm_X5_advance) rfl gl_RX5_34 gk_X5_advance gr_X5_advance dX5_negated_1 (c_X5_advance (d := d - 1) (T := T) (n := n) (q := gtE T n q) (by omega) hT hR.2.2.1 (by omega)) sh_20 pl_20 (by decide) rfl rfl rfl (Nat.le_of_ble_eq_true rfl) (by show _ ≤ d; omega) ⟨Nat.le_refl _, Nat.le_refl _⟩ (fun μ' hc => ?_)
  obtain ⟨I4, rfl, a4, hR4⟩ := hc
  obtain ⟨q4, hqe4⟩ : ∃ z, z = gtE T n q := ⟨_, rfl⟩
  rw [← hqe4] at hR4
  have hT4 := gTp_f hT a4
  have hD4 := gDf_20 hD a4
  have hE4 := gtE_le T (show q4 ≤ n by omega)
  refine gg_aload_n dX5_negated_4 0 rfl ?_
  refine gg_iload_n dX5_negated_5 1 rfl ?_
  refine gg_callVi (own := RX5) (yt := gm_X5_one) rfl gl_RX5_97 gk_X5_one gr_X5_one dX5_negated_6 (H I4 J D q4 hT4 hR4 hD4 (by omega) (by first | omega | (simp only [List.length_append, List.length_cons, List.length_nil]; omega))) sh_20 pl_20 (by decide) rfl rfl rfl (Nat.le_of_ble_eq_true rfl) (by show _ ≤ d; omega) ⟨Nat.le_refl _, Nat.le_refl _⟩ (fun e5 μ' hc => ?_)
  obtain ⟨I5, J5, rfl, hK5, hs5⟩ := hc
  refine gg_istore_n (ls' := [(2, .int (iv e5)), (0, .ref (gad (gSS ad) 20)), (1, .int (iv op))]) dX5_negated_9 rfl (by decide) rfl ?_
  refine gg_iload_n dX5_negated_10 0 rfl ?_
  refine gg_if_ge (tgt := 18) dX5_negated_11 (by decide) (by have := gRs_rng hs5; omega) (fun hg5 => ?_) (fun hg5 => ?_)
  · obtain ⟨t5, p5, E5, r5, hr5, rfl, g5a, g5b, g5c, g5d, g5e, g5f⟩ := gRs_pos hs5 hg5
    have hT5 := gTp_p hT4 hK5
    have hL5 := g5a.2.1
    have hE5 := gtE_le T g5e
    have hlt5 := gget_lt g5b
    refine gg_aload_n dX5_negated_18 1 rfl ?_
    refine gg_getR (k' := 12) rfl gf_RX5_15 dX5_negated_19 sh_20 pl_20 (by decide) (by decide) rr_20_0 ?_
    refine gg_iconst dX5_negated_22 ?_
    refine gg_iload_n dX5_negated_23 0 rfl ?_
    refine gg_iconst dX5_negated_24 ?_
    refine gg_callVi (own := RX5) (yt := gm_X0_pair) rfl gl_RX5_90 gk_X0_pair gr_X0_pair dX5_negated_25 (c_X0_pair (d := d - 1) (k := 2) (la := t5) (lb := []) g5a (by simp only [List.length_append, List.length_cons, List.length_nil] at hL5 ⊢; omega) (gNv_z (by omega) (by omega) (by omega)) (Or.inl ⟨by decide, r5, rfl, gget_lt g5b, g5b⟩) (Or.inr ⟨by decide, rfl, rfl⟩) (by decide) (by omega)) sh_12 pl_12 (by decide) rfl rfl rfl (Nat.le_of_ble_eq_true rfl) (by show _ ≤ d; omega) ⟨Nat.le_refl _, Nat.le_refl _⟩ (fun e2 μ' hc => ?_)
    obtain ⟨I6, J6, rfl, hD6, x6a, x6b, x6c, rfl⟩ := hc
    simp only [List.append_nil] at hD6
    obtain ⟨hK6, e20_6⟩ := gKeep_D x6a x6b x6c
    refine gg_ireti dX5_negated_28 rfl ⟨rfl, rfl⟩ ?_
    refine ⟨I6, J6, rfl, (gKeep_t (gKeep_20 a4) (gKeep_t hK5 hK6)), ?_⟩
    unfold gNe
    rw [← hqe4, hr5, gBd_inr]
    refine ⟨E5 ++ [(2, 0) :: t5], _, rfl, by simpa using hD6, ?_, gRd_e g5c e20_6, by omega, by omega, by simp only [List.length_append, List.length_cons, List.length_nil]; omega⟩
    have z := gget_last (D := D ++ E5) (x := (2, 0) :: t5)
    exact (by simpa using z)
  · obtain ⟨p, hr5, hem5, h7⟩ := gRs_neg hs5 (by omega)
    subst hem5
    refine gg_iconst dX5_negated_14 ?_
    refine gg_goto (tgt := 28) dX5_negated_15 (by decide) ?_
    refine gg_ireti dX5_negated_28 rfl ⟨rfl, rfl⟩ ?_
    refine ⟨I5, J5, rfl, (gKeep_t (gKeep_20 a4) hK5), ?_⟩
    unfold gNe
    rw [← hqe4, hr5, gBd_inl]
    exact ⟨rfl, h7⟩

set_option maxRecDepth 10000 in
theorem c_X5_squared {l : Launch} {Γ : gC} {ad : Nat → Nat} {T : Nat → Int} {n : Nat} {d : Nat} {I : Nat → Nat → Int} {J : Nat → Nat → Int64} {D : List gLn} {q : Nat} (hT : gTp I T n) (hR : gRd I T n q) (hD : gDf I J D) (hq : q ≤ n) (hl : D.length ≤ 2 * q) {op : Int} {ch : Nat → gRT} (hc0 : gtC T n q ≠ 0) (hd : 8 ≤ d) (H : gCx l Γ ad gm_X5_choice (d - 1 - 1) [.ref (gad (gSS ad) 20), .int (iv op)] T n ch) : gKi l Γ gm_X5_squared d [.ref (gad (gSS ad) 20), .int (iv op)] (gSS ad, I, J) (fun e μ => ∃ I1 J1, μ = (gSS ad, I1, J1) ∧ gKeep I J I1 J1 ∧ gRs I1 J1 D q T n (gBd (gBd (ch (gtE T n q)) (fun t q' => if gtC T n q' = 93 then .inr (t, gtE T n q') else .inl (gtP T n q'))) (fun t q' => .inr ((7, 0) :: t, q'))) e) := by
  refine gKi_of gk_X5_squared.1 (Nat.le_of_ble_eq_true rfl) ?_
  have hn := hT.1
  have hE := gtE_le T hq
  have hc1 := hE.2.2.2 hc0
  show gG l Γ gm_X5_squared (d, 0, 0, 0, 0) 0 [(0, .ref (gad (gSS ad) 20)), (1, .int (iv op))] [] _ _
  refine gg_aload_n dX5_squared_0 0 rfl ?_
  refine gg_iload_n dX5_squared_1 1 rfl ?_
  refine gg_bipush dX5_squared_2 (by decide) ?_
  refine gg_callVi (own := RX5) (yt := gm_X5_enclosed) rfl gl_RX5_106 gk_X5_enclosed gr_X5_enclosed dX5_squared_4 (c_X5_enclosed (d := d - 1) (cl := 93) hT hR hD hq hl (by omega) hc0 (by omega) H) sh_20 pl_20 (by decide) rfl rfl rfl (Nat.le_of_ble_eq_true rfl) (by show _ ≤ d; omega) ⟨Nat.le_refl _, Nat.le_refl _⟩ (fun e5 μ' hc => ?_)
  obtain ⟨I5, J5, rfl, hK5, hs5⟩ := hc
  refine gg_istore_n (ls' := [(2, .int (iv e5)), (0, .ref (gad (gSS ad) 20)), (1, .int (iv op))]) dX5_squared_7 rfl (by decide) rfl ?_
  refine gg_iload_n dX5_squared_8 0 rfl ?_
  refine gg_if_ge (tgt := 16) dX5_squared_9 (by decide) (by have := gRs_rng hs5; omega) (fun hg5 => ?_) (fun hg5 => ?_)
  · obtain ⟨t5, p5, E5, r5, hr5, rfl, g5a, g5b, g5c, g5d, g5e, g5f⟩ := gRs_pos hs5 hg5
    have hT5 := gTp_p hT hK5
    have hL5 := g5a.2.1
    have hE5 := gtE_le T g5e
    have hlt5 := gget_lt g5b
    refine gg_aload_n dX5_squared_16 1 rfl ?_
    refine gg_getR (k' := 12) rfl gf_RX5_15 dX5_squared_17 sh_20 pl_20 (by decide) (by decide) rr_20_0 ?_
    refine gg_bipush dX5_squared_20 (by decide) ?_
    refine gg_iload_n dX5_squared_22 0 rfl ?_
    refine gg_iconst dX5_squared_23 ?_
    refine gg_callVi (own := RX5) (yt := gm_X0_pair) rfl gl_RX5_90 gk_X0_pair gr_X0_pair dX5_squared_24 (c_X0_pair (d := d - 1) (k := 7) (la := t5) (lb := []) g5a (by simp only [List.length_append, List.length_cons, List.length_nil] at hL5 ⊢; omega) (gNv_z (by omega) (by omega) (by omega)) (Or.inl ⟨by decide, r5, rfl, gget_lt g5b, g5b⟩) (Or.inr ⟨by decide, rfl, rfl⟩) (by decide) (by omega)) sh_12 pl_12 (by decide) rfl rfl rfl (Nat.le_of_ble_eq_true rfl) (by show _ ≤ d; omega) ⟨Nat.le_refl _, Nat.le_refl _⟩ (fun e1 μ' hc => ?_)
    obtain ⟨I6, J6, rfl, hD6, x6a, x6b, x6c, rfl⟩ := hc
    simp only [List.append_nil] at hD6
    obtain ⟨hK6, e20_6⟩ := gKeep_D x6a x6b x6c
    refine gg_ireti dX5_squared_27 rfl ⟨rfl, rfl⟩ ?_
    refine ⟨I6, J6, rfl, (gKeep_t hK5 hK6), ?_⟩
    rw [hr5, gBd_inr]
    refine ⟨E5 ++ [(7, 0) :: t5], _, rfl, by simpa using hD6, ?_, gRd_e g5c e20_6, by omega, by omega, by simp only [List.length_append, List.length_cons, List.length_nil]; omega⟩
    have z := gget_last (D := D ++ E5) (x := (7, 0) :: t5)
    exact (by simpa using z)
  · obtain ⟨p, hr5, hem5, h7⟩ := gRs_neg hs5 (by omega)
    subst hem5
    refine gg_iconst dX5_squared_12 ?_
    refine gg_goto (tgt := 27) dX5_squared_13 (by decide) ?_
    refine gg_ireti dX5_squared_27 rfl ⟨rfl, rfl⟩ ?_
    refine ⟨I5, J5, rfl, hK5, ?_⟩
    rw [hr5, gBd_inl]
    exact ⟨rfl, h7⟩

set_option maxRecDepth 10000 in
theorem c_X5_one_3 {l : Launch} {Γ : gC} {ad : Nat → Nat} {T : Nat → Int} {n : Nat} {d : Nat} {I : Nat → Nat → Int} {J : Nat → Nat → Int64} {D : List gLn} {q : Nat} (hT : gTp I T n) (hR : gRd I T n q) (hD : gDf I J D) (hq : q ≤ n) (hl : D.length ≤ 2 * q) {op : Int} (hC : gtC T n q = 3) (hd : 5 ≤ d) : gKi l Γ gm_X5_one d [.ref (gad (gSS ad) 20), .int (iv op)] (gSS ad, I, J) (fun e μ => ∃ I1 J1, μ = (gSS ad, I1, J1) ∧ gKeep I J I1 J1 ∧ gRs I1 J1 D q T n (.inr ([(0, gi2l (gtV T n q))], gtE T n q)) e) := by
  refine gKi_of gk_X5_one.1 (Nat.le_of_ble_eq_true rfl) ?_
  have hn := hT.1
  have hE := gtE_le T hq
  show gG l Γ gm_X5_one (d, 0, 0, 0, 0) 0 [(0, .ref (gad (gSS ad) 20)), (1, .int (iv op))] [] _ _
  refine gg_aload_n dX5_one_0 0 rfl ?_
  refine gg_getI rfl gf_RX5_41 dX5_one_1 sh_20 pl_20 (by decide) (by decide) ?_
  refine gg_toI (b := 3) (hR.1.trans hC) ?_
  refine gg_lsw (off := 52) (tgt := 56) dX5_one_4 (by decide) (by decide) (by decide) (by decide) ?_
  refine gg_aload_n dX5_one_56 0 rfl ?_
  refine gg_iconst dX5_one_57 ?_
  refine gg_callVi (own := RX5) (yt := gm_X5_leafOf) rfl gl_RX5_100 gk_X5_leafOf gr_X5_leafOf dX5_one_58 (c_X5_leafOf_0 (d := d - 1) hT hR hD hq hl hC (by omega)) sh_20 pl_20 (by decide) rfl rfl rfl (Nat.le_of_ble_eq_true rfl) (by show _ ≤ d; omega) ⟨Nat.le_refl _, Nat.le_refl _⟩ (fun e1 μ' hc => ?_)
  obtain ⟨I1, J1, rfl, hK1, hs1⟩ := hc
  refine gg_ireti dX5_one_61 rfl ⟨rfl, rfl⟩ ?_
  exact ⟨I1, J1, rfl, hK1, hs1⟩

set_option maxRecDepth 10000 in
theorem c_X5_one_2 {l : Launch} {Γ : gC} {ad : Nat → Nat} {T : Nat → Int} {n : Nat} {d : Nat} {I : Nat → Nat → Int} {J : Nat → Nat → Int64} {D : List gLn} {q : Nat} (hT : gTp I T n) (hR : gRd I T n q) (hD : gDf I J D) (hq : q ≤ n) (hl : D.length ≤ 2 * q) {op : Int} (hC : gtC T n q = 2) (hd : 5 ≤ d) : gKi l Γ gm_X5_one d [.ref (gad (gSS ad) 20), .int (iv op)] (gSS ad, I, J) (fun e μ => ∃ I1 J1, μ = (gSS ad, I1, J1) ∧ gKeep I J I1 J1 ∧ gRs I1 J1 D q T n (.inr ([(1, gi2l (gtV T n q))], gtE T n q)) e) := by
  refine gKi_of gk_X5_one.1 (Nat.le_of_ble_eq_true rfl) ?_
  have hn := hT.1
  have hE := gtE_le T hq
  show gG l Γ gm_X5_one (d, 0, 0, 0, 0) 0 [(0, .ref (gad (gSS ad) 20)), (1, .int (iv op))] [] _ _
  refine gg_aload_n dX5_one_0 0 rfl ?_
  refine gg_getI rfl gf_RX5_41 dX5_one_1 sh_20 pl_20 (by decide) (by decide) ?_
  refine gg_toI (b := 2) (hR.1.trans hC) ?_
  refine gg_lsw (off := 58) (tgt := 62) dX5_one_4 (by decide) (by decide) (by decide) (by decide) ?_
  refine gg_aload_n dX5_one_62 0 rfl ?_
  refine gg_iconst dX5_one_63 ?_
  refine gg_callVi (own := RX5) (yt := gm_X5_leafOf) rfl gl_RX5_100 gk_X5_leafOf gr_X5_leafOf dX5_one_64 (c_X5_leafOf_1 (d := d - 1) hT hR hD hq hl hC (by omega)) sh_20 pl_20 (by decide) rfl rfl rfl (Nat.le_of_ble_eq_true rfl) (by show _ ≤ d; omega) ⟨Nat.le_refl _, Nat.le_refl _⟩ (fun e1 μ' hc => ?_)
  obtain ⟨I1, J1, rfl, hK1, hs1⟩ := hc
  refine gg_ireti dX5_one_67 rfl ⟨rfl, rfl⟩ ?_
  exact ⟨I1, J1, rfl, hK1, hs1⟩

set_option maxRecDepth 10000 in
theorem c_X5_one_o {l : Launch} {Γ : gC} {ad : Nat → Nat} {T : Nat → Int} {n : Nat} {d : Nat} {I : Nat → Nat → Int} {J : Nat → Nat → Int64} {D : List gLn} {q : Nat} (hT : gTp I T n) (hR : gRd I T n q) (hD : gDf I J D) (hq : q ≤ n) (hl : D.length ≤ 2 * q) {op : Int} (h2 : gtC T n q ≠ 2) (h3 : gtC T n q ≠ 3) (h40 : gtC T n q ≠ 40) (h45 : gtC T n q ≠ 45) (h91 : gtC T n q ≠ 91) (hd : 5 ≤ d) : gKi l Γ gm_X5_one d [.ref (gad (gSS ad) 20), .int (iv op)] (gSS ad, I, J) (fun e μ => ∃ I1 J1, μ = (gSS ad, I1, J1) ∧ gKeep I J I1 J1 ∧ gRs I1 J1 D q T n (.inl (gtP T n q)) e) := by
  refine gKi_of gk_X5_one.1 (Nat.le_of_ble_eq_true rfl) ?_
  have hn := hT.1
  have hE := gtE_le T hq
  show gG l Γ gm_X5_one (d, 0, 0, 0, 0) 0 [(0, .ref (gad (gSS ad) 20)), (1, .int (iv op))] [] _ _
  refine gg_aload_n dX5_one_0 0 rfl ?_
  refine gg_getI rfl gf_RX5_41 dX5_one_1 sh_20 pl_20 (by decide) (by decide) ?_
  refine gg_toI (b := gtC T n q) hR.1 ?_
  have hcr := gtC_rng T n q
  refine gg_lsw (off := 126) (tgt := 130) dX5_one_4 (by decide) (by omega) (by show Op.lookupswitch.offset [(2, 58), (3, 52), (40, 84), (45, 64), (91, 106)] (126) (gtC T n q) = 126; simp only [Op.lookupswitch.offset_cons, Op.lookupswitch.offset_nil]; rw [if_neg (by omega), if_neg (by omega), if_neg (by omega), if_neg (by omega), if_neg (by omega)]) (by decide) ?_
  refine gg_aload_n dX5_one_130 0 rfl ?_
  refine gg_callVi (own := RX5) (yt := gm_X5_fail) rfl gl_RX5_44 gk_X5_fail gr_X5_fail dX5_one_131 (c_X5_fail (d := d - 1) (p := gtP T n q) hR.2.1) sh_20 pl_20 (by decide) rfl rfl rfl (Nat.le_of_ble_eq_true rfl) (by show _ ≤ d; omega) ⟨Nat.le_refl _, Nat.le_refl _⟩ (fun e1 μ' hc => ?_)
  obtain ⟨rfl, rfl⟩ := hc
  refine gg_ireti dX5_one_134 rfl ⟨rfl, rfl⟩ ?_
  exact ⟨_, J, rfl, gKeep_7, rfl, gu_s⟩

set_option maxRecDepth 10000 in
theorem c_X5_one_40x {l : Launch} {Γ : gC} {ad : Nat → Nat} {T : Nat → Int} {n : Nat} {d : Nat} {I : Nat → Nat → Int} {J : Nat → Nat → Int64} {D : List gLn} {q : Nat} (hT : gTp I T n) (hR : gRd I T n q) (hD : gDf I J D) (hq : q ≤ n) (hl : D.length ≤ 2 * q) (hC : gtC T n q = 40) (hd : 5 ≤ d) : gKi l Γ gm_X5_one d [.ref (gad (gSS ad) 20), .int (iv 5)] (gSS ad, I, J) (fun e μ => ∃ I1 J1, μ = (gSS ad, I1, J1) ∧ gKeep I J I1 J1 ∧ gRs I1 J1 D q T n (.inl (gtP T n q)) e) := by
  refine gKi_of gk_X5_one.1 (Nat.le_of_ble_eq_true rfl) ?_
  have hn := hT.1
  have hE := gtE_le T hq
  show gG l Γ gm_X5_one (d, 0, 0, 0, 0) 0 [(0, .ref (gad (gSS ad) 20)), (1, .int (iv 5))] [] _ _
  refine gg_aload_n dX5_one_0 0 rfl ?_
  refine gg_getI rfl gf_RX5_41 dX5_one_1 sh_20 pl_20 (by decide) (by decide) ?_
  refine gg_toI (b := 40) (hR.1.trans hC) ?_
  refine gg_lsw (off := 84) (tgt := 88) dX5_one_4 (by decide) (by decide) (by decide) (by decide) ?_
  refine gg_iload_n dX5_one_88 1 rfl ?_
  refine gg_iconst dX5_one_89 ?_
  refine gg_icmp_ge_t (tgt := 105) dX5_one_90 (by decide) (by decide) (by decide) ?_
  refine gg_aload_n dX5_one_105 0 rfl ?_
  refine gg_callVi (own := RX5) (yt := gm_X5_fail) rfl gl_RX5_44 gk_X5_fail gr_X5_fail dX5_one_106 (c_X5_fail (d := d - 1) (p := gtP T n q) hR.2.1) sh_20 pl_20 (by decide) rfl rfl rfl (Nat.le_of_ble_eq_true rfl) (by show _ ≤ d; omega) ⟨Nat.le_refl _, Nat.le_refl _⟩ (fun e1 μ' hc => ?_)
  obtain ⟨rfl, rfl⟩ := hc
  refine gg_ireti dX5_one_109 rfl ⟨rfl, rfl⟩ ?_
  exact ⟨_, J, rfl, gKeep_7, rfl, gu_s⟩

set_option maxRecDepth 10000 in
theorem c_X5_one_45x {l : Launch} {Γ : gC} {ad : Nat → Nat} {T : Nat → Int} {n : Nat} {d : Nat} {I : Nat → Nat → Int} {J : Nat → Nat → Int64} {D : List gLn} {q : Nat} (hT : gTp I T n) (hR : gRd I T n q) (hD : gDf I J D) (hq : q ≤ n) (hl : D.length ≤ 2 * q) (hC : gtC T n q = 45) (hd : 5 ≤ d) : gKi l Γ gm_X5_one d [.ref (gad (gSS ad) 20), .int (iv 5)] (gSS ad, I, J) (fun e μ => ∃ I1 J1, μ = (gSS ad, I1, J1) ∧ gKeep I J I1 J1 ∧ gRs I1 J1 D q T n (.inl (gtP T n q)) e) := by
  refine gKi_of gk_X5_one.1 (Nat.le_of_ble_eq_true rfl) ?_
  have hn := hT.1
  have hE := gtE_le T hq
  show gG l Γ gm_X5_one (d, 0, 0, 0, 0) 0 [(0, .ref (gad (gSS ad) 20)), (1, .int (iv 5))] [] _ _
  refine gg_aload_n dX5_one_0 0 rfl ?_
  refine gg_getI rfl gf_RX5_41 dX5_one_1 sh_20 pl_20 (by decide) (by decide) ?_
  refine gg_toI (b := 45) (hR.1.trans hC) ?_
  refine gg_lsw (off := 64) (tgt := 68) dX5_one_4 (by decide) (by decide) (by decide) (by decide) ?_
  refine gg_iload_n dX5_one_68 1 rfl ?_
  refine gg_iconst dX5_one_69 ?_
  refine gg_icmp_ge_t (tgt := 83) dX5_one_70 (by decide) (by decide) (by decide) ?_
  refine gg_aload_n dX5_one_83 0 rfl ?_
  refine gg_callVi (own := RX5) (yt := gm_X5_fail) rfl gl_RX5_44 gk_X5_fail gr_X5_fail dX5_one_84 (c_X5_fail (d := d - 1) (p := gtP T n q) hR.2.1) sh_20 pl_20 (by decide) rfl rfl rfl (Nat.le_of_ble_eq_true rfl) (by show _ ≤ d; omega) ⟨Nat.le_refl _, Nat.le_refl _⟩ (fun e1 μ' hc => ?_)
  obtain ⟨rfl, rfl⟩ := hc
  refine gg_ireti dX5_one_87 rfl ⟨rfl, rfl⟩ ?_
  exact ⟨_, J, rfl, gKeep_7, rfl, gu_s⟩

set_option maxRecDepth 10000 in
theorem c_X5_one_91x {l : Launch} {Γ : gC} {ad : Nat → Nat} {T : Nat → Int} {n : Nat} {d : Nat} {I : Nat → Nat → Int} {J : Nat → Nat → Int64} {D : List gLn} {q : Nat} (hT : gTp I T n) (hR : gRd I T n q) (hD : gDf I J D) (hq : q ≤ n) (hl : D.length ≤ 2 * q) (hC : gtC T n q = 91) (hd : 5 ≤ d) : gKi l Γ gm_X5_one d [.ref (gad (gSS ad) 20), .int (iv 5)] (gSS ad, I, J) (fun e μ => ∃ I1 J1, μ = (gSS ad, I1, J1) ∧ gKeep I J I1 J1 ∧ gRs I1 J1 D q T n (.inl (gtP T n q)) e) := by
  refine gKi_of gk_X5_one.1 (Nat.le_of_ble_eq_true rfl) ?_
  have hn := hT.1
  have hE := gtE_le T hq
  show gG l Γ gm_X5_one (d, 0, 0, 0, 0) 0 [(0, .ref (gad (gSS ad) 20)), (1, .int (iv 5))] [] _ _
  refine gg_aload_n dX5_one_0 0 rfl ?_
  refine gg_getI rfl gf_RX5_41 dX5_one_1 sh_20 pl_20 (by decide) (by decide) ?_
  refine gg_toI (b := 91) (hR.1.trans hC) ?_
  refine gg_lsw (off := 106) (tgt := 110) dX5_one_4 (by decide) (by decide) (by decide) (by decide) ?_
  refine gg_iload_n dX5_one_110 1 rfl ?_
  refine gg_iconst dX5_one_111 ?_
  refine gg_icmp_ge_t (tgt := 125) dX5_one_112 (by decide) (by decide) (by decide) ?_
  refine gg_aload_n dX5_one_125 0 rfl ?_
  refine gg_callVi (own := RX5) (yt := gm_X5_fail) rfl gl_RX5_44 gk_X5_fail gr_X5_fail dX5_one_126 (c_X5_fail (d := d - 1) (p := gtP T n q) hR.2.1) sh_20 pl_20 (by decide) rfl rfl rfl (Nat.le_of_ble_eq_true rfl) (by show _ ≤ d; omega) ⟨Nat.le_refl _, Nat.le_refl _⟩ (fun e1 μ' hc => ?_)
  obtain ⟨rfl, rfl⟩ := hc
  refine gg_ireti dX5_one_129 rfl ⟨rfl, rfl⟩ ?_
  exact ⟨_, J, rfl, gKeep_7, rfl, gu_s⟩

set_option maxRecDepth 10000 in
theorem c_X5_one_45 {l : Launch} {Γ : gC} {ad : Nat → Nat} {T : Nat → Int} {n : Nat} {d : Nat} {I : Nat → Nat → Int} {J : Nat → Nat → Int64} {D : List gLn} {q : Nat} (hT : gTp I T n) (hR : gRd I T n q) (hD : gDf I J D) (hq : q ≤ n) (hl : D.length ≤ 2 * q) {op : Nat} {on : Nat → gRT} (hop : op < 5) (hC : gtC T n q = 45) (hd : 9 ≤ d) (H : gCx l Γ ad gm_X5_one (d - 1 - 1) [.ref (gad (gSS ad) 20), .int (iv ((op + 1 : Nat) : Int))] T n on) : gKi l Γ gm_X5_one d [.ref (gad (gSS ad) 20), .int (iv (op : Int))] (gSS ad, I, J) (fun e μ => ∃ I1 J1, μ = (gSS ad, I1, J1) ∧ gKeep I J I1 J1 ∧ gRs I1 J1 D q T n (gNe T n on q) e) := by
  refine gKi_of gk_X5_one.1 (Nat.le_of_ble_eq_true rfl) ?_
  have hn := hT.1
  have hE := gtE_le T hq
  show gG l Γ gm_X5_one (d, 0, 0, 0, 0) 0 [(0, .ref (gad (gSS ad) 20)), (1, .int (iv (op : Int)))] [] _ _
  refine gg_aload_n dX5_one_0 0 rfl ?_
  refine gg_getI rfl gf_RX5_41 dX5_one_1 sh_20 pl_20 (by decide) (by decide) ?_
  refine gg_toI (b := 45) (hR.1.trans hC) ?_
  refine gg_lsw (off := 64) (tgt := 68) dX5_one_4 (by decide) (by decide) (by decide) (by decide) ?_
  refine gg_iload_n dX5_one_68 1 rfl ?_
  refine gg_iconst dX5_one_69 ?_
  refine gg_icmp_ge_f (tgt := 83) dX5_one_70 (by decide) (by omega) (by omega) ?_
  refine gg_aload_n dX5_one_73 0 rfl ?_
  refine gg_iload_n dX5_one_74 1 rfl ?_
  refine gg_iconst dX5_one_75 ?_
  refine gg_iadd dX5_one_76 ?_
  refine gg_toI (b := ((op + 1 : Nat) : Int)) (by omega) ?_
  refine gg_callVi (own := RX5) (yt := gm_X5_negated) rfl gl_RX5_103 gk_X5_negated gr_X5_negated dX5_one_77 (c_X5_negated (d := d - 1) hT hR hD hq hl (by omega) (by omega) H) sh_20 pl_20 (by decide) rfl rfl rfl (Nat.le_of_ble_eq_true rfl) (by show _ ≤ d; omega) ⟨Nat.le_refl _, Nat.le_refl _⟩ (fun e1 μ' hc => ?_)
  obtain ⟨I1, J1, rfl, hK1, hs1⟩ := hc
  refine gg_goto (tgt := 87) dX5_one_80 (by decide) ?_
  refine gg_ireti dX5_one_87 rfl ⟨rfl, rfl⟩ ?_
  exact ⟨I1, J1, rfl, hK1, hs1⟩

set_option maxRecDepth 10000 in
theorem c_X5_one_40 {l : Launch} {Γ : gC} {ad : Nat → Nat} {T : Nat → Int} {n : Nat} {d : Nat} {I : Nat → Nat → Int} {J : Nat → Nat → Int64} {D : List gLn} {q : Nat} (hT : gTp I T n) (hR : gRd I T n q) (hD : gDf I J D) (hq : q ≤ n) (hl : D.length ≤ 2 * q) {op : Nat} {ch : Nat → gRT} (hop : op < 5) (hC : gtC T n q = 40) (hd : 9 ≤ d) (H : gCx l Γ ad gm_X5_choice (d - 1 - 1) [.ref (gad (gSS ad) 20), .int (iv ((op + 1 : Nat) : Int))] T n ch) : gKi l Γ gm_X5_one d [.ref (gad (gSS ad) 20), .int (iv (op : Int))] (gSS ad, I, J) (fun e μ => ∃ I1 J1, μ = (gSS ad, I1, J1) ∧ gKeep I J I1 J1 ∧ gRs I1 J1 D q T n (gBd (ch (gtE T n q)) (fun t q' => if gtC T n q' = 41 then .inr (t, gtE T n q') else .inl (gtP T n q'))) e) := by
  refine gKi_of gk_X5_one.1 (Nat.le_of_ble_eq_true rfl) ?_
  have hn := hT.1
  have hE := gtE_le T hq
  show gG l Γ gm_X5_one (d, 0, 0, 0, 0) 0 [(0, .ref (gad (gSS ad) 20)), (1, .int (iv (op : Int)))] [] _ _
  refine gg_aload_n dX5_one_0 0 rfl ?_
  refine gg_getI rfl gf_RX5_41 dX5_one_1 sh_20 pl_20 (by decide) (by decide) ?_
  refine gg_toI (b := 40) (hR.1.trans hC) ?_
  refine gg_lsw (off := 84) (tgt := 88) dX5_one_4 (by decide) (by decide) (by decide) (by decide) ?_
  refine gg_iload_n dX5_one_88 1 rfl ?_
  refine gg_iconst dX5_one_89 ?_
  refine gg_icmp_ge_f (tgt := 105) dX5_one_90 (by decide) (by omega) (by omega) ?_
  refine gg_aload_n dX5_one_93 0 rfl ?_
  refine gg_iload_n dX5_one_94 1 rfl ?_
  refine gg_iconst dX5_one_95 ?_
  refine gg_iadd dX5_one_96 ?_
  refine gg_toI (b := ((op + 1 : Nat) : Int)) (by omega) ?_
  refine gg_bipush dX5_one_97 (by decide) ?_
  refine gg_callVi (own := RX5) (yt := gm_X5_enclosed) rfl gl_RX5_106 gk_X5_enclosed gr_X5_enclosed dX5_one_99 (c_X5_enclosed (d := d - 1) (cl := 41) hT hR hD hq hl (by omega) (by omega) (by omega) H) sh_20 pl_20 (by decide) rfl rfl rfl (Nat.le_of_ble_eq_true rfl) (by show _ ≤ d; omega) ⟨Nat.le_refl _, Nat.le_refl _⟩ (fun e1 μ' hc => ?_)
  obtain ⟨I1, J1, rfl, hK1, hs1⟩ := hc
  refine gg_goto (tgt := 109) dX5_one_102 (by decide) ?_
  refine gg_ireti dX5_one_109 rfl ⟨rfl, rfl⟩ ?_
  exact ⟨I1, J1, rfl, hK1, gRs_less hs1⟩

set_option maxRecDepth 10000 in
theorem c_X5_one_91 {l : Launch} {Γ : gC} {ad : Nat → Nat} {T : Nat → Int} {n : Nat} {d : Nat} {I : Nat → Nat → Int} {J : Nat → Nat → Int64} {D : List gLn} {q : Nat} (hT : gTp I T n) (hR : gRd I T n q) (hD : gDf I J D) (hq : q ≤ n) (hl : D.length ≤ 2 * q) {op : Nat} {ch : Nat → gRT} (hop : op < 5) (hC : gtC T n q = 91) (hd : 9 ≤ d) (H : gCx l Γ ad gm_X5_choice (d - 1 - 1 - 1) [.ref (gad (gSS ad) 20), .int (iv ((op + 1 : Nat) : Int))] T n ch) : gKi l Γ gm_X5_one d [.ref (gad (gSS ad) 20), .int (iv (op : Int))] (gSS ad, I, J) (fun e μ => ∃ I1 J1, μ = (gSS ad, I1, J1) ∧ gKeep I J I1 J1 ∧ gRs I1 J1 D q T n (gBd (gBd (ch (gtE T n q)) (fun t q' => if gtC T n q' = 93 then .inr (t, gtE T n q') else .inl (gtP T n q'))) (fun t q' => .inr ((7, 0) :: t, q'))) e) := by
  refine gKi_of gk_X5_one.1 (Nat.le_of_ble_eq_true rfl) ?_
  have hn := hT.1
  have hE := gtE_le T hq
  show gG l Γ gm_X5_one (d, 0, 0, 0, 0) 0 [(0, .ref (gad (gSS ad) 20)), (1, .int (iv (op : Int)))] [] _ _
  refine gg_aload_n dX5_one_0 0 rfl ?_
  refine gg_getI rfl gf_RX5_41 dX5_one_1 sh_20 pl_20 (by decide) (by decide) ?_
  refine gg_toI (b := 91) (hR.1.trans hC) ?_
  refine gg_lsw (off := 106) (tgt := 110) dX5_one_4 (by decide) (by decide) (by decide) (by decide) ?_
  refine gg_iload_n dX5_one_110 1 rfl ?_
  refine gg_iconst dX5_one_111 ?_
  refine gg_icmp_ge_f (tgt := 125) dX5_one_112 (by decide) (by omega) (by omega) ?_
  refine gg_aload_n dX5_one_115 0 rfl ?_
  refine gg_iload_n dX5_one_116 1 rfl ?_
  refine gg_iconst dX5_one_117 ?_
  refine gg_iadd dX5_one_118 ?_
  refine gg_toI (b := ((op + 1 : Nat) : Int)) (by omega) ?_
  refine gg_callVi (own := RX5) (yt := gm_X5_squared) rfl gl_RX5_110 gk_X5_squared gr_X5_squared dX5_one_119 (c_X5_squared (d := d - 1) hT hR hD hq hl (by omega) (by omega) H) sh_20 pl_20 (by decide) rfl rfl rfl (Nat.le_of_ble_eq_true rfl) (by show _ ≤ d; omega) ⟨Nat.le_refl _, Nat.le_refl _⟩ (fun e1 μ' hc => ?_)
  obtain ⟨I1, J1, rfl, hK1, hs1⟩ := hc
  refine gg_goto (tgt := 129) dX5_one_122 (by decide) ?_
  refine gg_ireti dX5_one_129 rfl ⟨rfl, rfl⟩ ?_
  exact ⟨I1, J1, rfl, hK1, hs1⟩

theorem gCx_mono {l : Launch} {Γ : gC} {ad : Nat → Nat} {mt : gY} {d : Nat} {av : List Value} {T : Nat → Int} {n : Nat} {R R' : Nat → gRT} (h : gCx l Γ ad mt d av T n R) (e : ∀ q, R q = R' q) : gCx l Γ ad mt d av T n R' := by
  have : R = R' := funext e
  rw [← this]
  exact h
theorem r_X5_one {l : Launch} {Γ : gC} {ad : Nat → Nat} {T : Nat → Int} {n : Nat} : ∀ (u op d : Nat), op + u = 5 → 8 * u + 12 ≤ d → gCx l Γ ad gm_X5_one d [.ref (gad (gSS ad) 20), .int (iv (op : Int))] T n (gOn T n u) := by
  intro u
  induction u with
  | zero =>
    intro op d hop hd I J D q hT hR hD hq hl
    have h5 : op = 5 := by omega
    subst h5
    show gKi l Γ gm_X5_one d _ _ (fun e μ => ∃ I1 J1, μ = (gSS ad, I1, J1) ∧ gKeep I J I1 J1 ∧ gRs I1 J1 D q T n (gLf T n q) e)
    unfold gLf
    by_cases h3 : gtC T n q = 3
    · rw [if_pos h3]
      exact c_X5_one_3 hT hR hD hq hl h3 (by omega)
    · rw [if_neg h3]
      by_cases h2 : gtC T n q = 2
      · rw [if_pos h2]
        exact c_X5_one_2 hT hR hD hq hl h2 (by omega)
      · rw [if_neg h2]
        by_cases h40 : gtC T n q = 40
        · exact c_X5_one_40x hT hR hD hq hl h40 (by omega)
        · by_cases h45 : gtC T n q = 45
          · exact c_X5_one_45x hT hR hD hq hl h45 (by omega)
          · by_cases h91 : gtC T n q = 91
            · exact c_X5_one_91x hT hR hD hq hl h91 (by omega)
            · exact c_X5_one_o hT hR hD hq hl h2 h3 h40 h45 h91 (by omega)
  | succ u ih =>
    intro op d hop hd I J D q hT hR hD hq hl
    have hch : ∀ d', 8 * u + 17 ≤ d' → gCx l Γ ad gm_X5_choice d' [.ref (gad (gSS ad) 20), .int (iv ((op + 1 : Nat) : Int))] T n (gChF T n (gSm T n (gOn T n u))) := by
      intro d' hd'
      have h1 := c_X5_pow (d := d' - 1 - 1 - 1) (op := ((op + 1 : Nat) : Int)) (by omega) (ih (op + 1) (d' - 1 - 1 - 1 - 1) (by omega) (by omega))
      have h2 := c_X5_term (d := d' - 1 - 1) (op := ((op + 1 : Nat) : Int)) (by omega) h1
      have h3 := c_X5_sum (d := d' - 1) (op := ((op + 1 : Nat) : Int)) (by omega) h2
      exact fun I J D q hT hR hD hq hl => c_X5_choice hT hR hD hq hl (by omega) h3
    show gKi l Γ gm_X5_one d _ _ (fun e μ => ∃ I1 J1, μ = (gSS ad, I1, J1) ∧ gKeep I J I1 J1 ∧ gRs I1 J1 D q T n (if gtC T n q = 45 then gNe T n (gOn T n u) q else if gtC T n q = 40 then gEn T n (gOn T n u) 41 q else if gtC T n q = 91 then gSqr T n (gOn T n u) q else gLf T n q) e)
    by_cases h45 : gtC T n q = 45
    · rw [if_pos h45]
      exact c_X5_one_45 hT hR hD hq hl (by omega) h45 (by omega) (ih (op + 1) (d - 1 - 1) (by omega) (by omega))
    · rw [if_neg h45]
      by_cases h40 : gtC T n q = 40
      · rw [if_pos h40]
        exact c_X5_one_40 hT hR hD hq hl (by omega) h40 (by omega) (hch (d - 1 - 1) (by omega))
      · rw [if_neg h40]
        by_cases h91 : gtC T n q = 91
        · rw [if_pos h91]
          exact c_X5_one_91 hT hR hD hq hl (by omega) h91 (by omega) (hch (d - 1 - 1 - 1) (by omega))
        · rw [if_neg h91]
          unfold gLf
          by_cases h3 : gtC T n q = 3
          · rw [if_pos h3]
            exact c_X5_one_3 hT hR hD hq hl h3 (by omega)
          · rw [if_neg h3]
            by_cases h2 : gtC T n q = 2
            · rw [if_pos h2]
              exact c_X5_one_2 hT hR hD hq hl h2 (by omega)
            · rw [if_neg h2]
              exact c_X5_one_o hT hR hD hq hl h2 h3 h40 h45 h91 (by omega)
