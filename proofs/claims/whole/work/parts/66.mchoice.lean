/-! the reference: a choice -/
set_option maxRecDepth 10000 in
theorem c_X10_need_y {l : Launch} {Γ : gC} {ad : Nat → Nat} {I : Nat → Nat → Int} {J : Nat → Nat → Int64} {d : Nat} {T : Nat → Int} {n : Nat} {q : Nat} (hT : gTq I T n) (hR : gRq I T n q) (hq : q ≤ n) {c : Int} (hc : 40 ≤ c ∧ c ≤ 94) (hC : gtC T n q = c) (hd : 5 ≤ d) : gKv l Γ gm_X10_need d [.ref (gad (gSS ad) 145), .int (iv c)] (gSS ad, I, J) (fun μ => ∃ I1, μ = (gSS ad, I1, J) ∧ gF45 I I1 ∧ gRq I1 T n (gtE T n q)) := by
  refine gKv_of gk_X10_need.1 (Nat.le_of_ble_eq_true rfl) ?_
  show gG l Γ gm_X10_need (d, 0, 0, 0, 0) 0 [(0, .ref (gad (gSS ad) 145)), (1, .int (iv c))] [] _ _
  refine gg_aload_n dX10_need_0 0 rfl ?_
  refine gg_iload_n dX10_need_1 1 rfl ?_
  refine gg_callVi (own := RX10) (yt := gm_X10_isSign) rfl gl_RX10_145 gk_X10_isSign gr_X10_isSign dX10_need_2 (c_X10_isSign (d := d - 1) hR hc) sh_145 pl_145 (by decide) rfl rfl rfl (Nat.le_of_ble_eq_true rfl) (by show _ ≤ d; omega) ⟨Nat.le_refl _, Nat.le_refl _⟩ (fun e1 μ' hc => ?_)
  obtain ⟨rfl, ⟨rfl, hs⟩ | ⟨rfl, hs⟩⟩ := hc
  rotate_left
  · omega
  refine gg_if_eq_f (tgt := 15) dX10_need_5 (by decide) (by decide) (by decide) ?_
  refine gg_aload_n dX10_need_8 0 rfl ?_
  refine gg_callVv (own := RX10) (yt := gm_X10_next) rfl gl_RX10_148 gk_X10_next gr_X10_next dX10_need_9 (c_X10_next (d := d - 1) (q := gtE T n q) hT (hR.2.2.1 (by omega)).2 (hR.2.2.1 (by omega)).1 (by have := gtE_le T hq; omega) (by omega)) sh_145 pl_145 (by decide) rfl rfl rfl (Nat.le_of_ble_eq_true rfl) (by show _ ≤ d; omega) ⟨Nat.le_refl _, Nat.le_refl _⟩ (fun μ' hc => ?_)
  obtain ⟨I1, rfl, hF1, hR1⟩ := hc
  refine gg_goto (tgt := 20) dX10_need_12 (by decide) ?_
  refine gg_vretv dX10_need_20 rfl ⟨rfl, rfl⟩ ?_
  exact ⟨I1, rfl, hF1, hR1⟩

set_option maxRecDepth 10000 in
theorem c_X10_need_n {l : Launch} {Γ : gC} {ad : Nat → Nat} {I : Nat → Nat → Int} {J : Nat → Nat → Int64} {d : Nat} {T : Nat → Int} {n : Nat} {q : Nat} (hR : gRq I T n q) {c : Int} (hc : 40 ≤ c ∧ c ≤ 94) (hC : ¬ gtC T n q = c) (hd : 1 ≤ d) : gKv l Γ gm_X10_need d [.ref (gad (gSS ad) 145), .int (iv c)] (gSS ad, I, J) (fun μ => μ = (gSS ad, gu I 145 16 1, J)) := by
  refine gKv_of gk_X10_need.1 (Nat.le_of_ble_eq_true rfl) ?_
  show gG l Γ gm_X10_need (d, 0, 0, 0, 0) 0 [(0, .ref (gad (gSS ad) 145)), (1, .int (iv c))] [] _ _
  refine gg_aload_n dX10_need_0 0 rfl ?_
  refine gg_iload_n dX10_need_1 1 rfl ?_
  refine gg_callVi (own := RX10) (yt := gm_X10_isSign) rfl gl_RX10_145 gk_X10_isSign gr_X10_isSign dX10_need_2 (c_X10_isSign (d := d - 1) hR hc) sh_145 pl_145 (by decide) rfl rfl rfl (Nat.le_of_ble_eq_true rfl) (by show _ ≤ d; omega) ⟨Nat.le_refl _, Nat.le_refl _⟩ (fun e1 μ' hc => ?_)
  obtain ⟨rfl, ⟨rfl, hs⟩ | ⟨rfl, hs⟩⟩ := hc
  · omega
  refine gg_if_eq_t (tgt := 15) dX10_need_5 (by decide) (by decide) (by decide) ?_
  refine gg_aload_n dX10_need_15 0 rfl ?_
  refine gg_iconst dX10_need_16 ?_
  refine gg_putI rfl gf_RX10_120 dX10_need_17 sh_145 pl_145 (by decide) (by decide) (by decide) gfit_1 ?_
  refine gg_vretv dX10_need_20 rfl ⟨rfl, rfl⟩ ?_
  exact rfl

set_option maxRecDepth 10000 in
theorem c_X10_need_w {l : Launch} {Γ : gC} {ad : Nat → Nat} {I : Nat → Nat → Int} {J : Nat → Nat → Int64} {d : Nat} (h16 : I 145 16 = 1) {c : Int} (hd : 1 ≤ d) : gKv l Γ gm_X10_need d [.ref (gad (gSS ad) 145), .int (iv c)] (gSS ad, I, J) (fun μ => μ = (gSS ad, gu I 145 16 1, J)) := by
  refine gKv_of gk_X10_need.1 (Nat.le_of_ble_eq_true rfl) ?_
  show gG l Γ gm_X10_need (d, 0, 0, 0, 0) 0 [(0, .ref (gad (gSS ad) 145)), (1, .int (iv c))] [] _ _
  refine gg_aload_n dX10_need_0 0 rfl ?_
  refine gg_iload_n dX10_need_1 1 rfl ?_
  refine gg_callVi (own := RX10) (yt := gm_X10_isSign) rfl gl_RX10_145 gk_X10_isSign gr_X10_isSign dX10_need_2 (c_X10_isSign_w (d := d - 1) h16) sh_145 pl_145 (by decide) rfl rfl rfl (Nat.le_of_ble_eq_true rfl) (by show _ ≤ d; omega) ⟨Nat.le_refl _, Nat.le_refl _⟩ (fun e1 μ' hc => ?_)
  obtain ⟨rfl, rfl⟩ := hc
  refine gg_if_eq_t (tgt := 15) dX10_need_5 (by decide) (by decide) (by decide) ?_
  refine gg_aload_n dX10_need_15 0 rfl ?_
  refine gg_iconst dX10_need_16 ?_
  refine gg_putI rfl gf_RX10_120 dX10_need_17 sh_145 pl_145 (by decide) (by decide) (by decide) gfit_1 ?_
  refine gg_vretv dX10_need_20 rfl ⟨rfl, rfl⟩ ?_
  exact rfl

set_option maxRecDepth 10000 in
set_option maxRecDepth 10000 in
theorem n_X10_choice {l : Launch} {Γ : gC} {ad : Nat → Nat} {I : Nat → Nat → Int} {J : Nat → Nat → Int64} {d : Nat} {b : Int} (h16 : I 145 16 = 1) (hd : 1 ≤ d) : gG l Γ gm_X10_choice (d, 0, 0, 0, 0) 9 [(1, .int (iv b)), (0, .ref (gad (gSS ad) 145))] [] (gSS ad, I, J) (gDv (fun μ => μ = (gSS ad, I, J))) := by
  refine gg_aload_n dX10_choice_9 1 rfl ?_
  refine gg_bipush dX10_choice_10 (by decide) ?_
  refine gg_callVi (own := RX10) (yt := gm_X10_isSign) rfl gl_RX10_145 gk_X10_isSign gr_X10_isSign dX10_choice_12 (c_X10_isSign_w (d := d - 1) h16) sh_145 pl_145 (by decide) rfl rfl rfl (Nat.le_of_ble_eq_true rfl) (by show _ ≤ d; omega) ⟨Nat.le_refl _, Nat.le_refl _⟩ (fun e1 μ' hc => ?_)
  obtain ⟨rfl, rfl⟩ := hc
  refine gg_if_ne_f (tgt := 19) dX10_choice_15 (by decide) (by decide) (by decide) ?_
  refine gg_vretv dX10_choice_18 rfl ⟨rfl, rfl⟩ ?_
  exact rfl

set_option maxRecDepth 10000 in
set_option maxRecDepth 10000 in
theorem m_X10_choice {l : Launch} {Γ : gC} {ad : Nat → Nat} {I : Nat → Nat → Int} {J : Nat → Nat → Int64} {d : Nat} {b : Int} (h16 : I 145 16 = 1) (hd : 4 ≤ d) : gG l Γ gm_X10_choice (d, 0, 0, 0, 0) 35 [(1, .int (iv b)), (0, .ref (gad (gSS ad) 145))] [] (gSS ad, I, J) (gDv (fun μ => μ = (gSS ad, gu I 145 16 1, J))) := by
  refine gg_aload_n dX10_choice_35 1 rfl ?_
  refine gg_bipush dX10_choice_36 (by decide) ?_
  refine gg_callVv (own := RX10) (yt := gm_X10_need) rfl gl_RX10_158 gk_X10_need gr_X10_need dX10_choice_38 (c_X10_need_w (d := d - 1) h16 (by omega)) sh_145 pl_145 (by decide) rfl rfl rfl (Nat.le_of_ble_eq_true rfl) (by show _ ≤ d; omega) ⟨Nat.le_refl _, Nat.le_refl _⟩ (fun μ' hc => ?_)
  obtain rfl := hc
  refine gg_aload_n dX10_choice_41 1 rfl ?_
  refine gg_callVv (own := RX10) (yt := gm_X10_sum) rfl gl_RX10_151 gk_X10_sum gr_X10_sum dX10_choice_42 (c_X10_sum_w (d := d - 1) gu_s (by omega)) sh_145 pl_145 (by decide) rfl rfl rfl (Nat.le_of_ble_eq_true rfl) (by show _ ≤ d; omega) ⟨Nat.le_refl _, Nat.le_refl _⟩ (fun μ' hc => ?_)
  obtain rfl := hc
  refine gg_vretv dX10_choice_45 rfl ⟨rfl, rfl⟩ ?_
  exact rfl

set_option maxRecDepth 10000 in
set_option maxRecDepth 10000 in
theorem d_X10_choice_n {l : Launch} {Γ : gC} {ad : Nat → Nat} {I : Nat → Nat → Int} {J : Nat → Nat → Int64} {d : Nat} {b : Int} {T : Nat → Int} {n : Nat} {op : Int} {sm : Nat → gRT} {B : gLn} {q : Nat} (hbd : gBnd n sm) (H : gCm l Γ ad gm_X10_sum (d - 1) op T n sm) (hd : 7 ≤ d) (hT : gTq I T n) (hR : gRq I T n q) (hM : gMd I J B) (h15 : I 145 15 = op) (hq : q ≤ n) (hl : 2 * B.length ≤ 3 * q) (hC : ¬ gtC T n q = 58) : gG l Γ gm_X10_choice (d, 0, 0, 0, 0) 35 [(1, .int (iv b)), (0, .ref (gad (gSS ad) 145))] [] (gSS ad, I, J) (gDv (fun μ => ∃ I1, μ = (gSS ad, I1, J) ∧ gKm I J I1 J ∧ I1 145 16 = 1 ∧ I1 145 12 = (gtP T n q : Int))) := by
  refine gg_aload_n dX10_choice_35 1 rfl ?_
  refine gg_bipush dX10_choice_36 (by decide) ?_
  refine gg_callVv (own := RX10) (yt := gm_X10_need) rfl gl_RX10_158 gk_X10_need gr_X10_need dX10_choice_38 (c_X10_need_n (d := d - 1) hR (by omega) hC (by omega)) sh_145 pl_145 (by decide) rfl rfl rfl (Nat.le_of_ble_eq_true rfl) (by show _ ≤ d; omega) ⟨Nat.le_refl _, Nat.le_refl _⟩ (fun μ' hc => ?_)
  obtain rfl := hc
  refine gg_aload_n dX10_choice_41 1 rfl ?_
  refine gg_callVv (own := RX10) (yt := gm_X10_sum) rfl gl_RX10_151 gk_X10_sum gr_X10_sum dX10_choice_42 (c_X10_sum_w (d := d - 1) gu_s (by omega)) sh_145 pl_145 (by decide) rfl rfl rfl (Nat.le_of_ble_eq_true rfl) (by show _ ≤ d; omega) ⟨Nat.le_refl _, Nat.le_refl _⟩ (fun μ' hc => ?_)
  obtain rfl := hc
  refine gg_vretv dX10_choice_45 rfl ⟨rfl, rfl⟩ ?_
  exact ⟨_, rfl, gKm_45 (gF45_u (by omega)), gu_s, (gu_n (by omega)).trans hR.1⟩

set_option maxRecDepth 10000 in
set_option maxRecDepth 10000 in
theorem d_X10_choice_y {l : Launch} {Γ : gC} {ad : Nat → Nat} {I : Nat → Nat → Int} {J : Nat → Nat → Int64} {d : Nat} {b : Int} {T : Nat → Int} {n : Nat} {op : Int} {sm : Nat → gRT} {B : gLn} {q : Nat} (hbd : gBnd n sm) (H : gCm l Γ ad gm_X10_sum (d - 1) op T n sm) (hd : 7 ≤ d) (hT : gTq I T n) (hR : gRq I T n q) (hM : gMd I J B) (h15 : I 145 15 = op) (hq : q ≤ n) (hl : 2 * B.length ≤ 3 * q) (hC : gtC T n q = 58) : gG l Γ gm_X10_choice (d, 0, 0, 0, 0) 35 [(1, .int (iv b)), (0, .ref (gad (gSS ad) 145))] [] (gSS ad, I, J) (gDv (fun μ => ∃ I1 J1, μ = (gSS ad, I1, J1) ∧ gKm I J I1 J1 ∧ gQs I1 J1 B op T n (sm (gtE T n q)))) := by
  refine gg_aload_n dX10_choice_35 1 rfl ?_
  refine gg_bipush dX10_choice_36 (by decide) ?_
  refine gg_callVv (own := RX10) (yt := gm_X10_need) rfl gl_RX10_158 gk_X10_need gr_X10_need dX10_choice_38 (c_X10_need_y (d := d - 1) hT hR hq (by omega) hC (by omega)) sh_145 pl_145 (by decide) rfl rfl rfl (Nat.le_of_ble_eq_true rfl) (by show _ ≤ d; omega) ⟨Nat.le_refl _, Nat.le_refl _⟩ (fun μ' hc => ?_)
  obtain ⟨I1, rfl, hF1, hR1⟩ := hc
  have hE := gtE_le T hq
  refine gg_aload_n dX10_choice_41 1 rfl ?_
  refine gg_callVv (own := RX10) (yt := gm_X10_sum) rfl gl_RX10_151 gk_X10_sum gr_X10_sum dX10_choice_42 (H I1 J B _ (gTq_f hT hF1) hR1 (gMd_f hM hF1) ((hF1.2 15 (by omega) (by omega) (by omega) (by omega) (by omega)).trans h15) (by omega) (by omega)) sh_145 pl_145 (by decide) rfl rfl rfl (Nat.le_of_ble_eq_true rfl) (by show _ ≤ d; omega) ⟨Nat.le_refl _, Nat.le_refl _⟩ (fun μ' hc => ?_)
  obtain ⟨I9, J9, rfl, hK9, hs9⟩ := hc
  refine gg_vretv dX10_choice_45 rfl ⟨rfl, rfl⟩ ?_
  exact ⟨I9, J9, rfl, gKm_t (gKm_45 hF1) hK9, hs9⟩

set_option maxRecDepth 10000 in
set_option maxRecDepth 10000 in
theorem b_X10_choice {l : Launch} {Γ : gC} {ad : Nat → Nat} {I : Nat → Nat → Int} {J : Nat → Nat → Int64} {d : Nat} {T : Nat → Int} {n : Nat} {op : Int} {sm : Nat → gRT} {B t : gLn} {q : Nat} (hbd : gBnd n sm) (H : gCm l Γ ad gm_X10_sum (d - 1) op T n sm) (hd : 7 ≤ d) (hT : gTq I T n) (hR : gRq I T n q) (hM : gMd I J (B ++ t)) (h15 : I 145 15 = op) (hq : q ≤ n) (hl : 2 * (B.length + t.length) + 1 ≤ 3 * q) : gG l Γ gm_X10_choice (d, 0, 0, 0, 0) 9 [(1, .int (iv (B.length : Int))), (0, .ref (gad (gSS ad) 145))] [] (gSS ad, I, J) (gDv (fun μ => ∃ I1 J1, μ = (gSS ad, I1, J1) ∧ gKm I J I1 J1 ∧ gQs I1 J1 B op T n ((if gtC T n q = 63 then gBd (sm (gtE T n q)) (fun a q2 => if gtC T n q2 = 58 then gBd (sm (gtE T n q2)) (fun b q3 => .inr ((6, 0) :: (t ++ (a ++ b)), q3)) else .inl (gtP T n q2)) else .inr (t, q))))) := by
  have hn := hT.1
  have hE := gtE_le T hq
  refine gg_aload_n dX10_choice_9 1 rfl ?_
  refine gg_bipush dX10_choice_10 (by decide) ?_
  refine gg_callVi (own := RX10) (yt := gm_X10_isSign) rfl gl_RX10_145 gk_X10_isSign gr_X10_isSign dX10_choice_12 (c_X10_isSign (d := d - 1) (c := 63) hR (by omega)) sh_145 pl_145 (by decide) rfl rfl rfl (Nat.le_of_ble_eq_true rfl) (by show _ ≤ d; omega) ⟨Nat.le_refl _, Nat.le_refl _⟩ (fun e1 μ' hc => ?_)
  obtain ⟨rfl, ⟨rfl, hc⟩ | ⟨rfl, hc⟩⟩ := hc
  · have h0 := hE.2.2.2 (by omega)
    have hml := hM.2.1
    have hlz : (B ++ t).length < 200 := by simp only [List.length_append]; omega
    refine gg_if_ne_t (tgt := 19) dX10_choice_15 (by decide) (by decide) (by decide) ?_
    refine gg_aload_n dX10_choice_19 1 rfl ?_
    refine gg_iload_n dX10_choice_20 0 rfl ?_
    refine gg_bipush dX10_choice_21 (by decide) ?_
    refine gg_lconstv (x := 0) dX10_choice_23 rfl ?_
    refine gg_callVv (own := RX10) (yt := gm_X10_putAhead) rfl gl_RX10_154 gk_X10_putAhead gr_X10_putAhead dX10_choice_24 (c_X10_putAhead (d := d - 1) (P := B) (R := t) (kd := 6) (x := 0) hM hlz (by omega)) sh_145 pl_145 (by decide) rfl rfl rfl (Nat.le_of_ble_eq_true rfl) (by show _ ≤ d; omega) ⟨Nat.le_refl _, Nat.le_refl _⟩ (fun μ' hc => ?_)
    obtain ⟨I3, J3, rfl, hM3, f3a, f3b, f3c⟩ := hc
    have hkk3 := gKm_p f3a f3b f3c
    have hT3 := gTq_k hT hkk3
    have hR3 := gRq_p hR f3b
    have h153 := (f3b 15 (by omega) (by omega)).trans h15
    have hK3 := gKm_t (gKm_r I J) hkk3
    refine gg_aload_n dX10_choice_27 1 rfl ?_
    refine gg_callVv (own := RX10) (yt := gm_X10_next) rfl gl_RX10_148 gk_X10_next gr_X10_next dX10_choice_28 (c_X10_next (d := d - 1) (q := gtE T n q) hT3 (hR3.2.2.1 (by omega)).2 (hR3.2.2.1 (by omega)).1 (by omega) (by omega)) sh_145 pl_145 (by decide) rfl rfl rfl (Nat.le_of_ble_eq_true rfl) (by show _ ≤ d; omega) ⟨Nat.le_refl _, Nat.le_refl _⟩ (fun μ' hc => ?_)
    obtain ⟨I4, rfl, hF4, hR4⟩ := hc
    obtain ⟨q4, hq4⟩ : ∃ z, z = gtE T n q := ⟨_, rfl⟩
    rw [← hq4] at hR4
    have hT4 := gTq_f hT3 hF4
    have hM4 := gMd_f hM3 hF4
    have h154 := (hF4.2 15 (by omega) (by omega) (by omega) (by omega) (by omega)).trans h153
    have hE4 := gtE_le T (show q4 ≤ n by omega)
    have hK4 := gKm_t hK3 (gKm_45 (J := J3) hF4)
    refine gg_aload_n dX10_choice_31 1 rfl ?_
    refine gg_callVv (own := RX10) (yt := gm_X10_sum) rfl gl_RX10_151 gk_X10_sum gr_X10_sum dX10_choice_32 (H I4 J3 (B ++ (6, 0) :: t) q4 hT4 hR4 hM4 h154 (by omega) (by simp only [List.length_cons, List.length_append]; omega)) sh_145 pl_145 (by decide) rfl rfl rfl (Nat.le_of_ble_eq_true rfl) (by show _ ≤ d; omega) ⟨Nat.le_refl _, Nat.le_refl _⟩ (fun μ' hc => ?_)
    obtain ⟨I9, J9, rfl, hK9, hs9⟩ := hc
    cases hr9 : sm q4 with
    | inl p =>
      rw [hr9] at hs9
      obtain ⟨w1, w2⟩ : I9 145 16 = 1 ∧ I9 145 12 = (p : Int) := hs9
      refine gG_post (m_X10_choice w1 (by omega)) (fun r μ h => ?_)
      obtain ⟨rfl, rfl⟩ := h
      refine ⟨rfl, _, J9, rfl, gKm_t hK4 (gKm_t hK9 (gKm_45 (gF45_u (by omega)))), ?_⟩
      rw [if_pos hc, ← hq4, hr9, gBd_inl]
      exact ⟨gu_s, (gu_n (by omega)).trans w2⟩
    | inr x =>
      obtain ⟨t9, p9⟩ := x
      rw [hr9] at hs9
      obtain ⟨hM9, hR9, h159⟩ : gMd I9 J9 (B ++ (6, 0) :: t ++ t9) ∧ gRq I9 T n p9 ∧ I9 145 15 = op := hs9
      have hb9 := hbd q4 t9 p9 (by omega) hr9
      have hl9 : 2 * (B ++ (6, 0) :: t ++ t9).length ≤ 3 * p9 := by simp only [List.length_append, List.length_cons]; omega
      by_cases hC : gtC T n p9 = 58
      · refine gG_post (d_X10_choice_y (b := (B.length : Int)) hbd H hd (gTq_k hT4 hK9) hR9 hM9 h159 hb9.2.1 hl9 hC) (fun r μ h => ?_)
        obtain ⟨rfl, I8, J8, rfl, hK8, hs8⟩ := h
        refine ⟨rfl, I8, J8, rfl, gKm_t hK4 (gKm_t hK9 hK8), ?_⟩
        rw [if_pos hc, ← hq4, hr9, gBd_inr, if_pos hC]
        cases hr8 : sm (gtE T n p9) with
        | inl p =>
          rw [hr8] at hs8
          rw [gBd_inl]
          exact hs8
        | inr y =>
          obtain ⟨t8, p8⟩ := y
          rw [hr8] at hs8
          rw [gBd_inr]
          obtain ⟨hM8, hR8, h158⟩ : gMd I8 J8 (B ++ (6, 0) :: t ++ t9 ++ t8) ∧ gRq I8 T n p8 ∧ I8 145 15 = op := hs8
          exact ⟨by simpa using hM8, hR8, h158⟩
      · refine gG_post (d_X10_choice_n (b := (B.length : Int)) hbd H hd (gTq_k hT4 hK9) hR9 hM9 h159 hb9.2.1 hl9 hC) (fun r μ h => ?_)
        obtain ⟨rfl, I8, rfl, hK8, w1, w2⟩ := h
        refine ⟨rfl, I8, J9, rfl, gKm_t hK4 (gKm_t hK9 hK8), ?_⟩
        rw [if_pos hc, ← hq4, hr9, gBd_inr, if_neg hC]
        exact ⟨w1, w2⟩
  · refine gg_if_ne_f (tgt := 19) dX10_choice_15 (by decide) (by decide) (by decide) ?_
    refine gg_vretv dX10_choice_18 rfl ⟨rfl, rfl⟩ ?_
    refine ⟨I, J, rfl, gKm_r I J, ?_⟩
    rw [if_neg hc]
    exact ⟨hM, hR, h15⟩

set_option maxRecDepth 10000 in
theorem c_X10_choice {l : Launch} {Γ : gC} {ad : Nat → Nat} {T : Nat → Int} {n d : Nat} {op : Int} {sm : Nat → gRT} (hd : 7 ≤ d) (hbd : gBnd n sm) (H : gCm l Γ ad gm_X10_sum (d - 1) op T n sm) : gCm l Γ ad gm_X10_choice d op T n (gChF T n sm) := by
  intro I J B q hT hR hM h15 hq hl
  refine gKv_of gk_X10_choice.1 (Nat.le_of_ble_eq_true rfl) ?_
  have hn := hT.1
  show gG l Γ gm_X10_choice (d, 0, 0, 0, 0) 0 [(0, .ref (gad (gSS ad) 145))] [] _ _
  refine gg_aload_n dX10_choice_0 0 rfl ?_
  refine gg_getI rfl gf_RX10_90 dX10_choice_1 sh_145 pl_145 (by decide) (by decide) ?_
  refine gg_toI (b := (B.length : Int)) hM.1 ?_
  refine gg_istore_n (ls' := [(1, .int (iv (B.length : Int))), (0, .ref (gad (gSS ad) 145))]) dX10_choice_4 rfl (by decide) rfl ?_
  refine gg_aload_n dX10_choice_5 1 rfl ?_
  refine gg_callVv (own := RX10) (yt := gm_X10_sum) rfl gl_RX10_151 gk_X10_sum gr_X10_sum dX10_choice_6 (H I J B q hT hR hM h15 hq hl) sh_145 pl_145 (by decide) rfl rfl rfl (Nat.le_of_ble_eq_true rfl) (by show _ ≤ d; omega) ⟨Nat.le_refl _, Nat.le_refl _⟩ (fun μ' hc => ?_)
  obtain ⟨I1, J1, rfl, hK1, hs1⟩ := hc
  unfold gChF
  cases hr : sm q with
  | inl p =>
    rw [hr] at hs1
    rw [gBd_inl]
    obtain ⟨w1, w2⟩ : I1 145 16 = 1 ∧ I1 145 12 = (p : Int) := hs1
    refine gG_post (n_X10_choice w1 (by omega)) (fun r μ h => ?_)
    obtain ⟨rfl, rfl⟩ := h
    exact ⟨rfl, I1, J1, rfl, hK1, w1, w2⟩
  | inr x =>
    obtain ⟨t1, p1⟩ := x
    rw [hr] at hs1
    rw [gBd_inr]
    obtain ⟨hM1, hR1, h151⟩ : gMd I1 J1 (B ++ t1) ∧ gRq I1 T n p1 ∧ I1 145 15 = op := hs1
    have hb1 := hbd q t1 p1 hq hr
    refine gG_post (b_X10_choice hbd H hd (gTq_k hT hK1) hR1 hM1 h151 (by omega) (by omega)) (fun r μ h => ?_)
    obtain ⟨rfl, I2, J2, rfl, hK2, hs2⟩ := h
    exact ⟨rfl, I2, J2, rfl, gKm_t hK1 hK2, hs2⟩

