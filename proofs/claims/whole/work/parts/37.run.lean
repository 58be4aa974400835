/-! the class: code is run -/
set_option maxRecDepth 10000 in
theorem c_X3_push {l : Launch} {Γ : gC} {ad : Nat → Nat} {I : Nat → Nat → Int} {J : Nat → Nat → Int64} {d : Nat}  {t hi : Nat} (hh : I 32 6 = (t : Int)) (ht : t < 400) (h7 : I 32 7 = (hi : Int)) (hhi : hi ≤ 1000) {x : Int64} : gKv l Γ gm_X3_push d [.ref (gad (gSS ad) 32), .long x] (gSS ad, I, J) (fun μ => μ = (gSS ad, gu (gu I 32 6 ((t + 1 : Nat) : Int)) 32 7 ((max hi (t + 1) : Nat) : Int), gv J 37 t x)) := by
  refine gKv_of gk_X3_push.1 (Nat.le_of_ble_eq_true rfl) ?_
  show gG l Γ gm_X3_push (d, 0, 0, 0, 0) 0 [(0, .ref (gad (gSS ad) 32)), (1, .long x)] [] _ _
  refine gg_aload_n dX3_push_0 0 rfl ?_
  refine gg_getI rfl gf_RX3_84 dX3_push_1 sh_32 pl_32 (by decide) (by decide) ?_
  refine gg_toI (b := (t : Int)) hh ?_
  refine gg_sipush dX3_push_4 (by decide) ?_
  refine gg_icmp_ge_f (tgt := 45) dX3_push_7 (by decide) (by omega) (by omega) ?_
  refine gg_aload_n dX3_push_10 0 rfl ?_
  refine gg_getR (k' := 37) rfl gf_RX3_25 dX3_push_11 sh_32 pl_32 (by decide) (by decide) rr_32_5 ?_
  refine gg_aload_n dX3_push_14 0 rfl ?_
  refine gg_getI rfl gf_RX3_84 dX3_push_15 sh_32 pl_32 (by decide) (by decide) ?_
  refine gg_toI (b := (t : Int)) hh ?_
  refine gg_lload_n dX3_push_18 1 rfl ?_
  refine gg_lastj t dX3_push_19 sh_37 pl_37 (by decide) rfl (by omega) ?_
  refine gg_aload_n dX3_push_20 0 rfl ?_
  refine gg_dup dX3_push_21 rfl ?_
  refine gg_getI rfl gf_RX3_84 dX3_push_22 sh_32 pl_32 (by decide) (by decide) ?_
  refine gg_toI (b := (t : Int)) hh ?_
  refine gg_iconst dX3_push_25 ?_
  refine gg_iadd dX3_push_26 ?_
  refine gg_toI (b := ((t + 1 : Nat) : Int)) (by omega) ?_
  refine gg_putI rfl gf_RX3_84 dX3_push_27 sh_32 pl_32 (by decide) (by decide) (by decide) (gfit_i _) ?_
  refine gg_aload_n dX3_push_30 0 rfl ?_
  refine gg_aload_n dX3_push_31 0 rfl ?_
  refine gg_getI rfl gf_RX3_35 dX3_push_32 sh_32 pl_32 (by decide) (by decide) ?_
  refine gg_toI (b := (hi : Int)) ((gu_n (by omega)).trans h7) ?_
  refine gg_aload_n dX3_push_35 0 rfl ?_
  refine gg_getI rfl gf_RX3_84 dX3_push_36 sh_32 pl_32 (by decide) (by decide) ?_
  refine gg_toI (b := ((t + 1 : Nat) : Int)) gu_s ?_
  refine gg_mmax rfl gl_RX3_95 dX3_push_39 (by omega) (Nat.le_of_ble_eq_true rfl) (by omega) ⟨Nat.le_refl _, Nat.le_refl _⟩ ?_
  refine gg_toI (b := ((max hi (t + 1) : Nat) : Int)) (by omega) ?_
  refine gg_putI rfl gf_RX3_35 dX3_push_42 sh_32 pl_32 (by decide) (by decide) (by decide) (gfit_i _) ?_
  refine gg_vretv dX3_push_45 rfl ⟨rfl, rfl⟩ ?_
  exact rfl

set_option maxRecDepth 10000 in
theorem c_X3_pop {l : Launch} {Γ : gC} {ad : Nat → Nat} {I : Nat → Nat → Int} {J : Nat → Nat → Int64} {d : Nat}  {t : Nat} (hh : I 32 6 = ((t + 1 : Nat) : Int)) (ht : t < 400) : gKl l Γ gm_X3_pop d [.ref (gad (gSS ad) 32)] (gSS ad, I, J) (fun e μ => μ = (gSS ad, gu I 32 6 (t : Int), J) ∧ e = J 37 t) := by
  refine gKl_of gk_X3_pop.1 (Nat.le_of_ble_eq_true rfl) ?_
  show gG l Γ gm_X3_pop (d, 0, 0, 0, 0) 0 [(0, .ref (gad (gSS ad) 32))] [] _ _
  refine gg_aload_n dX3_pop_0 0 rfl ?_
  refine gg_getI rfl gf_RX3_84 dX3_pop_1 sh_32 pl_32 (by decide) (by decide) ?_
  refine gg_toI (b := ((t + 1 : Nat) : Int)) hh ?_
  refine gg_if_gt_t (tgt := 9) dX3_pop_4 (by decide) (by omega) (by omega) ?_
  refine gg_aload_n dX3_pop_9 0 rfl ?_
  refine gg_dup dX3_pop_10 rfl ?_
  refine gg_getI rfl gf_RX3_84 dX3_pop_11 sh_32 pl_32 (by decide) (by decide) ?_
  refine gg_toI (b := ((t + 1 : Nat) : Int)) hh ?_
  refine gg_iconst dX3_pop_14 ?_
  refine gg_isub dX3_pop_15 ?_
  refine gg_toI (b := (t : Int)) (by omega) ?_
  refine gg_putI rfl gf_RX3_84 dX3_pop_16 sh_32 pl_32 (by decide) (by decide) (by decide) (gfit_i _) ?_
  refine gg_aload_n dX3_pop_19 0 rfl ?_
  refine gg_getR (k' := 37) rfl gf_RX3_25 dX3_pop_20 sh_32 pl_32 (by decide) (by decide) rr_32_5 ?_
  refine gg_aload_n dX3_pop_23 0 rfl ?_
  refine gg_getI rfl gf_RX3_84 dX3_pop_24 sh_32 pl_32 (by decide) (by decide) ?_
  refine gg_toI (b := (t : Int)) gu_s ?_
  refine gg_laldj t dX3_pop_27 sh_37 pl_37 (by decide) rfl (by omega) ?_
  refine gg_lretl dX3_pop_28 rfl ⟨rfl, rfl⟩ ?_
  exact ⟨rfl, rfl⟩

/-- the machine's stack is as the state's -/
def gyIn (I : Nat → Nat → Int) (J : Nat → Nat → Int64) (x : gyX) : Prop := I 32 6 = (x.2.1 : Int) ∧ I 32 7 = (x.2.2.2 : Int) ∧ ∀ q, q < x.2.1 → J 37 q = x.2.2.1 q
/-- what stays when the machine runs -/
def gyKp (I : Nat → Nat → Int) (J : Nat → Nat → Int64) (I' : Nat → Nat → Int) (J' : Nat → Nat → Int64) : Prop := (∀ p, p ≠ 32 → I' p = I p) ∧ (∀ q, q ≠ 6 → q ≠ 7 → I' 32 q = I 32 q) ∧ (∀ p, p ≠ 37 → J' p = J p)
set_option maxRecDepth 10000 in
theorem c_X3_calculate_2 {l : Launch} {Γ : gC} {ad : Nat → Nat} {I : Nat → Nat → Int} {J : Nat → Nat → Int64} {d : Nat} {len : Nat} {T : Nat → Int × Int64} {v : Nat → Int} {k h hi : Nat} {S : Nat → Int64} (hk : gyok T len (k, h, S, hi)) (hin : gyIn I J (k, h, S, hi)) (hT : (T k).1 = 20) (hd : 2 ≤ d) : gKv l Γ gm_X3_calculate d [.ref (gad (gSS ad) 32), .int (iv 2)] (gSS ad, I, J) (fun μ => ∃ I' J', μ = (gSS ad, I', J') ∧ gyIn I' J' (gyst T v (k, h, S, hi)) ∧ gyKp I J I' J') := by
  refine gKv_of gk_X3_calculate.1 (Nat.le_of_ble_eq_true rfl) ?_
  show gG l Γ gm_X3_calculate (d, 0, 0, 0, 0) 0 [(0, .ref (gad (gSS ad) 32)), (1, .int (iv 2))] [] _ _
  obtain ⟨hh, h7, hS⟩ := hin
  obtain ⟨k1, k2, k3, k4, k5, k6, k7, k8, k9, k10, k11⟩ := hk
  dsimp only at hh h7 hS k1 k2 k3 k4 k5 k6 k7 k8 k9 k10 k11
  have hO : gyO T k = 2 := by unfold gyO; omega
  obtain ⟨u, rfl⟩ : ∃ u, h = u + 1 := ⟨h - 1, by have := k7 (by omega); omega⟩
  refine gg_aload_n dX3_calculate_0 0 rfl ?_
  refine gg_callVl (own := RX3) (yt := gm_X3_pop) rfl gl_RX3_91 gk_X3_pop gr_X3_pop dX3_calculate_1 (c_X3_pop (d := d - 1) (t := u) (hh) (by omega)) sh_32 pl_32 (by decide) rfl rfl rfl (Nat.le_of_ble_eq_true rfl) (by show _ ≤ d; omega) ⟨Nat.le_refl _, Nat.le_refl _⟩ (fun e1 μ' hc => ?_)
  obtain ⟨rfl, rfl⟩ := hc
  refine gg_lstore_n (ls' := [(2, .long (J 37 u)), (0, .ref (gad (gSS ad) 32)), (1, .int (iv 2))]) dX3_calculate_4 rfl (by decide) rfl ?_
  refine gg_iload_n dX3_calculate_5 2 rfl ?_
  refine gg_tsw (off := 26) (tgt := 32) dX3_calculate_6 (by decide) (by decide) rfl (by decide) ?_
  refine gg_aload_n dX3_calculate_32 1 rfl ?_
  refine gg_lload_n dX3_calculate_33 0 rfl ?_
  refine gg_lneg dX3_calculate_34 ?_
  refine gg_callVv (own := RX3) (yt := gm_X3_push) rfl gl_RX3_98 gk_X3_push gr_X3_push dX3_calculate_35 (c_X3_push (d := d - 1) (t := u) (hi := hi) (x := (-(J 37 u))) (gu_s) (by omega) ((gu_n (by omega)).trans (h7)) (by omega)) sh_32 pl_32 (by decide) rfl rfl rfl (Nat.le_of_ble_eq_true rfl) (by show _ ≤ d; omega) ⟨Nat.le_refl _, Nat.le_refl _⟩ (fun μ' hc => ?_)
  obtain rfl := hc
  refine gg_goto (tgt := 77) dX3_calculate_38 (by decide) ?_
  refine gg_vretv dX3_calculate_77 rfl ⟨rfl, rfl⟩ ?_
  refine ⟨_, _, rfl, ?_, ?_⟩
  · rw [gyst_2 hT]
    refine ⟨((gu_n (by omega)).trans (gu_s)).trans (by first | rfl | (show (_ : Int) = _; simp only []; omega)), (gu_s).trans (by first | rfl | (show (_ : Int) = _; simp only []; omega)), fun q hq => ?_⟩
    dsimp only at hq ⊢
    simp only [gyU, gv, Nat.add_sub_cancel]
    by_cases hqu : q = u
    · subst hqu
      simp [hS]
    · simp [hqu]
      exact hS q (by omega)
  · exact ⟨fun p hp => (gu_other (by omega)).trans ((gu_other (by omega)).trans ((gu_other (by omega)).trans (rfl))), fun q q1 q2 => ((gu_n (by omega)).trans ((gu_n (by omega)).trans ((gu_n (by omega)).trans (rfl)))), fun p hp => (gv_other (by omega)).trans (rfl)⟩

set_option maxRecDepth 10000 in
theorem c_X3_calculate_3 {l : Launch} {Γ : gC} {ad : Nat → Nat} {I : Nat → Nat → Int} {J : Nat → Nat → Int64} {d : Nat} {len : Nat} {T : Nat → Int × Int64} {v : Nat → Int} {k h hi : Nat} {S : Nat → Int64} (hk : gyok T len (k, h, S, hi)) (hin : gyIn I J (k, h, S, hi)) (hT : (T k).1 = 30) (hd : 2 ≤ d) : gKv l Γ gm_X3_calculate d [.ref (gad (gSS ad) 32), .int (iv 3)] (gSS ad, I, J) (fun μ => ∃ I' J', μ = (gSS ad, I', J') ∧ gyIn I' J' (gyst T v (k, h, S, hi)) ∧ gyKp I J I' J') := by
  refine gKv_of gk_X3_calculate.1 (Nat.le_of_ble_eq_true rfl) ?_
  show gG l Γ gm_X3_calculate (d, 0, 0, 0, 0) 0 [(0, .ref (gad (gSS ad) 32)), (1, .int (iv 3))] [] _ _
  obtain ⟨hh, h7, hS⟩ := hin
  obtain ⟨k1, k2, k3, k4, k5, k6, k7, k8, k9, k10, k11⟩ := hk
  dsimp only at hh h7 hS k1 k2 k3 k4 k5 k6 k7 k8 k9 k10 k11
  have hO : gyO T k = 3 := by unfold gyO; omega
  obtain ⟨u, rfl⟩ : ∃ u, h = u + 1 + 1 := ⟨h - 2, by have := k8 (by omega); omega⟩
  refine gg_aload_n dX3_calculate_0 0 rfl ?_
  refine gg_callVl (own := RX3) (yt := gm_X3_pop) rfl gl_RX3_91 gk_X3_pop gr_X3_pop dX3_calculate_1 (c_X3_pop (d := d - 1) (t := (u + 1)) (hh) (by omega)) sh_32 pl_32 (by decide) rfl rfl rfl (Nat.le_of_ble_eq_true rfl) (by show _ ≤ d; omega) ⟨Nat.le_refl _, Nat.le_refl _⟩ (fun e1 μ' hc => ?_)
  obtain ⟨rfl, rfl⟩ := hc
  refine gg_lstore_n (ls' := [(2, .long (J 37 (u + 1))), (0, .ref (gad (gSS ad) 32)), (1, .int (iv 3))]) dX3_calculate_4 rfl (by decide) rfl ?_
  refine gg_iload_n dX3_calculate_5 2 rfl ?_
  refine gg_tsw (off := 35) (tgt := 41) dX3_calculate_6 (by decide) (by decide) rfl (by decide) ?_
  refine gg_aload_n dX3_calculate_41 1 rfl ?_
  refine gg_aload_n dX3_calculate_42 1 rfl ?_
  refine gg_callVl (own := RX3) (yt := gm_X3_pop) rfl gl_RX3_91 gk_X3_pop gr_X3_pop dX3_calculate_43 (c_X3_pop (d := d - 1) (t := u) (gu_s) (by omega)) sh_32 pl_32 (by decide) rfl rfl rfl (Nat.le_of_ble_eq_true rfl) (by show _ ≤ d; omega) ⟨Nat.le_refl _, Nat.le_refl _⟩ (fun e2 μ' hc => ?_)
  obtain ⟨rfl, rfl⟩ := hc
  refine gg_lload_n dX3_calculate_46 0 rfl ?_
  refine gg_ladd dX3_calculate_47 ?_
  refine gg_callVv (own := RX3) (yt := gm_X3_push) rfl gl_RX3_98 gk_X3_push gr_X3_push dX3_calculate_48 (c_X3_push (d := d - 1) (t := u) (hi := hi) (x := ((J 37 u) + (J 37 (u + 1)))) (gu_s) (by omega) ((gu_n (by omega)).trans ((gu_n (by omega)).trans (h7))) (by omega)) sh_32 pl_32 (by decide) rfl rfl rfl (Nat.le_of_ble_eq_true rfl) (by show _ ≤ d; omega) ⟨Nat.le_refl _, Nat.le_refl _⟩ (fun μ' hc => ?_)
  obtain rfl := hc
  refine gg_goto (tgt := 77) dX3_calculate_51 (by decide) ?_
  refine gg_vretv dX3_calculate_77 rfl ⟨rfl, rfl⟩ ?_
  refine ⟨_, _, rfl, ?_, ?_⟩
  · rw [gyst_3 hT]
    refine ⟨((gu_n (by omega)).trans (gu_s)).trans (by first | rfl | (show (_ : Int) = _; simp only []; omega)), (gu_s).trans (by first | rfl | (show (_ : Int) = _; simp only []; omega)), fun q hq => ?_⟩
    dsimp only at hq ⊢
    have e1 : u + 1 + 1 - 2 = u := by omega
    have e2 : u + 1 + 1 - 1 = u + 1 := by omega
    rw [e1, e2]
    have hu := hS u (by omega)
    have hu1 := hS (u + 1) (by omega)
    by_cases hqu : q = u
    · subst hqu
      simp [gyU, gv, hu, hu1]
    · simp [gyU, gv, hqu]
      exact hS q (by omega)
  · exact ⟨fun p hp => (gu_other (by omega)).trans ((gu_other (by omega)).trans ((gu_other (by omega)).trans ((gu_other (by omega)).trans (rfl)))), fun q q1 q2 => ((gu_n (by omega)).trans ((gu_n (by omega)).trans ((gu_n (by omega)).trans ((gu_n (by omega)).trans (rfl))))), fun p hp => (gv_other (by omega)).trans (rfl)⟩

set_option maxRecDepth 10000 in
theorem c_X3_calculate_4 {l : Launch} {Γ : gC} {ad : Nat → Nat} {I : Nat → Nat → Int} {J : Nat → Nat → Int64} {d : Nat} {len : Nat} {T : Nat → Int × Int64} {v : Nat → Int} {k h hi : Nat} {S : Nat → Int64} (hk : gyok T len (k, h, S, hi)) (hin : gyIn I J (k, h, S, hi)) (hT : (T k).1 = 40) (hd : 2 ≤ d) : gKv l Γ gm_X3_calculate d [.ref (gad (gSS ad) 32), .int (iv 4)] (gSS ad, I, J) (fun μ => ∃ I' J', μ = (gSS ad, I', J') ∧ gyIn I' J' (gyst T v (k, h, S, hi)) ∧ gyKp I J I' J') := by
  refine gKv_of gk_X3_calculate.1 (Nat.le_of_ble_eq_true rfl) ?_
  show gG l Γ gm_X3_calculate (d, 0, 0, 0, 0) 0 [(0, .ref (gad (gSS ad) 32)), (1, .int (iv 4))] [] _ _
  obtain ⟨hh, h7, hS⟩ := hin
  obtain ⟨k1, k2, k3, k4, k5, k6, k7, k8, k9, k10, k11⟩ := hk
  dsimp only at hh h7 hS k1 k2 k3 k4 k5 k6 k7 k8 k9 k10 k11
  have hO : gyO T k = 4 := by unfold gyO; omega
  obtain ⟨u, rfl⟩ : ∃ u, h = u + 1 + 1 := ⟨h - 2, by have := k8 (by omega); omega⟩
  refine gg_aload_n dX3_calculate_0 0 rfl ?_
  refine gg_callVl (own := RX3) (yt := gm_X3_pop) rfl gl_RX3_91 gk_X3_pop gr_X3_pop dX3_calculate_1 (c_X3_pop (d := d - 1) (t := (u + 1)) (hh) (by omega)) sh_32 pl_32 (by decide) rfl rfl rfl (Nat.le_of_ble_eq_true rfl) (by show _ ≤ d; omega) ⟨Nat.le_refl _, Nat.le_refl _⟩ (fun e1 μ' hc => ?_)
  obtain ⟨rfl, rfl⟩ := hc
  refine gg_lstore_n (ls' := [(2, .long (J 37 (u + 1))), (0, .ref (gad (gSS ad) 32)), (1, .int (iv 4))]) dX3_calculate_4 rfl (by decide) rfl ?_
  refine gg_iload_n dX3_calculate_5 2 rfl ?_
  refine gg_tsw (off := 48) (tgt := 54) dX3_calculate_6 (by decide) (by decide) rfl (by decide) ?_
  refine gg_aload_n dX3_calculate_54 1 rfl ?_
  refine gg_aload_n dX3_calculate_55 1 rfl ?_
  refine gg_callVl (own := RX3) (yt := gm_X3_pop) rfl gl_RX3_91 gk_X3_pop gr_X3_pop dX3_calculate_56 (c_X3_pop (d := d - 1) (t := u) (gu_s) (by omega)) sh_32 pl_32 (by decide) rfl rfl rfl (Nat.le_of_ble_eq_true rfl) (by show _ ≤ d; omega) ⟨Nat.le_refl _, Nat.le_refl _⟩ (fun e2 μ' hc => ?_)
  obtain ⟨rfl, rfl⟩ := hc
  refine gg_lload_n dX3_calculate_59 0 rfl ?_
  refine gg_lmul dX3_calculate_60 ?_
  refine gg_callVv (own := RX3) (yt := gm_X3_push) rfl gl_RX3_98 gk_X3_push gr_X3_push dX3_calculate_61 (c_X3_push (d := d - 1) (t := u) (hi := hi) (x := ((J 37 u) * (J 37 (u + 1)))) (gu_s) (by omega) ((gu_n (by omega)).trans ((gu_n (by omega)).trans (h7))) (by omega)) sh_32 pl_32 (by decide) rfl rfl rfl (Nat.le_of_ble_eq_true rfl) (by show _ ≤ d; omega) ⟨Nat.le_refl _, Nat.le_refl _⟩ (fun μ' hc => ?_)
  obtain rfl := hc
  refine gg_goto (tgt := 77) dX3_calculate_64 (by decide) ?_
  refine gg_vretv dX3_calculate_77 rfl ⟨rfl, rfl⟩ ?_
  refine ⟨_, _, rfl, ?_, ?_⟩
  · rw [gyst_4 hT]
    refine ⟨((gu_n (by omega)).trans (gu_s)).trans (by first | rfl | (show (_ : Int) = _; simp only []; omega)), (gu_s).trans (by first | rfl | (show (_ : Int) = _; simp only []; omega)), fun q hq => ?_⟩
    dsimp only at hq ⊢
    have e1 : u + 1 + 1 - 2 = u := by omega
    have e2 : u + 1 + 1 - 1 = u + 1 := by omega
    rw [e1, e2]
    have hu := hS u (by omega)
    have hu1 := hS (u + 1) (by omega)
    by_cases hqu : q = u
    · subst hqu
      simp [gyU, gv, hu, hu1]
    · simp [gyU, gv, hqu]
      exact hS q (by omega)
  · exact ⟨fun p hp => (gu_other (by omega)).trans ((gu_other (by omega)).trans ((gu_other (by omega)).trans ((gu_other (by omega)).trans (rfl)))), fun q q1 q2 => ((gu_n (by omega)).trans ((gu_n (by omega)).trans ((gu_n (by omega)).trans ((gu_n (by omega)).trans (rfl))))), fun p hp => (gv_other (by omega)).trans (rfl)⟩

set_option maxRecDepth 10000 in
theorem c_X3_calculate_8 {l : Launch} {Γ : gC} {ad : Nat → Nat} {I : Nat → Nat → Int} {J : Nat → Nat → Int64} {d : Nat} {len : Nat} {T : Nat → Int × Int64} {v : Nat → Int} {k h hi : Nat} {S : Nat → Int64} (hk : gyok T len (k, h, S, hi)) (hin : gyIn I J (k, h, S, hi)) (hT : (T k).1 = 80) (hd : 2 ≤ d) : gKv l Γ gm_X3_calculate d [.ref (gad (gSS ad) 32), .int (iv 8)] (gSS ad, I, J) (fun μ => ∃ I' J', μ = (gSS ad, I', J') ∧ gyIn I' J' (gyst T v (k, h, S, hi)) ∧ gyKp I J I' J') := by
  refine gKv_of gk_X3_calculate.1 (Nat.le_of_ble_eq_true rfl) ?_
  show gG l Γ gm_X3_calculate (d, 0, 0, 0, 0) 0 [(0, .ref (gad (gSS ad) 32)), (1, .int (iv 8))] [] _ _
  obtain ⟨hh, h7, hS⟩ := hin
  obtain ⟨k1, k2, k3, k4, k5, k6, k7, k8, k9, k10, k11⟩ := hk
  dsimp only at hh h7 hS k1 k2 k3 k4 k5 k6 k7 k8 k9 k10 k11
  have hO : gyO T k = 8 := by unfold gyO; omega
  obtain ⟨u, rfl⟩ : ∃ u, h = u + 1 := ⟨h - 1, by have := k7 (by omega); omega⟩
  refine gg_aload_n dX3_calculate_0 0 rfl ?_
  refine gg_callVl (own := RX3) (yt := gm_X3_pop) rfl gl_RX3_91 gk_X3_pop gr_X3_pop dX3_calculate_1 (c_X3_pop (d := d - 1) (t := u) (hh) (by omega)) sh_32 pl_32 (by decide) rfl rfl rfl (Nat.le_of_ble_eq_true rfl) (by show _ ≤ d; omega) ⟨Nat.le_refl _, Nat.le_refl _⟩ (fun e1 μ' hc => ?_)
  obtain ⟨rfl, rfl⟩ := hc
  refine gg_lstore_n (ls' := [(2, .long (J 37 u)), (0, .ref (gad (gSS ad) 32)), (1, .int (iv 8))]) dX3_calculate_4 rfl (by decide) rfl ?_
  refine gg_iload_n dX3_calculate_5 2 rfl ?_
  refine gg_tsw_out (tgt := 67) dX3_calculate_6 (by decide) (by decide) (by decide) ?_
  refine gg_aload_n dX3_calculate_67 1 rfl ?_
  refine gg_lload_n dX3_calculate_68 0 rfl ?_
  refine gg_callVv (own := RX3) (yt := gm_X3_push) rfl gl_RX3_98 gk_X3_push gr_X3_push dX3_calculate_69 (c_X3_push (d := d - 1) (t := u) (hi := hi) (x := (J 37 u)) (gu_s) (by omega) ((gu_n (by omega)).trans (h7)) (by omega)) sh_32 pl_32 (by decide) rfl rfl rfl (Nat.le_of_ble_eq_true rfl) (by show _ ≤ d; omega) ⟨Nat.le_refl _, Nat.le_refl _⟩ (fun μ' hc => ?_)
  obtain rfl := hc
  refine gg_aload_n dX3_calculate_72 1 rfl ?_
  refine gg_lload_n dX3_calculate_73 0 rfl ?_
  refine gg_callVv (own := RX3) (yt := gm_X3_push) rfl gl_RX3_98 gk_X3_push gr_X3_push dX3_calculate_74 (c_X3_push (d := d - 1) (t := (u + 1)) (hi := (max hi (u + 1))) (x := (J 37 u)) ((gu_n (by omega)).trans (gu_s)) (by omega) (gu_s) (by omega)) sh_32 pl_32 (by decide) rfl rfl rfl (Nat.le_of_ble_eq_true rfl) (by show _ ≤ d; omega) ⟨Nat.le_refl _, Nat.le_refl _⟩ (fun μ' hc => ?_)
  obtain rfl := hc
  refine gg_vretv dX3_calculate_77 rfl ⟨rfl, rfl⟩ ?_
  refine ⟨_, _, rfl, ?_, ?_⟩
  · rw [gyst_8 hT]
    refine ⟨((gu_n (by omega)).trans (gu_s)).trans (by first | rfl | (show (_ : Int) = _; simp only []; omega)), (gu_s).trans (by first | rfl | (show (_ : Int) = _; simp only []; omega)), fun q hq => ?_⟩
    dsimp only at hq ⊢
    have e1 : u + 1 - 1 = u := by omega
    rw [e1]
    have hu := hS u (by omega)
    by_cases hqu : q = u + 1
    · subst hqu
      simp [gyU, gv, hu]
    · by_cases hqv : q = u
      · subst hqv
        simp [gyU, gv, hu]
      · simp [gyU, gv, hqu, hqv]
        exact hS q (by omega)
  · exact ⟨fun p hp => (gu_other (by omega)).trans ((gu_other (by omega)).trans ((gu_other (by omega)).trans ((gu_other (by omega)).trans ((gu_other (by omega)).trans (rfl))))), fun q q1 q2 => ((gu_n (by omega)).trans ((gu_n (by omega)).trans ((gu_n (by omega)).trans ((gu_n (by omega)).trans ((gu_n (by omega)).trans (rfl)))))), fun p hp => (gv_other (by omega)).trans ((gv_other (by omega)).trans (rfl))⟩

