/-! the class: code is run -/
set_option maxRecDepth 10000 in
theorem c_X3_push {l : Launch} {Γ : gC} {ad : Nat → Nat} {I : Nat → Nat → Int} {J : Nat → Nat → Int64} {d : Nat}  {t hi : Nat} (hh : I 32 6 = (t : Int)) (ht : t < 400) (h7 : I 32 7 = (hi : Int)) (hhi : hi ≤ 1000) {x : Int64} (hd : 1 ≤ d) : gKv l Γ gm_X3_push d [.ref (gad (gSS ad) 32), .long x] (gSS ad, I, J) (fun μ => μ = (gSS ad, gu (gu I 32 6 ((t + 1 : Nat) : Int)) 32 7 ((max hi (t + 1) : Nat) : Int), gv J 37 t x)) := by
  refine gKv_of gk_X3_push.1 (Nat.le_of_ble_eq_true rfl) ?_
  show gG l Γ gm_X3_push (d, 0, 0, 0, 0) 0 [(0, .ref (gad (gSS ad) 32)), (1, .long x)] [] _ _
  refine gg_aload_n dX3_push_0 0 rfl ?_
  refine gg_getI rfl gf_RX3_84 dX3_push_1 sh_32 pl_32 (by decide) (by decide) ?_
  refine gg_toI (b := (t : Int)) hh ?_
  refine gg_sipush dX3_push_4 (by decide) ?_
  refine gg_icmp_ge_f (tgt := 45) dX3_push_7 (by decide) (by omega) (by omega) ?_
  refine gg_aload_n dX3_push_10 0 rfl ?_
  refine gg_getR (k' := 37) rfl gf_RX3_25 dX3_push_11 sh_32 pl_32 (by decide) (by decide) rr_32_5 ?_
  refine gg_aload_n dX3_push_14 0 rfl ?_
  refine gg_getI rfl gf_RX3_84 dX3_push_15 sh_32 pl_32 (by decide) (by decide) ?_
  refine gg_toI (b := (t : Int)) hh ?_
  refine gg_lload_n dX3_push_18 1 rfl ?_
  refine gg_lastj t dX3_push_19 sh_37 pl_37 (by decide) rfl (by omega) ?_
  refine gg_aload_n dX3_push_20 0 rfl ?_
  refine gg_dup dX3_push_21 rfl ?_
  refine gg_getI rfl gf_RX3_84 dX3_push_22 sh_32 pl_32 (by decide) (by decide) ?_
  refine gg_toI (b := (t : Int)) hh ?_
  refine gg_iconst dX3_push_25 ?_
  refine gg_iadd dX3_push_26 ?_
  refine gg_toI (b := ((t + 1 : Nat) : Int)) (by omega) ?_
  refine gg_putI rfl gf_RX3_84 dX3_push_27 sh_32 pl_32 (by decide) (by decide) (by decide) (gfit_i _) ?_
  refine gg_aload_n dX3_push_30 0 rfl ?_
  refine gg_aload_n dX3_push_31 0 rfl ?_
  refine gg_getI rfl gf_RX3_35 dX3_push_32 sh_32 pl_32 (by decide) (by decide) ?_
  refine gg_toI (b := (hi : Int)) ((gu_n (by omega)).trans h7) ?_
  refine gg_aload_n dX3_push_35 0 rfl ?_
  refine gg_getI rfl gf_RX3_84 dX3_push_36 sh_32 pl_32 (by decide) (by decide) ?_
  refine gg_toI (b := ((t + 1 : Nat) : Int)) gu_s ?_
  refine gg_mmax rfl gl_RX3_95 dX3_push_39 (by omega) (Nat.le_of_ble_eq_true rfl) (by omega) ⟨Nat.le_refl _, Nat.le_refl _⟩ ?_
  refine gg_toI (b := ((max hi (t + 1) : Nat) : Int)) (by omega) ?_
  refine gg_putI rfl gf_RX3_35 dX3_push_42 sh_32 pl_32 (by decide) (by decide) (by decide) (gfit_i _) ?_
  refine gg_vretv dX3_push_45 rfl ⟨rfl, rfl⟩ ?_
  exact rfl

set_option maxRecDepth 10000 in
theorem c_X3_pop {l : Launch} {Γ : gC} {ad : Nat → Nat} {I : Nat → Nat → Int} {J : Nat → Nat → Int64} {d : Nat}  {t : Nat} (hh : I 32 6 = ((t + 1 : Nat) : Int)) (ht : t < 400) : gKl l Γ gm_X3_pop d [.ref (gad (gSS ad) 32)] (gSS ad, I, J) (fun e μ => μ = (gSS ad, gu I 32 6 (t : Int), J) ∧ e = J 37 t) := by
  refine gKl_of gk_X3_pop.1 (Nat.le_of_ble_eq_true rfl) ?_
  show gG l Γ gm_X3_pop (d, 0, 0, 0, 0) 0 [(0, .ref (gad (gSS ad) 32))] [] _ _
  refine gg_aload_n dX3_pop_0 0 rfl ?_
  refine gg_getI rfl gf_RX3_84 dX3_pop_1 sh_32 pl_32 (by decide) (by decide) ?_
  refine gg_toI (b := ((t + 1 : Nat) : Int)) hh ?_
  refine gg_if_gt_t (tgt := 9) dX3_pop_4 (by decide) (by omega) (by omega) ?_
  refine gg_aload_n dX3_pop_9 0 rfl ?_
  refine gg_dup dX3_pop_10 rfl ?_
  refine gg_getI rfl gf_RX3_84 dX3_pop_11 sh_32 pl_32 (by decide) (by decide) ?_
  refine gg_toI (b := ((t + 1 : Nat) : Int)) hh ?_
  refine gg_iconst dX3_pop_14 ?_
  refine gg_isub dX3_pop_15 ?_
  refine gg_toI (b := (t : Int)) (by omega) ?_
  refine gg_putI rfl gf_RX3_84 dX3_pop_16 sh_32 pl_32 (by decide) (by decide) (by decide) (gfit_i _) ?_
  refine gg_aload_n dX3_pop_19 0 rfl ?_
  refine gg_getR (k' := 37) rfl gf_RX3_25 dX3_pop_20 sh_32 pl_32 (by decide) (by decide) rr_32_5 ?_
  refine gg_aload_n dX3_pop_23 0 rfl ?_
  refine gg_getI rfl gf_RX3_84 dX3_pop_24 sh_32 pl_32 (by decide) (by decide) ?_
  refine gg_toI (b := (t : Int)) gu_s ?_
  refine gg_laldj t dX3_pop_27 sh_37 pl_37 (by decide) rfl (by omega) ?_
  refine gg_lretl dX3_pop_28 rfl ⟨rfl, rfl⟩ ?_
  exact ⟨rfl, rfl⟩

/-- the machine's stack is as the state's -/
def gyIn (I : Nat → Nat → Int) (J : Nat → Nat → Int64) (x : gyX) : Prop := I 32 6 = (x.2.1 : Int) ∧ I 32 7 = (x.2.2.2 : Int) ∧ ∀ q, q < x.2.1 → J 37 q = x.2.2.1 q
/-- what stays when the machine runs -/
def gyKp (I : Nat → Nat → Int) (J : Nat → Nat → Int64) (I' : Nat → Nat → Int) (J' : Nat → Nat → Int64) : Prop := (∀ p, p ≠ 32 → I' p = I p) ∧ (∀ q, q ≠ 6 → q ≠ 7 → I' 32 q = I 32 q) ∧ (∀ p, p ≠ 37 → J' p = J p)
theorem gyo_0 {T : Nat → Int × Int64} {v : Nat → Int} {k h hi : Nat} {S : Nat → Int64} (ho : gyO T k = 0) : gyst T v (k, h, S, hi) = (k + 1, h + 1, gyU S h (T k).2, max hi (h + 1)) := by simp [gyst, gyK, gyT, gyS, ho]
theorem gyo_1 {T : Nat → Int × Int64} {v : Nat → Int} {k h hi : Nat} {S : Nat → Int64} (ho : gyO T k = 1) : gyst T v (k, h, S, hi) = (k + 1, h + 1, gyU S h (gi2l (v ((T k).1 % 10).toNat)), max hi (h + 1)) := by simp [gyst, gyK, gyT, gyS, ho]
theorem gyo_2 {T : Nat → Int × Int64} {v : Nat → Int} {k h hi : Nat} {S : Nat → Int64} (ho : gyO T k = 2) : gyst T v (k, h, S, hi) = (k + 1, h, gyU S (h - 1) (-S (h - 1)), max hi (h)) := by simp [gyst, gyK, gyT, gyS, ho]
theorem gyo_3 {T : Nat → Int × Int64} {v : Nat → Int} {k h hi : Nat} {S : Nat → Int64} (ho : gyO T k = 3) : gyst T v (k, h, S, hi) = (k + 1, h - 1, gyU S (h - 2) (S (h - 2) + S (h - 1)), max hi (h - 1)) := by simp [gyst, gyK, gyT, gyS, ho]
theorem gyo_4 {T : Nat → Int × Int64} {v : Nat → Int} {k h hi : Nat} {S : Nat → Int64} (ho : gyO T k = 4) : gyst T v (k, h, S, hi) = (k + 1, h - 1, gyU S (h - 2) (S (h - 2) * S (h - 1)), max hi (h - 1)) := by simp [gyst, gyK, gyT, gyS, ho]
theorem gyo_5 {T : Nat → Int × Int64} {v : Nat → Int} {k h hi : Nat} {S : Nat → Int64} (ho : gyO T k = 5) : gyst T v (k, h, S, hi) = (k + 1, h, gyU S (h - 1) (gpow (S (h - 1)) ((T k).1 % 10).toNat), max hi (h)) := by simp [gyst, gyK, gyT, gyS, ho]
theorem gyo_7 {T : Nat → Int × Int64} {v : Nat → Int} {k h hi : Nat} {S : Nat → Int64} (ho : gyO T k = 7) : gyst T v (k, h, S, hi) = (((T k).1 / 100).toNat, h, S, max hi (h)) := by simp [gyst, gyK, gyT, gyS, ho]
theorem gyo_8 {T : Nat → Int × Int64} {v : Nat → Int} {k h hi : Nat} {S : Nat → Int64} (ho : gyO T k = 8) : gyst T v (k, h, S, hi) = (k + 1, h + 1, gyU S h (S (h - 1)), max hi (h + 1)) := by simp [gyst, gyK, gyT, gyS, ho]
theorem gyo_6t {T : Nat → Int × Int64} {v : Nat → Int} {k h hi : Nat} {S : Nat → Int64} (ho : gyO T k = 6) (hs : S (h - 1) = 0) : gyst T v (k, h, S, hi) = (((T k).1 / 100).toNat, h - 1, S, max hi (h - 1)) := by simp [gyst, gyK, gyT, gyS, ho, hs]
theorem gyo_6f {T : Nat → Int × Int64} {v : Nat → Int} {k h hi : Nat} {S : Nat → Int64} (ho : gyO T k = 6) (hs : ¬ S (h - 1) = 0) : gyst T v (k, h, S, hi) = (k + 1, h - 1, S, max hi (h - 1)) := by simp [gyst, gyK, gyT, gyS, ho, hs]
set_option maxRecDepth 10000 in
theorem c_X3_calculate_2 {l : Launch} {Γ : gC} {ad : Nat → Nat} {I : Nat → Nat → Int} {J : Nat → Nat → Int64} {d : Nat} {len : Nat} {T : Nat → Int × Int64} {v : Nat → Int} {k h hi : Nat} {S : Nat → Int64} (hk : gyok T len (k, h, S, hi)) (hin : gyIn I J (k, h, S, hi)) (hO : gyO T k = 2) (hd : 2 ≤ d) : gKv l Γ gm_X3_calculate d [.ref (gad (gSS ad) 32), .int (iv 2)] (gSS ad, I, J) (fun μ => ∃ I' J', μ = (gSS ad, I', J') ∧ gyIn I' J' (gyst T v (k, h, S, hi)) ∧ gyKp I J I' J') := by
  refine gKv_of gk_X3_calculate.1 (Nat.le_of_ble_eq_true rfl) ?_
  show gG l Γ gm_X3_calculate (d, 0, 0, 0, 0) 0 [(0, .ref (gad (gSS ad) 32)), (1, .int (iv 2))] [] _ _
  obtain ⟨hh, h7, hS⟩ := hin
  obtain ⟨k1, k2, k3, k4, k5, k6, k7, k8, k9, k10, k11⟩ := hk
  dsimp only at hh h7 hS k1 k2 k3 k4 k5 k6 k7 k8 k9 k10 k11
  obtain ⟨u, rfl⟩ : ∃ u, h = u + 1 := ⟨h - 1, by have := k7 (by omega); omega⟩
  refine gg_aload_n dX3_calculate_0 0 rfl ?_
  refine gg_callVl (own := RX3) (yt := gm_X3_pop) rfl gl_RX3_91 gk_X3_pop gr_X3_pop dX3_calculate_1 (c_X3_pop (d := d - 1) (t := u) (hh) (by omega)) sh_32 pl_32 (by decide) rfl rfl rfl (Nat.le_of_ble_eq_true rfl) (by show _ ≤ d; omega) ⟨Nat.le_refl _, Nat.le_refl _⟩ (fun e1 μ' hc => ?_)
  obtain ⟨rfl, rfl⟩ := hc
  refine gg_lstore_n (ls' := [(2, .long (J 37 u)), (0, .ref (gad (gSS ad) 32)), (1, .int (iv 2))]) dX3_calculate_4 rfl (by decide) rfl ?_
  refine gg_iload_n dX3_calculate_5 2 rfl ?_
  refine gg_tsw (off := 26) (tgt := 32) dX3_calculate_6 (by decide) (by decide) rfl (by decide) ?_
  refine gg_aload_n dX3_calculate_32 1 rfl ?_
  refine gg_lload_n dX3_calculate_33 0 rfl ?_
  refine gg_lneg dX3_calculate_34 ?_
  refine gg_callVv (own := RX3) (yt := gm_X3_push) rfl gl_RX3_98 gk_X3_push gr_X3_push dX3_calculate_35 (c_X3_push (d := d - 1) (t := u) (hi := hi) (x := (-(J 37 u))) (gu_s) (by omega) ((gu_n (by omega)).trans (h7)) (by omega) (by omega)) sh_32 pl_32 (by decide) rfl rfl rfl (Nat.le_of_ble_eq_true rfl) (by show _ ≤ d; omega) ⟨Nat.le_refl _, Nat.le_refl _⟩ (fun μ' hc => ?_)
  obtain rfl := hc
  refine gg_goto (tgt := 77) dX3_calculate_38 (by decide) ?_
  refine gg_vretv dX3_calculate_77 rfl ⟨rfl, rfl⟩ ?_
  refine ⟨_, _, rfl, ?_, ?_⟩
  · rw [gyo_2 hO]
    refine ⟨((gu_n (by omega)).trans (gu_s)).trans (by first | rfl | (show (_ : Int) = _; simp only []; omega)), (gu_s).trans (by first | rfl | (show (_ : Int) = _; simp only []; omega)), fun q hq => ?_⟩
    dsimp only at hq ⊢
    simp only [gyU, gv, Nat.add_sub_cancel]
    by_cases hqu : q = u
    · subst hqu
      simp [hS]
    · simp [hqu]
      exact hS q (by omega)
  · exact ⟨fun p hp => (gu_other (by omega)).trans ((gu_other (by omega)).trans ((gu_other (by omega)).trans (rfl))), fun q q1 q2 => ((gu_n (by omega)).trans ((gu_n (by omega)).trans ((gu_n (by omega)).trans (rfl)))), fun p hp => (gv_other (by omega)).trans (rfl)⟩

set_option maxRecDepth 10000 in
theorem c_X3_calculate_3 {l : Launch} {Γ : gC} {ad : Nat → Nat} {I : Nat → Nat → Int} {J : Nat → Nat → Int64} {d : Nat} {len : Nat} {T : Nat → Int × Int64} {v : Nat → Int} {k h hi : Nat} {S : Nat → Int64} (hk : gyok T len (k, h, S, hi)) (hin : gyIn I J (k, h, S, hi)) (hO : gyO T k = 3) (hd : 2 ≤ d) : gKv l Γ gm_X3_calculate d [.ref (gad (gSS ad) 32), .int (iv 3)] (gSS ad, I, J) (fun μ => ∃ I' J', μ = (gSS ad, I', J') ∧ gyIn I' J' (gyst T v (k, h, S, hi)) ∧ gyKp I J I' J') := by
  refine gKv_of gk_X3_calculate.1 (Nat.le_of_ble_eq_true rfl) ?_
  show gG l Γ gm_X3_calculate (d, 0, 0, 0, 0) 0 [(0, .ref (gad (gSS ad) 32)), (1, .int (iv 3))] [] _ _
  obtain ⟨hh, h7, hS⟩ := hin
  obtain ⟨k1, k2, k3, k4, k5, k6, k7, k8, k9, k10, k11⟩ := hk
  dsimp only at hh h7 hS k1 k2 k3 k4 k5 k6 k7 k8 k9 k10 k11
  obtain ⟨u, rfl⟩ : ∃ u, h = u + 1 + 1 := ⟨h - 2, by have := k8 (by omega); omega⟩
  refine gg_aload_n dX3_calculate_0 0 rfl ?_
  refine gg_callVl (own := RX3) (yt := gm_X3_pop) rfl gl_RX3_91 gk_X3_pop gr_X3_pop dX3_calculate_1 (c_X3_pop (d := d - 1) (t := (u + 1)) (hh) (by omega)) sh_32 pl_32 (by decide) rfl rfl rfl (Nat.le_of_ble_eq_true rfl) (by show _ ≤ d; omega) ⟨Nat.le_refl _, Nat.le_refl _⟩ (fun e1 μ' hc => ?_)
  obtain ⟨rfl, rfl⟩ := hc
  refine gg_lstore_n (ls' := [(2, .long (J 37 (u + 1))), (0, .ref (gad (gSS ad) 32)), (1, .int (iv 3))]) dX3_calculate_4 rfl (by decide) rfl ?_
  refine gg_iload_n dX3_calculate_5 2 rfl ?_
  refine gg_tsw (off := 35) (tgt := 41) dX3_calculate_6 (by decide) (by decide) rfl (by decide) ?_
  refine gg_aload_n dX3_calculate_41 1 rfl ?_
  refine gg_aload_n dX3_calculate_42 1 rfl ?_
  refine gg_callVl (own := RX3) (yt := gm_X3_pop) rfl gl_RX3_91 gk_X3_pop gr_X3_pop dX3_calculate_43 (c_X3_pop (d := d - 1) (t := u) (gu_s) (by omega)) sh_32 pl_32 (by decide) rfl rfl rfl (Nat.le_of_ble_eq_true rfl) (by show _ ≤ d; omega) ⟨Nat.le_refl _, Nat.le_refl _⟩ (fun e2 μ' hc => ?_)
  obtain ⟨rfl, rfl⟩ := hc
  refine gg_lload_n dX3_calculate_46 0 rfl ?_
  refine gg_ladd dX3_calculate_47 ?_
  refine gg_callVv (own := RX3) (yt := gm_X3_push) rfl gl_RX3_98 gk_X3_push gr_X3_push dX3_calculate_48 (c_X3_push (d := d - 1) (t := u) (hi := hi) (x := ((J 37 u) + (J 37 (u + 1)))) (gu_s) (by omega) ((gu_n (by omega)).trans ((gu_n (by omega)).trans (h7))) (by omega) (by omega)) sh_32 pl_32 (by decide) rfl rfl rfl (Nat.le_of_ble_eq_true rfl) (by show _ ≤ d; omega) ⟨Nat.le_refl _, Nat.le_refl _⟩ (fun μ' hc => ?_)
  obtain rfl := hc
  refine gg_goto (tgt := 77) dX3_calculate_51 (by decide) ?_
  refine gg_vretv dX3_calculate_77 rfl ⟨rfl, rfl⟩ ?_
  refine ⟨_, _, rfl, ?_, ?_⟩
  · rw [gyo_3 hO]
    refine ⟨((gu_n (by omega)).trans (gu_s)).trans (by first | rfl | (show (_ : Int) = _; simp only []; omega)), (gu_s).trans (by first | rfl | (show (_ : Int) = _; simp only []; omega)), fun q hq => ?_⟩
    dsimp only at hq ⊢
    have e1 : u + 1 + 1 - 2 = u := by omega
    have e2 : u + 1 + 1 - 1 = u + 1 := by omega
    rw [e1, e2]
    have hu := hS u (by omega)
    have hu1 := hS (u + 1) (by omega)
    by_cases hqu : q = u
    · subst hqu
      simp [gyU, gv, hu, hu1]
    · simp [gyU, gv, hqu]
      exact hS q (by omega)
  · exact ⟨fun p hp => (gu_other (by omega)).trans ((gu_other (by omega)).trans ((gu_other (by omega)).trans ((gu_other (by omega)).trans (rfl)))), fun q q1 q2 => ((gu_n (by omega)).trans ((gu_n (by omega)).trans ((gu_n (by omega)).trans ((gu_n (by omega)).trans (rfl))))), fun p hp => (gv_other (by omega)).trans (rfl)⟩

set_option maxRecDepth 10000 in
theorem c_X3_calculate_4 {l : Launch} {Γ : gC} {ad : Nat → Nat} {I : Nat → Nat → Int} {J : Nat → Nat → Int64} {d : Nat} {len : Nat} {T : Nat → Int × Int64} {v : Nat → Int} {k h hi : Nat} {S : Nat → Int64} (hk : gyok T len (k, h, S, hi)) (hin : gyIn I J (k, h, S, hi)) (hO : gyO T k = 4) (hd : 2 ≤ d) : gKv l Γ gm_X3_calculate d [.ref (gad (gSS ad) 32), .int (iv 4)] (gSS ad, I, J) (fun μ => ∃ I' J', μ = (gSS ad, I', J') ∧ gyIn I' J' (gyst T v (k, h, S, hi)) ∧ gyKp I J I' J') := by
  refine gKv_of gk_X3_calculate.1 (Nat.le_of_ble_eq_true rfl) ?_
  show gG l Γ gm_X3_calculate (d, 0, 0, 0, 0) 0 [(0, .ref (gad (gSS ad) 32)), (1, .int (iv 4))] [] _ _
  obtain ⟨hh, h7, hS⟩ := hin
  obtain ⟨k1, k2, k3, k4, k5, k6, k7, k8, k9, k10, k11⟩ := hk
  dsimp only at hh h7 hS k1 k2 k3 k4 k5 k6 k7 k8 k9 k10 k11
  obtain ⟨u, rfl⟩ : ∃ u, h = u + 1 + 1 := ⟨h - 2, by have := k8 (by omega); omega⟩
  refine gg_aload_n dX3_calculate_0 0 rfl ?_
  refine gg_callVl (own := RX3) (yt := gm_X3_pop) rfl gl_RX3_91 gk_X3_pop gr_X3_pop dX3_calculate_1 (c_X3_pop (d := d - 1) (t := (u + 1)) (hh) (by omega)) sh_32 pl_32 (by decide) rfl rfl rfl (Nat.le_of_ble_eq_true rfl) (by show _ ≤ d; omega) ⟨Nat.le_refl _, Nat.le_refl _⟩ (fun e1 μ' hc => ?_)
  obtain ⟨rfl, rfl⟩ := hc
  refine gg_lstore_n (ls' := [(2, .long (J 37 (u + 1))), (0, .ref (gad (gSS ad) 32)), (1, .int (iv 4))]) dX3_calculate_4 rfl (by decide) rfl ?_
  refine gg_iload_n dX3_calculate_5 2 rfl ?_
  refine gg_tsw (off := 48) (tgt := 54) dX3_calculate_6 (by decide) (by decide) rfl (by decide) ?_
  refine gg_aload_n dX3_calculate_54 1 rfl ?_
  refine gg_aload_n dX3_calculate_55 1 rfl ?_
  refine gg_callVl (own := RX3) (yt := gm_X3_pop) rfl gl_RX3_91 gk_X3_pop gr_X3_pop dX3_calculate_56 (c_X3_pop (d := d - 1) (t := u) (gu_s) (by omega)) sh_32 pl_32 (by decide) rfl rfl rfl (Nat.le_of_ble_eq_true rfl) (by show _ ≤ d; omega) ⟨Nat.le_refl _, Nat.le_refl _⟩ (fun e2 μ' hc => ?_)
  obtain ⟨rfl, rfl⟩ := hc
  refine gg_lload_n dX3_calculate_59 0 rfl ?_
  refine gg_lmul dX3_calculate_60 ?_
  refine gg_callVv (own := RX3) (yt := gm_X3_push) rfl gl_RX3_98 gk_X3_push gr_X3_push dX3_calculate_61 (c_X3_push (d := d - 1) (t := u) (hi := hi) (x := ((J 37 u) * (J 37 (u + 1)))) (gu_s) (by omega) ((gu_n (by omega)).trans ((gu_n (by omega)).trans (h7))) (by omega) (by omega)) sh_32 pl_32 (by decide) rfl rfl rfl (Nat.le_of_ble_eq_true rfl) (by show _ ≤ d; omega) ⟨Nat.le_refl _, Nat.le_refl _⟩ (fun μ' hc => ?_)
  obtain rfl := hc
  refine gg_goto (tgt := 77) dX3_calculate_64 (by decide) ?_
  refine gg_vretv dX3_calculate_77 rfl ⟨rfl, rfl⟩ ?_
  refine ⟨_, _, rfl, ?_, ?_⟩
  · rw [gyo_4 hO]
    refine ⟨((gu_n (by omega)).trans (gu_s)).trans (by first | rfl | (show (_ : Int) = _; simp only []; omega)), (gu_s).trans (by first | rfl | (show (_ : Int) = _; simp only []; omega)), fun q hq => ?_⟩
    dsimp only at hq ⊢
    have e1 : u + 1 + 1 - 2 = u := by omega
    have e2 : u + 1 + 1 - 1 = u + 1 := by omega
    rw [e1, e2]
    have hu := hS u (by omega)
    have hu1 := hS (u + 1) (by omega)
    by_cases hqu : q = u
    · subst hqu
      simp [gyU, gv, hu, hu1]
    · simp [gyU, gv, hqu]
      exact hS q (by omega)
  · exact ⟨fun p hp => (gu_other (by omega)).trans ((gu_other (by omega)).trans ((gu_other (by omega)).trans ((gu_other (by omega)).trans (rfl)))), fun q q1 q2 => ((gu_n (by omega)).trans ((gu_n (by omega)).trans ((gu_n (by omega)).trans ((gu_n (by omega)).trans (rfl))))), fun p hp => (gv_other (by omega)).trans (rfl)⟩

set_option maxRecDepth 10000 in
theorem c_X3_calculate_8 {l : Launch} {Γ : gC} {ad : Nat → Nat} {I : Nat → Nat → Int} {J : Nat → Nat → Int64} {d : Nat} {len : Nat} {T : Nat → Int × Int64} {v : Nat → Int} {k h hi : Nat} {S : Nat → Int64} (hk : gyok T len (k, h, S, hi)) (hin : gyIn I J (k, h, S, hi)) (hO : gyO T k = 8) (hd : 2 ≤ d) : gKv l Γ gm_X3_calculate d [.ref (gad (gSS ad) 32), .int (iv 8)] (gSS ad, I, J) (fun μ => ∃ I' J', μ = (gSS ad, I', J') ∧ gyIn I' J' (gyst T v (k, h, S, hi)) ∧ gyKp I J I' J') := by
  refine gKv_of gk_X3_calculate.1 (Nat.le_of_ble_eq_true rfl) ?_
  show gG l Γ gm_X3_calculate (d, 0, 0, 0, 0) 0 [(0, .ref (gad (gSS ad) 32)), (1, .int (iv 8))] [] _ _
  obtain ⟨hh, h7, hS⟩ := hin
  obtain ⟨k1, k2, k3, k4, k5, k6, k7, k8, k9, k10, k11⟩ := hk
  dsimp only at hh h7 hS k1 k2 k3 k4 k5 k6 k7 k8 k9 k10 k11
  obtain ⟨u, rfl⟩ : ∃ u, h = u + 1 := ⟨h - 1, by have := k7 (by omega); omega⟩
  refine gg_aload_n dX3_calculate_0 0 rfl ?_
  refine gg_callVl (own := RX3) (yt := gm_X3_pop) rfl gl_RX3_91 gk_X3_pop gr_X3_pop dX3_calculate_1 (c_X3_pop (d := d - 1) (t := u) (hh) (by omega)) sh_32 pl_32 (by decide) rfl rfl rfl (Nat.le_of_ble_eq_true rfl) (by show _ ≤ d; omega) ⟨Nat.le_refl _, Nat.le_refl _⟩ (fun e1 μ' hc => ?_)
  obtain ⟨rfl, rfl⟩ := hc
  refine gg_lstore_n (ls' := [(2, .long (J 37 u)), (0, .ref (gad (gSS ad) 32)), (1, .int (iv 8))]) dX3_calculate_4 rfl (by decide) rfl ?_
  refine gg_iload_n dX3_calculate_5 2 rfl ?_
  refine gg_tsw_out (tgt := 67) dX3_calculate_6 (by decide) (by decide) (by decide) ?_
  refine gg_aload_n dX3_calculate_67 1 rfl ?_
  refine gg_lload_n dX3_calculate_68 0 rfl ?_
  refine gg_callVv (own := RX3) (yt := gm_X3_push) rfl gl_RX3_98 gk_X3_push gr_X3_push dX3_calculate_69 (c_X3_push (d := d - 1) (t := u) (hi := hi) (x := (J 37 u)) (gu_s) (by omega) ((gu_n (by omega)).trans (h7)) (by omega) (by omega)) sh_32 pl_32 (by decide) rfl rfl rfl (Nat.le_of_ble_eq_true rfl) (by show _ ≤ d; omega) ⟨Nat.le_refl _, Nat.le_refl _⟩ (fun μ' hc => ?_)
  obtain rfl := hc
  refine gg_aload_n dX3_calculate_72 1 rfl ?_
  refine gg_lload_n dX3_calculate_73 0 rfl ?_
  refine gg_callVv (own := RX3) (yt := gm_X3_push) rfl gl_RX3_98 gk_X3_push gr_X3_push dX3_calculate_74 (c_X3_push (d := d - 1) (t := (u + 1)) (hi := (max hi (u + 1))) (x := (J 37 u)) ((gu_n (by omega)).trans (gu_s)) (by omega) (gu_s) (by omega) (by omega)) sh_32 pl_32 (by decide) rfl rfl rfl (Nat.le_of_ble_eq_true rfl) (by show _ ≤ d; omega) ⟨Nat.le_refl _, Nat.le_refl _⟩ (fun μ' hc => ?_)
  obtain rfl := hc
  refine gg_vretv dX3_calculate_77 rfl ⟨rfl, rfl⟩ ?_
  refine ⟨_, _, rfl, ?_, ?_⟩
  · rw [gyo_8 hO]
    refine ⟨((gu_n (by omega)).trans (gu_s)).trans (by first | rfl | (show (_ : Int) = _; simp only []; omega)), (gu_s).trans (by first | rfl | (show (_ : Int) = _; simp only []; omega)), fun q hq => ?_⟩
    dsimp only at hq ⊢
    have e1 : u + 1 - 1 = u := by omega
    rw [e1]
    have hu := hS u (by omega)
    by_cases hqu : q = u + 1
    · subst hqu
      simp [gyU, gv, hu]
    · by_cases hqv : q = u
      · subst hqv
        simp [gyU, gv, hu]
      · simp [gyU, gv, hqu, hqv]
        exact hS q (by omega)
  · exact ⟨fun p hp => (gu_other (by omega)).trans ((gu_other (by omega)).trans ((gu_other (by omega)).trans ((gu_other (by omega)).trans ((gu_other (by omega)).trans (rfl))))), fun q q1 q2 => ((gu_n (by omega)).trans ((gu_n (by omega)).trans ((gu_n (by omega)).trans ((gu_n (by omega)).trans ((gu_n (by omega)).trans (rfl)))))), fun p hp => (gv_other (by omega)).trans ((gv_other (by omega)).trans (rfl))⟩

set_option maxRecDepth 10000 in
theorem c_X3_lineBehind {l : Launch} {Γ : gC} {ad : Nat → Nat} {I : Nat → Nat → Int} {J : Nat → Nat → Int64} {d : Nat} {len : Nat} {T : Nat → Int × Int64} {v : Nat → Int} {k h hi : Nat} {S : Nat → Int64} {p : Nat} (hp : (gSS ad).2.1 p = (100, 8)) (hp' : p < (gSS ad).1) (hgk : gyok T len (k, h, S, hi)) (hin : gyIn I J (k, h, S, hi)) (hv : ∀ q, q < 8 → v q = I p q) (hlen : len ≤ 400) (hm : gMch 33 34 I J k (T k)) (hd : 4 ≤ d) : gKi l Γ gm_X3_lineBehind d [.ref (gad (gSS ad) 32), .int (iv (k : Int)), .ref (gad (gSS ad) p)] (gSS ad, I, J) (fun e μ => ∃ I' J', μ = (gSS ad, I', J') ∧ e = ((gyst T v (k, h, S, hi)).1 : Int) ∧ gyIn I' J' (gyst T v (k, h, S, hi)) ∧ gyKp I J I' J') := by
  refine gKi_of gk_X3_lineBehind.1 (Nat.le_of_ble_eq_true rfl) ?_
  show gG l Γ gm_X3_lineBehind (d, 0, 0, 0, 0) 0 [(0, .ref (gad (gSS ad) 32)), (1, .int (iv (k : Int))), (2, .ref (gad (gSS ad) p))] [] _ _
  have hgk2 := hgk
  obtain ⟨hh, h7, hS⟩ := hin
  obtain ⟨k1, k2, k3, k4, k5, k6, k7, k8, k9, k10, k11⟩ := hgk2
  dsimp only at hh h7 hS k1 k2 k3 k4 k5 k6 k7 k8 k9 k10 k11
  obtain ⟨c, hc⟩ : ∃ c, (T k).1 = c := ⟨_, rfl⟩
  have hOc : gyO T k = c / 10 % 10 := by unfold gyO; rw [hc]
  rw [hc] at k2 k3 k5 k6
  obtain ⟨oo, hoo⟩ : ∃ oo : Int, c / 10 % 10 = oo := ⟨_, rfl⟩
  refine gg_aload_n dX3_lineBehind_0 0 rfl ?_
  refine gg_getR (k' := 33) rfl gf_RX3_11 dX3_lineBehind_1 sh_32 pl_32 (by decide) (by decide) rr_32_0 ?_
  refine gg_iload_n dX3_lineBehind_4 1 rfl ?_
  refine gg_ialdj k dX3_lineBehind_5 sh_33 pl_33 (by decide) rfl (by omega) ?_
  refine gg_toI (b := c) (hm.1.trans hc) ?_
  refine gg_istore_n (ls' := [(3, .int (iv c)), (0, .ref (gad (gSS ad) 32)), (1, .int (iv (k : Int))), (2, .ref (gad (gSS ad) p))]) dX3_lineBehind_6 rfl (by decide) rfl ?_
  refine gg_iload_n dX3_lineBehind_7 0 rfl ?_
  refine gg_bipush dX3_lineBehind_8 (by decide) ?_
  refine gg_irem dX3_lineBehind_10 (by omega) ?_
  refine gg_bipush dX3_lineBehind_11 (by decide) ?_
  refine gg_idiv dX3_lineBehind_13 (by omega) ?_
  refine gg_toI (b := oo) (by omega) ?_
  obtain ho | ho | ho | ho | ho | ho | ho | ho | ho := (by omega : oo = 0 ∨ oo = 1 ∨ oo = 2 ∨ oo = 3 ∨ oo = 4 ∨ oo = 5 ∨ oo = 6 ∨ oo = 7 ∨ oo = 8)
  · refine gg_toI (b := 0) (by omega) ?_
    refine gg_istore (ls' := [(4, .int (iv 0)), (3, .int (iv c)), (0, .ref (gad (gSS ad) 32)), (1, .int (iv (k : Int))), (2, .ref (gad (gSS ad) p))]) dX3_lineBehind_14 (by decide) rfl ?_
    refine gg_iload dX3_lineBehind_16 0 rfl ?_
    refine gg_tsw (off := 46) (tgt := 64) dX3_lineBehind_18 (by decide) (by decide) rfl (by decide) ?_
    have hO : gyO T k = 0 := by omega
    refine gg_aload_n dX3_lineBehind_64 2 rfl ?_
    refine gg_aload_n dX3_lineBehind_65 2 rfl ?_
    refine gg_getR (k' := 34) rfl gf_RX3_15 dX3_lineBehind_66 sh_32 pl_32 (by decide) (by decide) rr_32_1 ?_
    refine gg_iload_n dX3_lineBehind_69 3 rfl ?_
    refine gg_laldj k dX3_lineBehind_70 sh_34 pl_34 (by decide) rfl (by omega) ?_
    refine gg_toL (b := (T k).2) (hm.2 (by omega)) ?_
    refine gg_callVv (own := RX3) (yt := gm_X3_push) rfl gl_RX3_98 gk_X3_push gr_X3_push dX3_lineBehind_71 (c_X3_push (d := d - 1) (t := h) (hi := hi) (x := (T k).2) (hh) (by omega) (h7) (by omega) (by omega)) sh_32 pl_32 (by decide) rfl rfl rfl (Nat.le_of_ble_eq_true rfl) (by show _ ≤ d; omega) ⟨Nat.le_refl _, Nat.le_refl _⟩ (fun μ' hc => ?_)
    obtain rfl := hc
    refine gg_goto (tgt := 143) dX3_lineBehind_74 (by decide) ?_
    refine gg_iload_n dX3_lineBehind_143 3 rfl ?_
    refine gg_iconst dX3_lineBehind_144 ?_
    refine gg_iadd dX3_lineBehind_145 ?_
    refine gg_ireti dX3_lineBehind_146 rfl ⟨rfl, rfl⟩ ?_
    refine ⟨_, _, rfl, ?_, ?_, ?_⟩
    · rw [gyo_0 hO]; show (k : Int) + 1 = ((k + 1 : Nat) : Int); omega
    · rw [gyo_0 hO]
      refine ⟨((gu_n (by omega)).trans (gu_s)).trans (by first | rfl | (show (_ : Int) = _; simp only []; omega)), (gu_s).trans (by first | rfl | (show (_ : Int) = _; simp only []; omega)), fun q hq => ?_⟩
      dsimp only at hq ⊢
      by_cases hqu : q = h
      · subst hqu
        simp [gyU, gv]
      · simp [gyU, gv, hqu]
        exact hS q (by omega)
    · exact ⟨fun p hp => (gu_other (by omega)).trans ((gu_other (by omega)).trans (rfl)), fun q q1 q2 => ((gu_n (by omega)).trans ((gu_n (by omega)).trans (rfl))), fun p hp => (gv_other (by omega)).trans (rfl)⟩
  · refine gg_toI (b := 1) (by omega) ?_
    refine gg_istore (ls' := [(4, .int (iv 1)), (3, .int (iv c)), (0, .ref (gad (gSS ad) 32)), (1, .int (iv (k : Int))), (2, .ref (gad (gSS ad) p))]) dX3_lineBehind_14 (by decide) rfl ?_
    refine gg_iload dX3_lineBehind_16 0 rfl ?_
    refine gg_tsw (off := 59) (tgt := 77) dX3_lineBehind_18 (by decide) (by decide) rfl (by decide) ?_
    have hO : gyO T k = 1 := by omega
    obtain ⟨a, ha⟩ : ∃ a : Nat, c % 10 = (a : Int) := ⟨(c % 10).toNat, by omega⟩
    have hta : (c % 10).toNat = a := by omega
    refine gg_aload_n dX3_lineBehind_77 2 rfl ?_
    refine gg_aload_n dX3_lineBehind_78 4 rfl ?_
    refine gg_iload_n dX3_lineBehind_79 1 rfl ?_
    refine gg_bipush dX3_lineBehind_80 (by decide) ?_
    refine gg_irem dX3_lineBehind_82 (by omega) ?_
    refine gg_toI (b := (a : Int)) ha ?_
    refine gg_i2l dX3_lineBehind_83 ?_
    refine gg_toL (b := Int64.ofNat a) (gi2l_nat (by omega)) ?_
    refine gg_callSNl (own := RX3) (host := RX9) (yt := gm_X8_valueOf) rfl (by decide +kernel) gk_X8_valueOf gr_X8_valueOf dX3_lineBehind_84 (c_X8_valueOf (d := d - 1) hp hp' (m0 := a) (by omega)) rfl rfl (Nat.le_of_ble_eq_true rfl) (by show _ ≤ d; omega) ⟨Nat.le_refl _, Nat.le_refl _⟩ (fun e2 μ' hc => ?_)
    obtain ⟨rfl, rfl⟩ := hc
    refine gg_callVv (own := RX3) (yt := gm_X3_push) rfl gl_RX3_98 gk_X3_push gr_X3_push dX3_lineBehind_87 (c_X3_push (d := d - 1) (t := h) (hi := hi) (x := (gi2l (I p a))) (hh) (by omega) (h7) (by omega) (by omega)) sh_32 pl_32 (by decide) rfl rfl rfl (Nat.le_of_ble_eq_true rfl) (by show _ ≤ d; omega) ⟨Nat.le_refl _, Nat.le_refl _⟩ (fun μ' hc => ?_)
    obtain rfl := hc
    refine gg_goto (tgt := 143) dX3_lineBehind_90 (by decide) ?_
    refine gg_iload_n dX3_lineBehind_143 3 rfl ?_
    refine gg_iconst dX3_lineBehind_144 ?_
    refine gg_iadd dX3_lineBehind_145 ?_
    refine gg_ireti dX3_lineBehind_146 rfl ⟨rfl, rfl⟩ ?_
    refine ⟨_, _, rfl, ?_, ?_, ?_⟩
    · rw [gyo_1 hO]; show (k : Int) + 1 = ((k + 1 : Nat) : Int); omega
    · rw [gyo_1 hO]
      refine ⟨((gu_n (by omega)).trans (gu_s)).trans (by first | rfl | (show (_ : Int) = _; simp only []; omega)), (gu_s).trans (by first | rfl | (show (_ : Int) = _; simp only []; omega)), fun q hq => ?_⟩
      dsimp only at hq ⊢
      rw [hc, hta, hv a (by omega)]
      by_cases hqu : q = h
      · subst hqu
        simp [gyU, gv]
      · simp [gyU, gv, hqu]
        exact hS q (by omega)
    · exact ⟨fun p hp => (gu_other (by omega)).trans ((gu_other (by omega)).trans (rfl)), fun q q1 q2 => ((gu_n (by omega)).trans ((gu_n (by omega)).trans (rfl))), fun p hp => (gv_other (by omega)).trans (rfl)⟩
  · refine gg_toI (b := 2) (by omega) ?_
    refine gg_istore (ls' := [(4, .int (iv 2)), (3, .int (iv c)), (0, .ref (gad (gSS ad) 32)), (1, .int (iv (k : Int))), (2, .ref (gad (gSS ad) p))]) dX3_lineBehind_14 (by decide) rfl ?_
    refine gg_iload dX3_lineBehind_16 0 rfl ?_
    refine gg_tsw (off := 119) (tgt := 137) dX3_lineBehind_18 (by decide) (by decide) rfl (by decide) ?_
    have hO : gyO T k = 2 := by omega
    refine gg_aload_n dX3_lineBehind_137 2 rfl ?_
    refine gg_iload dX3_lineBehind_138 0 rfl ?_
    refine gg_callVv (own := RX3) (yt := gm_X3_calculate) rfl gl_RX3_112 gk_X3_calculate gr_X3_calculate dX3_lineBehind_140 (c_X3_calculate_2 (d := d - 1) (v := v) hgk ⟨hh, h7, hS⟩ hO (by omega)) sh_32 pl_32 (by decide) rfl rfl rfl (Nat.le_of_ble_eq_true rfl) (by show _ ≤ d; omega) ⟨Nat.le_refl _, Nat.le_refl _⟩ (fun μ' hc => ?_)
    obtain ⟨I2, J2, rfl, hi2, hk2⟩ := hc
    refine gg_iload_n dX3_lineBehind_143 3 rfl ?_
    refine gg_iconst dX3_lineBehind_144 ?_
    refine gg_iadd dX3_lineBehind_145 ?_
    refine gg_ireti dX3_lineBehind_146 rfl ⟨rfl, rfl⟩ ?_
    exact ⟨I2, J2, rfl, by rw [gyo_2 hO]; show (k : Int) + 1 = ((k + 1 : Nat) : Int); omega, hi2, hk2⟩
  · refine gg_toI (b := 3) (by omega) ?_
    refine gg_istore (ls' := [(4, .int (iv 3)), (3, .int (iv c)), (0, .ref (gad (gSS ad) 32)), (1, .int (iv (k : Int))), (2, .ref (gad (gSS ad) p))]) dX3_lineBehind_14 (by decide) rfl ?_
    refine gg_iload dX3_lineBehind_16 0 rfl ?_
    refine gg_tsw (off := 119) (tgt := 137) dX3_lineBehind_18 (by decide) (by decide) rfl (by decide) ?_
    have hO : gyO T k = 3 := by omega
    refine gg_aload_n dX3_lineBehind_137 2 rfl ?_
    refine gg_iload dX3_lineBehind_138 0 rfl ?_
    refine gg_callVv (own := RX3) (yt := gm_X3_calculate) rfl gl_RX3_112 gk_X3_calculate gr_X3_calculate dX3_lineBehind_140 (c_X3_calculate_3 (d := d - 1) (v := v) hgk ⟨hh, h7, hS⟩ hO (by omega)) sh_32 pl_32 (by decide) rfl rfl rfl (Nat.le_of_ble_eq_true rfl) (by show _ ≤ d; omega) ⟨Nat.le_refl _, Nat.le_refl _⟩ (fun μ' hc => ?_)
    obtain ⟨I2, J2, rfl, hi2, hk2⟩ := hc
    refine gg_iload_n dX3_lineBehind_143 3 rfl ?_
    refine gg_iconst dX3_lineBehind_144 ?_
    refine gg_iadd dX3_lineBehind_145 ?_
    refine gg_ireti dX3_lineBehind_146 rfl ⟨rfl, rfl⟩ ?_
    exact ⟨I2, J2, rfl, by rw [gyo_3 hO]; show (k : Int) + 1 = ((k + 1 : Nat) : Int); omega, hi2, hk2⟩
  · refine gg_toI (b := 4) (by omega) ?_
    refine gg_istore (ls' := [(4, .int (iv 4)), (3, .int (iv c)), (0, .ref (gad (gSS ad) 32)), (1, .int (iv (k : Int))), (2, .ref (gad (gSS ad) p))]) dX3_lineBehind_14 (by decide) rfl ?_
    refine gg_iload dX3_lineBehind_16 0 rfl ?_
    refine gg_tsw (off := 119) (tgt := 137) dX3_lineBehind_18 (by decide) (by decide) rfl (by decide) ?_
    have hO : gyO T k = 4 := by omega
    refine gg_aload_n dX3_lineBehind_137 2 rfl ?_
    refine gg_iload dX3_lineBehind_138 0 rfl ?_
    refine gg_callVv (own := RX3) (yt := gm_X3_calculate) rfl gl_RX3_112 gk_X3_calculate gr_X3_calculate dX3_lineBehind_140 (c_X3_calculate_4 (d := d - 1) (v := v) hgk ⟨hh, h7, hS⟩ hO (by omega)) sh_32 pl_32 (by decide) rfl rfl rfl (Nat.le_of_ble_eq_true rfl) (by show _ ≤ d; omega) ⟨Nat.le_refl _, Nat.le_refl _⟩ (fun μ' hc => ?_)
    obtain ⟨I2, J2, rfl, hi2, hk2⟩ := hc
    refine gg_iload_n dX3_lineBehind_143 3 rfl ?_
    refine gg_iconst dX3_lineBehind_144 ?_
    refine gg_iadd dX3_lineBehind_145 ?_
    refine gg_ireti dX3_lineBehind_146 rfl ⟨rfl, rfl⟩ ?_
    exact ⟨I2, J2, rfl, by rw [gyo_4 hO]; show (k : Int) + 1 = ((k + 1 : Nat) : Int); omega, hi2, hk2⟩
  · refine gg_toI (b := 5) (by omega) ?_
    refine gg_istore (ls' := [(4, .int (iv 5)), (3, .int (iv c)), (0, .ref (gad (gSS ad) 32)), (1, .int (iv (k : Int))), (2, .ref (gad (gSS ad) p))]) dX3_lineBehind_14 (by decide) rfl ?_
    refine gg_iload dX3_lineBehind_16 0 rfl ?_
    refine gg_tsw (off := 75) (tgt := 93) dX3_lineBehind_18 (by decide) (by decide) rfl (by decide) ?_
    have hO : gyO T k = 5 := by omega
    have hh1 := k7 (by omega)
    obtain ⟨u, rfl⟩ : ∃ u, h = u + 1 := ⟨h - 1, by omega⟩
    obtain ⟨a, ha⟩ : ∃ a : Nat, c % 10 = (a : Int) := ⟨(c % 10).toNat, by omega⟩
    have hta : (c % 10).toNat = a := by omega
    refine gg_aload_n dX3_lineBehind_93 2 rfl ?_
    refine gg_aload_n dX3_lineBehind_94 2 rfl ?_
    refine gg_callVl (own := RX3) (yt := gm_X3_pop) rfl gl_RX3_91 gk_X3_pop gr_X3_pop dX3_lineBehind_95 (c_X3_pop (d := d - 1) (t := u) (hh) (by omega)) sh_32 pl_32 (by decide) rfl rfl rfl (Nat.le_of_ble_eq_true rfl) (by show _ ≤ d; omega) ⟨Nat.le_refl _, Nat.le_refl _⟩ (fun e7 μ' hc => ?_)
    obtain ⟨rfl, rfl⟩ := hc
    refine gg_iload_n dX3_lineBehind_98 1 rfl ?_
    refine gg_bipush dX3_lineBehind_99 (by decide) ?_
    refine gg_irem dX3_lineBehind_101 (by omega) ?_
    refine gg_toI (b := (a : Int)) ha ?_
    refine gg_i2l dX3_lineBehind_102 ?_
    refine gg_toL (b := Int64.ofNat a) (gi2l_nat (by omega)) ?_
    refine gg_callSl (own := RX3) (yt := gm_X8_power) rfl gl_RX3_108 gk_X8_power gr_X8_power dX3_lineBehind_103 (c_X8_power (d := d - 1) (m0 := a) (by omega)) rfl rfl (Nat.le_of_ble_eq_true rfl) (by show _ ≤ d; omega) ⟨Nat.le_refl _, Nat.le_refl _⟩ (fun e8 μ' hc => ?_)
    obtain ⟨rfl, rfl⟩ := hc
    refine gg_callVv (own := RX3) (yt := gm_X3_push) rfl gl_RX3_98 gk_X3_push gr_X3_push dX3_lineBehind_106 (c_X3_push (d := d - 1) (t := u) (hi := hi) (x := (gpow (J 37 u) a)) (gu_s) (by omega) ((gu_n (by omega)).trans (h7)) (by omega) (by omega)) sh_32 pl_32 (by decide) rfl rfl rfl (Nat.le_of_ble_eq_true rfl) (by show _ ≤ d; omega) ⟨Nat.le_refl _, Nat.le_refl _⟩ (fun μ' hc => ?_)
    obtain rfl := hc
    refine gg_goto (tgt := 143) dX3_lineBehind_109 (by decide) ?_
    refine gg_iload_n dX3_lineBehind_143 3 rfl ?_
    refine gg_iconst dX3_lineBehind_144 ?_
    refine gg_iadd dX3_lineBehind_145 ?_
    refine gg_ireti dX3_lineBehind_146 rfl ⟨rfl, rfl⟩ ?_
    refine ⟨_, _, rfl, ?_, ?_, ?_⟩
    · rw [gyo_5 hO]; show (k : Int) + 1 = ((k + 1 : Nat) : Int); omega
    · rw [gyo_5 hO]
      refine ⟨((gu_n (by omega)).trans (gu_s)).trans (by first | rfl | (show (_ : Int) = _; simp only []; omega)), (gu_s).trans (by first | rfl | (show (_ : Int) = _; simp only []; omega)), fun q hq => ?_⟩
      dsimp only at hq ⊢
      have e1 : u + 1 - 1 = u := by omega
      rw [hc, hta, e1]
      have hu := hS u (by omega)
      by_cases hqu : q = u
      · subst hqu
        simp [gyU, gv, hu]
      · simp [gyU, gv, hqu]
        exact hS q (by omega)
    · exact ⟨fun p hp => (gu_other (by omega)).trans ((gu_other (by omega)).trans ((gu_other (by omega)).trans (rfl))), fun q q1 q2 => ((gu_n (by omega)).trans ((gu_n (by omega)).trans ((gu_n (by omega)).trans (rfl)))), fun p hp => (gv_other (by omega)).trans (rfl)⟩
  · refine gg_toI (b := 6) (by omega) ?_
    refine gg_istore (ls' := [(4, .int (iv 6)), (3, .int (iv c)), (0, .ref (gad (gSS ad) 32)), (1, .int (iv (k : Int))), (2, .ref (gad (gSS ad) p))]) dX3_lineBehind_14 (by decide) rfl ?_
    refine gg_iload dX3_lineBehind_16 0 rfl ?_
    refine gg_tsw (off := 94) (tgt := 112) dX3_lineBehind_18 (by decide) (by decide) rfl (by decide) ?_
    have hO : gyO T k = 6 := by omega
    have hh1 := k7 (by omega)
    obtain ⟨u, rfl⟩ : ∃ u, h = u + 1 := ⟨h - 1, by omega⟩
    refine gg_aload_n dX3_lineBehind_112 2 rfl ?_
    refine gg_callVl (own := RX3) (yt := gm_X3_pop) rfl gl_RX3_91 gk_X3_pop gr_X3_pop dX3_lineBehind_113 (c_X3_pop (d := d - 1) (t := u) (hh) (by omega)) sh_32 pl_32 (by decide) rfl rfl rfl (Nat.le_of_ble_eq_true rfl) (by show _ ≤ d; omega) ⟨Nat.le_refl _, Nat.le_refl _⟩ (fun e10 μ' hc => ?_)
    obtain ⟨rfl, rfl⟩ := hc
    refine gg_lconstv (x := 0) dX3_lineBehind_116 rfl ?_
    refine gg_lcmp_ne (tgt := 128) dX3_lineBehind_117 dX3_lineBehind_118 (by decide) (fun hz => ?_) (fun hz => ?_)
    · refine gg_iload_n dX3_lineBehind_128 3 rfl ?_
      refine gg_iconst dX3_lineBehind_129 ?_
      refine gg_iadd dX3_lineBehind_130 ?_
      refine gg_ireti dX3_lineBehind_131 rfl ⟨rfl, rfl⟩ ?_
      refine ⟨_, _, rfl, ?_, ?_, ?_⟩
      · rw [gyo_6f hO (by rw [Nat.add_sub_cancel, ← hS u (by omega)]; exact hz)]; show (k : Int) + 1 = ((k + 1 : Nat) : Int); omega
      · rw [gyo_6f hO (by rw [Nat.add_sub_cancel, ← hS u (by omega)]; exact hz)]
        refine ⟨(gu_s).trans (by first | rfl | (show (_ : Int) = _; simp only []; omega)), ((gu_n (by omega)).trans (h7)).trans (by first | rfl | (show (_ : Int) = _; simp only []; omega)), fun q hq => ?_⟩
        dsimp only at hq ⊢
        exact hS q (by omega)
      · exact ⟨fun p hp => (gu_other (by omega)).trans (rfl), fun q q1 q2 => ((gu_n (by omega)).trans (rfl)), fun p hp => rfl⟩
    · refine gg_iload_n dX3_lineBehind_121 1 rfl ?_
      refine gg_bipush dX3_lineBehind_122 (by decide) ?_
      refine gg_idiv dX3_lineBehind_124 (by omega) ?_
      refine gg_goto (tgt := 131) dX3_lineBehind_125 (by decide) ?_
      refine gg_ireti dX3_lineBehind_131 rfl ⟨rfl, rfl⟩ ?_
      refine ⟨_, _, rfl, ?_, ?_, ?_⟩
      · rw [gyo_6t hO (by rw [Nat.add_sub_cancel, ← hS u (by omega)]; exact hz)]; show c / 100 = (((T k).1 / 100).toNat : Int); omega
      · rw [gyo_6t hO (by rw [Nat.add_sub_cancel, ← hS u (by omega)]; exact hz)]
        refine ⟨(gu_s).trans (by first | rfl | (show (_ : Int) = _; simp only []; omega)), ((gu_n (by omega)).trans (h7)).trans (by first | rfl | (show (_ : Int) = _; simp only []; omega)), fun q hq => ?_⟩
        dsimp only at hq ⊢
        exact hS q (by omega)
      · exact ⟨fun p hp => (gu_other (by omega)).trans (rfl), fun q q1 q2 => ((gu_n (by omega)).trans (rfl)), fun p hp => rfl⟩
  · refine gg_toI (b := 7) (by omega) ?_
    refine gg_istore (ls' := [(4, .int (iv 7)), (3, .int (iv c)), (0, .ref (gad (gSS ad) 32)), (1, .int (iv (k : Int))), (2, .ref (gad (gSS ad) p))]) dX3_lineBehind_14 (by decide) rfl ?_
    refine gg_iload dX3_lineBehind_16 0 rfl ?_
    refine gg_tsw (off := 114) (tgt := 132) dX3_lineBehind_18 (by decide) (by decide) rfl (by decide) ?_
    have hO : gyO T k = 7 := by omega
    refine gg_iload_n dX3_lineBehind_132 1 rfl ?_
    refine gg_bipush dX3_lineBehind_133 (by decide) ?_
    refine gg_idiv dX3_lineBehind_135 (by omega) ?_
    refine gg_ireti dX3_lineBehind_136 rfl ⟨rfl, rfl⟩ ?_
    refine ⟨_, _, rfl, ?_, ?_, ?_⟩
    · rw [gyo_7 hO]; show c / 100 = (((T k).1 / 100).toNat : Int); omega
    · rw [gyo_7 hO]
      refine ⟨(hh).trans (by first | rfl | (show (_ : Int) = _; simp only []; omega)), (h7).trans (by first | rfl | (show (_ : Int) = _; simp only []; omega)), fun q hq => ?_⟩
      dsimp only at hq ⊢
      exact hS q (by omega)
    · exact ⟨fun p hp => rfl, fun q q1 q2 => (rfl), fun p hp => rfl⟩
  · refine gg_toI (b := 8) (by omega) ?_
    refine gg_istore (ls' := [(4, .int (iv 8)), (3, .int (iv c)), (0, .ref (gad (gSS ad) 32)), (1, .int (iv (k : Int))), (2, .ref (gad (gSS ad) p))]) dX3_lineBehind_14 (by decide) rfl ?_
    refine gg_iload dX3_lineBehind_16 0 rfl ?_
    refine gg_tsw_out (tgt := 137) dX3_lineBehind_18 (by decide) (by decide) (by decide) ?_
    have hO : gyO T k = 8 := by omega
    refine gg_aload_n dX3_lineBehind_137 2 rfl ?_
    refine gg_iload dX3_lineBehind_138 0 rfl ?_
    refine gg_callVv (own := RX3) (yt := gm_X3_calculate) rfl gl_RX3_112 gk_X3_calculate gr_X3_calculate dX3_lineBehind_140 (c_X3_calculate_8 (d := d - 1) (v := v) hgk ⟨hh, h7, hS⟩ hO (by omega)) sh_32 pl_32 (by decide) rfl rfl rfl (Nat.le_of_ble_eq_true rfl) (by show _ ≤ d; omega) ⟨Nat.le_refl _, Nat.le_refl _⟩ (fun μ' hc => ?_)
    obtain ⟨I2, J2, rfl, hi2, hk2⟩ := hc
    refine gg_iload_n dX3_lineBehind_143 3 rfl ?_
    refine gg_iconst dX3_lineBehind_144 ?_
    refine gg_iadd dX3_lineBehind_145 ?_
    refine gg_ireti dX3_lineBehind_146 rfl ⟨rfl, rfl⟩ ?_
    exact ⟨I2, J2, rfl, by rw [gyo_8 hO]; show (k : Int) + 1 = ((k + 1 : Nat) : Int); omega, hi2, hk2⟩

/-- what running tells: the worth, how high -/
noncomputable def gyW (n : Nat) (K : Nat → Nat) (N : Nat → Int64) (Z : Nat → Nat) (v : Nat → Int) : Int64 := (gyE n K N Z v (gyM n K N Z v)).2.2.1 0
noncomputable def gyHi (n : Nat) (K : Nat → Nat) (N : Nat → Int64) (Z : Nat → Nat) (v : Nat → Int) : Nat := (gyE n K N Z v (gyM n K N Z v)).2.2.2
theorem gyE_s (n : Nat) (K : Nat → Nat) (N : Nat → Int64) (Z : Nat → Nat) (v : Nat → Int) (t : Nat) : gyE n K N Z v (t + 1) = gyst (gCv n K N Z 0 0) (gv8 v) (gyE n K N Z v t) := gyit_s t _
theorem gv8_at {v : Nat → Int} : ∀ q, q < 8 → gv8 v q = v q := fun q hq => by unfold gv8; rw [if_pos hq]
set_option maxRecDepth 10000 in
theorem w_X3_execute {l : Launch} {Γ : gC} {ad : Nat → Nat} {I0 : Nat → Nat → Int} {J0 : Nat → Nat → Int64} {d : Nat} {K : Nat → Nat} {N : Nat → Int64} {Z : Nat → Nat} {n : Nat} (hW : gWf n K N Z) (hn0 : 0 < n) {p : Nat} (hp : (gSS ad).2.1 p = (100, 8)) (hp' : p < (gSS ad).1) (hp32 : p ≠ 32) (hsz : I0 32 2 = (gLc n K Z 0 : Int)) (hL : ∀ q, q < gLc n K Z 0 → gMch 33 34 I0 J0 q (gCv n K N Z 0 0 q)) (hd : 5 ≤ d) : ∀ (m : Nat) (t : Nat) (I : Nat → Nat → Int) (J : Nat → Nat → Int64), gyM n K N Z (I0 p) + 1 - t < m → (t ≤ gyM n K N Z (I0 p)) → (∀ p, p ≠ 32 → I p = I0 p) → (∀ q, q ≠ 6 → q ≠ 7 → q ≠ 8 → I 32 q = I0 32 q) → (∀ p, p ≠ 37 → J p = J0 p) → (I 32 8 = (t : Int)) → (gyIn I J (gyE n K N Z (I0 p) t)) → gG l Γ gm_X3_execute (d, 0, 0, 0, 0) 17 [(2, .int (iv (((gyE n K N Z (I0 p) t)).1 : Int))), (0, .ref (gad (gSS ad) 32)), (1, .ref (gad (gSS ad) p))] [] (gSS ad, I, J) (gDl (fun e μ => ∃ I1 J1, μ = (gSS ad, I1, J1) ∧ (∀ p, p ≠ 32 → I1 p = I0 p) ∧ (∀ q, q ≠ 6 → q ≠ 7 → q ≠ 8 → I1 32 q = I0 32 q) ∧ (∀ p, p ≠ 37 → J1 p = J0 p) ∧ I1 32 7 = (gyHi n K N Z (I0 p) : Int) ∧ I1 32 8 = (gyM n K N Z (I0 p) : Int) ∧ e = gyW n K N Z (I0 p))) := by
  intro m
  induction m with
  | zero => intros; omega
  | succ m ih =>
    intro t I J hm ht hI hI2 hJ h8 hin
    obtain ⟨hM1, hM2, hM3, hM4⟩ := gyM_is hW hn0 (I0 p)
    have hl4 : gLc n K Z 0 ≤ 400 := by have := (gL_rng hW 0 hn0).2; have := hW.2.1 hn0; have := hW.1; omega
    have hk400 : (gyE n K N Z (I0 p) t).1 ≤ gLc n K Z 0 := by
      by_cases hlt : t < gyM n K N Z (I0 p)
      · exact Nat.le_of_lt (hM2 t hlt).1
      · rw [show t = gyM n K N Z (I0 p) by omega, hM3]; exact Nat.le_refl _
    refine gg_aload_n dX3_execute_17 1 rfl ?_
    refine gg_getI rfl gf_RX3_32 dX3_execute_18 sh_32 pl_32 (by decide) (by decide) ?_
    refine gg_toI (b := (t : Int)) h8 ?_
    refine gg_sipush dX3_execute_21 (by decide) ?_
    refine gg_icmp_ge (tgt := 59) dX3_execute_24 (by decide) (by omega) (fun hb => ?_) (fun hb => ?_)
    · have hte : t = gyM n K N Z (I0 p) := by omega
      refine gg_aload_n dX3_execute_59 1 rfl ?_
      refine gg_callVl (own := RX3) (yt := gm_X3_pop) rfl gl_RX3_91 gk_X3_pop gr_X3_pop dX3_execute_60 (c_X3_pop (d := d - 1) (t := 0) (by have e := hin.1; rw [hte, hM4] at e; exact e) (by omega)) sh_32 pl_32 (by decide) rfl rfl rfl (Nat.le_of_ble_eq_true rfl) (by show _ ≤ d; omega) ⟨Nat.le_refl _, Nat.le_refl _⟩ (fun e1 μ' hc => ?_)
      obtain ⟨rfl, rfl⟩ := hc
      refine gg_lretl dX3_execute_63 rfl ⟨rfl, rfl⟩ ?_
      subst hte
      exact ⟨_, J, rfl, fun p hp => (gu_other hp).trans (hI p hp), fun q q1 q2 q3 => (gu_n (by omega)).trans (hI2 q q1 q2 q3), hJ, (gu_n (by omega)).trans hin.2.1, (gu_n (by omega)).trans h8, hin.2.2 0 (by rw [hM4]; omega)⟩
    · refine gg_iload_n dX3_execute_27 0 rfl ?_
      refine gg_if_lt_f (tgt := 59) dX3_execute_28 (by decide) (by omega) (by omega) ?_
      refine gg_iload_n dX3_execute_31 0 rfl ?_
      refine gg_aload_n dX3_execute_32 1 rfl ?_
      refine gg_getI rfl gf_RX3_28 dX3_execute_33 sh_32 pl_32 (by decide) (by decide) ?_
      refine gg_toI (b := (gLc n K Z 0 : Int)) (by rw [hI2 2 (by omega) (by omega) (by omega)]; exact hsz) ?_
      refine gg_icmp_ge (tgt := 59) dX3_execute_36 (by decide) (by omega) (fun hb2 => ?_) (fun hb2 => ?_)
      · have hte : t = gyM n K N Z (I0 p) := by
          by_cases hlt : t < gyM n K N Z (I0 p)
          · have := (hM2 t hlt).1; omega
          · omega
        refine gg_aload_n dX3_execute_59 1 rfl ?_
        refine gg_callVl (own := RX3) (yt := gm_X3_pop) rfl gl_RX3_91 gk_X3_pop gr_X3_pop dX3_execute_60 (c_X3_pop (d := d - 1) (t := 0) (by have e := hin.1; rw [hte, hM4] at e; exact e) (by omega)) sh_32 pl_32 (by decide) rfl rfl rfl (Nat.le_of_ble_eq_true rfl) (by show _ ≤ d; omega) ⟨Nat.le_refl _, Nat.le_refl _⟩ (fun e2 μ' hc => ?_)
        obtain ⟨rfl, rfl⟩ := hc
        refine gg_lretl dX3_execute_63 rfl ⟨rfl, rfl⟩ ?_
        subst hte
        exact ⟨_, J, rfl, fun p hp => (gu_other hp).trans (hI p hp), fun q q1 q2 q3 => (gu_n (by omega)).trans (hI2 q q1 q2 q3), hJ, (gu_n (by omega)).trans hin.2.1, (gu_n (by omega)).trans h8, hin.2.2 0 (by rw [hM4]; omega)⟩
      · have hlt : t < gyM n K N Z (I0 p) := by
          by_cases hlt : t < gyM n K N Z (I0 p)
          · exact hlt
          · have hte : t = gyM n K N Z (I0 p) := by omega
            rw [hte, hM3] at hb2
            omega
        refine gg_aload_n dX3_execute_39 1 rfl ?_
        refine gg_dup dX3_execute_40 rfl ?_
        refine gg_getI rfl gf_RX3_32 dX3_execute_41 sh_32 pl_32 (by decide) (by decide) ?_
        refine gg_toI (b := (t : Int)) h8 ?_
        refine gg_iconst dX3_execute_44 ?_
        refine gg_iadd dX3_execute_45 ?_
        refine gg_toI (b := ((t + 1 : Nat) : Int)) (by omega) ?_
        refine gg_putI rfl gf_RX3_32 dX3_execute_46 sh_32 pl_32 (by decide) (by decide) (by decide) (gfit_i _) ?_
        refine gg_memI (fun I2 hI2' => ?_)
        refine gg_aload_n dX3_execute_49 1 rfl ?_
        refine gg_iload_n dX3_execute_50 0 rfl ?_
        refine gg_aload_n dX3_execute_51 2 rfl ?_
        refine gg_callVi (own := RX3) (yt := gm_X3_lineBehind) rfl gl_RX3_87 gk_X3_lineBehind gr_X3_lineBehind dX3_execute_52 (c_X3_lineBehind (d := d - 1) (len := gLc n K Z 0) (T := gCv n K N Z 0 0) (v := gv8 (I0 p)) hp hp' (hM2 t hlt) (by rw [hI2']; exact hin) (fun q hq => by rw [hI2', gv8_at q hq, gu_other hp32, hI p hp32]) hl4 (by rw [hI2', gMch, gu_other (by omega), hI 33 (by omega), hJ 34 (by omega)]; exact hL _ (hM2 t hlt).1) (by omega)) sh_32 pl_32 (by decide) rfl rfl rfl (Nat.le_of_ble_eq_true rfl) (by show _ ≤ d; omega) ⟨Nat.le_refl _, Nat.le_refl _⟩ (fun e3 μ' hc => ?_)
        obtain ⟨I3, J3, rfl, rfl, hin3, hk3⟩ := hc
        refine gg_istore_n (ls' := [(2, .int (iv ((gyst (gCv n K N Z 0 0) (gv8 (I0 p)) (gyE n K N Z (I0 p) t)).1 : Int))), (0, .ref (gad (gSS ad) 32)), (1, .ref (gad (gSS ad) p))]) dX3_execute_55 rfl (by decide) rfl ?_
        refine gg_goto (tgt := 17) dX3_execute_56 (by decide) ?_
        rw [← gyE_s]
        refine ih (t + 1) I3 J3 (by omega) (by omega) (fun p hp => by rw [hk3.1 p hp, hI2', gu_other hp]; exact hI p hp) (fun q q1 q2 q3 => by rw [hk3.2.1 q q1 q2, hI2', gu_n (by omega)]; exact hI2 q q1 q2 q3) (fun p hp => by rw [hk3.2.2 p hp]; exact hJ p hp) (by rw [hk3.2.1 8 (by omega) (by omega), hI2']; exact gu_s) (by rw [gyE_s]; exact hin3)

set_option maxRecDepth 10000 in
theorem c_X3_execute {l : Launch} {Γ : gC} {ad : Nat → Nat} {I : Nat → Nat → Int} {J : Nat → Nat → Int64} {d : Nat} {K : Nat → Nat} {N : Nat → Int64} {Z : Nat → Nat} {n : Nat} (hW : gWf n K N Z) (hn0 : 0 < n) {p : Nat} (hp : (gSS ad).2.1 p = (100, 8)) (hp' : p < (gSS ad).1) (hp32 : p ≠ 32) (hsz : I 32 2 = (gLc n K Z 0 : Int)) (hL : ∀ q, q < gLc n K Z 0 → gMch 33 34 I J q (gCv n K N Z 0 0 q)) (hd : 5 ≤ d) : gKl l Γ gm_X3_execute d [.ref (gad (gSS ad) 32), .ref (gad (gSS ad) p)] (gSS ad, I, J) (fun e μ => ∃ I1 J1, μ = (gSS ad, I1, J1) ∧ (∀ p, p ≠ 32 → I1 p = I p) ∧ (∀ q, q ≠ 6 → q ≠ 7 → q ≠ 8 → I1 32 q = I 32 q) ∧ (∀ p, p ≠ 37 → J1 p = J p) ∧ I1 32 7 = (gyHi n K N Z (I p) : Int) ∧ I1 32 8 = (gyM n K N Z (I p) : Int) ∧ e = gyW n K N Z (I p)) := by
  refine gKl_of gk_X3_execute.1 (Nat.le_of_ble_eq_true rfl) ?_
  show gG l Γ gm_X3_execute (d, 0, 0, 0, 0) 0 [(0, .ref (gad (gSS ad) 32)), (1, .ref (gad (gSS ad) p))] [] _ _
  refine gg_aload_n dX3_execute_0 0 rfl ?_
  refine gg_iconst dX3_execute_1 ?_
  refine gg_putI rfl gf_RX3_84 dX3_execute_2 sh_32 pl_32 (by decide) (by decide) (by decide) (gfit_i _) ?_
  refine gg_aload_n dX3_execute_5 0 rfl ?_
  refine gg_iconst dX3_execute_6 ?_
  refine gg_putI rfl gf_RX3_35 dX3_execute_7 sh_32 pl_32 (by decide) (by decide) (by decide) (gfit_i _) ?_
  refine gg_aload_n dX3_execute_10 0 rfl ?_
  refine gg_iconst dX3_execute_11 ?_
  refine gg_putI rfl gf_RX3_32 dX3_execute_12 sh_32 pl_32 (by decide) (by decide) (by decide) (gfit_i _) ?_
  refine gg_iconst dX3_execute_15 ?_
  refine gg_istore_n (ls' := [(2, .int (iv 0)), (0, .ref (gad (gSS ad) 32)), (1, .ref (gad (gSS ad) p))]) dX3_execute_16 rfl (by decide) rfl ?_
  refine gg_sub [0, 1, 2] rfl ?_
  refine gG_post (w_X3_execute (I0 := I) (J0 := J) hW hn0 hp hp' hp32 hsz hL hd (gyM n K N Z (I p) + 2) 0 _ J (by omega) (by omega) (fun p hp => (gu_other hp).trans ((gu_other hp).trans (gu_other hp))) (fun q q1 q2 q3 => (gu_n (by omega)).trans ((gu_n (by omega)).trans (gu_n (by omega)))) (fun _ _ => rfl) gu_s ⟨(gu_n (by omega)).trans ((gu_n (by omega)).trans gu_s), (gu_n (by omega)).trans gu_s, fun q hq => absurd hq (Nat.not_lt_zero _)⟩) (fun r μ h => h)

set_option maxRecDepth 10000 in
theorem c_X3_lineCount {l : Launch} {Γ : gC} {ad : Nat → Nat} {I : Nat → Nat → Int} {J : Nat → Nat → Int64} {d : Nat}  : gKi l Γ gm_X3_lineCount d [.ref (gad (gSS ad) 32)] (gSS ad, I, J) (fun e μ => μ = (gSS ad, I, J) ∧ e = I 32 2) := by
  refine gKi_of gk_X3_lineCount.1 (Nat.le_of_ble_eq_true rfl) ?_
  show gG l Γ gm_X3_lineCount (d, 0, 0, 0, 0) 0 [(0, .ref (gad (gSS ad) 32))] [] _ _
  refine gg_aload_n dX3_lineCount_0 0 rfl ?_
  refine gg_getI rfl gf_RX3_28 dX3_lineCount_1 sh_32 pl_32 (by decide) (by decide) ?_
  refine gg_ireti dX3_lineCount_4 rfl ⟨rfl, rfl⟩ ?_
  exact ⟨rfl, rfl⟩

set_option maxRecDepth 10000 in
theorem c_X3_steps {l : Launch} {Γ : gC} {ad : Nat → Nat} {I : Nat → Nat → Int} {J : Nat → Nat → Int64} {d : Nat}  : gKi l Γ gm_X3_steps d [.ref (gad (gSS ad) 32)] (gSS ad, I, J) (fun e μ => μ = (gSS ad, I, J) ∧ e = I 32 8) := by
  refine gKi_of gk_X3_steps.1 (Nat.le_of_ble_eq_true rfl) ?_
  show gG l Γ gm_X3_steps (d, 0, 0, 0, 0) 0 [(0, .ref (gad (gSS ad) 32))] [] _ _
  refine gg_aload_n dX3_steps_0 0 rfl ?_
  refine gg_getI rfl gf_RX3_32 dX3_steps_1 sh_32 pl_32 (by decide) (by decide) ?_
  refine gg_ireti dX3_steps_4 rfl ⟨rfl, rfl⟩ ?_
  exact ⟨rfl, rfl⟩

set_option maxRecDepth 10000 in
theorem c_X3_high {l : Launch} {Γ : gC} {ad : Nat → Nat} {I : Nat → Nat → Int} {J : Nat → Nat → Int64} {d : Nat}  : gKi l Γ gm_X3_high d [.ref (gad (gSS ad) 32)] (gSS ad, I, J) (fun e μ => μ = (gSS ad, I, J) ∧ e = I 32 7) := by
  refine gKi_of gk_X3_high.1 (Nat.le_of_ble_eq_true rfl) ?_
  show gG l Γ gm_X3_high (d, 0, 0, 0, 0) 0 [(0, .ref (gad (gSS ad) 32))] [] _ _
  refine gg_aload_n dX3_high_0 0 rfl ?_
  refine gg_getI rfl gf_RX3_35 dX3_high_1 sh_32 pl_32 (by decide) (by decide) ?_
  refine gg_ireti dX3_high_4 rfl ⟨rfl, rfl⟩ ?_
  exact ⟨rfl, rfl⟩

set_option maxRecDepth 10000 in
theorem c_X3_lineAt {l : Launch} {Γ : gC} {ad : Nat → Nat} {I : Nat → Nat → Int} {J : Nat → Nat → Int64} {d : Nat} {k m : Nat} (hm : I 32 2 = (m : Int)) (hk : k < m) (hm4 : m ≤ 400) : gKi l Γ gm_X3_lineAt d [.ref (gad (gSS ad) 32), .int (iv (k : Int))] (gSS ad, I, J) (fun e μ => μ = (gSS ad, I, J) ∧ e = I 33 k) := by
  refine gKi_of gk_X3_lineAt.1 (Nat.le_of_ble_eq_true rfl) ?_
  show gG l Γ gm_X3_lineAt (d, 0, 0, 0, 0) 0 [(0, .ref (gad (gSS ad) 32)), (1, .int (iv (k : Int)))] [] _ _
  refine gg_iload_n dX3_lineAt_0 1 rfl ?_
  refine gg_if_lt_f (tgt := 21) dX3_lineAt_1 (by decide) (by omega) (by omega) ?_
  refine gg_iload_n dX3_lineAt_4 1 rfl ?_
  refine gg_aload_n dX3_lineAt_5 0 rfl ?_
  refine gg_getI rfl gf_RX3_28 dX3_lineAt_6 sh_32 pl_32 (by decide) (by decide) ?_
  refine gg_toI (b := (m : Int)) hm ?_
  refine gg_icmp_ge_f (tgt := 21) dX3_lineAt_9 (by decide) (by omega) (by omega) ?_
  refine gg_aload_n dX3_lineAt_12 0 rfl ?_
  refine gg_getR (k' := 33) rfl gf_RX3_11 dX3_lineAt_13 sh_32 pl_32 (by decide) (by decide) rr_32_0 ?_
  refine gg_iload_n dX3_lineAt_16 1 rfl ?_
  refine gg_ialdj k dX3_lineAt_17 sh_33 pl_33 (by decide) rfl (by omega) ?_
  refine gg_goto (tgt := 22) dX3_lineAt_18 (by decide) ?_
  refine gg_ireti dX3_lineAt_22 rfl ⟨rfl, rfl⟩ ?_
  exact ⟨rfl, rfl⟩

theorem gyW_v {n : Nat} {K : Nat → Nat} {N : Nat → Int64} {Z : Nat → Nat} {v v' : Nat → Int} (h : ∀ q, q < 8 → v q = v' q) : gyW n K N Z v = gyW n K N Z v' := by
  unfold gyW
  rw [gyM_v h, gyE_v h]
theorem gyHi_v {n : Nat} {K : Nat → Nat} {N : Nat → Int64} {Z : Nat → Nat} {v v' : Nat → Int} (h : ∀ q, q < 8 → v q = v' q) : gyHi n K N Z v = gyHi n K N Z v' := by
  unfold gyHi
  rw [gyM_v h, gyE_v h]
/-- what code tells -/
noncomputable def gCde (n : Nat) (K : Nat → Nat) (N : Nat → Int64) (Z : Nat → Nat) (v : Nat → Int) (k : Int) : Int := if n = 0 then -3 else if (gLc n K Z 0 : Int) ≤ k then -12 else if 0 ≤ k then (gCv n K N Z 0 0 k.toNat).1 else if k = -1 then (gLc n K Z 0 : Int) else if k = -2 then (gyM n K N Z v : Int) else (gyHi n K N Z v : Int)
set_option maxRecDepth 10000 in
theorem c_X9_run {l : Launch} {Γ : gC} {ad : Nat → Nat} {I : Nat → Nat → Int} {J : Nat → Nat → Int64} {d : Nat} {f n : Nat} {K : Nat → Nat} {N : Nat → Int64} {Z : Nat → Nat} (hf : f < 12) (hA : gAt I J (41 + 8 * f) n K N Z) (hW : gWf n K N Z) (hd : 6 ≤ d) : gKl l Γ gm_X9_run d [.ref (gad (gSS ad) 0), .int (iv (f : Int))] (gSS ad, I, J) (fun e μ => ∃ I' J', μ = (gSS ad, I', J') ∧ (∀ p, p ≠ 32 → p ≠ 33 → p ≠ 35 → p ≠ 36 → I' p = I p) ∧ (∀ p, p ≠ 34 → p ≠ 37 → J' p = J p) ∧ e = (if n = 0 then -1000003 else gyW n K N Z (I 3))) := by
  refine gKl_of gk_X9_run.1 (Nat.le_of_ble_eq_true rfl) ?_
  show gG l Γ gm_X9_run (d, 0, 0, 0, 0) 0 [(0, .ref (gad (gSS ad) 0)), (1, .int (iv (f : Int)))] [] _ _
  refine gg_aload_n dX9_run_0 0 rfl ?_
  refine gg_iload_n dX9_run_1 1 rfl ?_
  refine gg_iconst dX9_run_2 ?_
  refine gg_callVi (own := RX9) (yt := gm_X9_refusalOf) rfl gl_RX9_166 gk_X9_refusalOf gr_X9_refusalOf dX9_run_3 (c_X9_refusalOf (d := d - 1) hf hA hW (by omega)) sh_0 pl_0 (by decide) rfl rfl rfl (Nat.le_of_ble_eq_true rfl) (by show _ ≤ d; omega) ⟨Nat.le_refl _, Nat.le_refl _⟩ (fun e1 μ' hc => ?_)
  obtain ⟨rfl, ⟨rfl, hn0⟩ | ⟨rfl, hn0⟩⟩ := hc
  · refine gg_istore_n (ls' := [(2, .int (iv (-3))), (0, .ref (gad (gSS ad) 0)), (1, .int (iv (f : Int)))]) dX9_run_6 rfl (by decide) rfl ?_
    refine gg_iload_n dX9_run_7 0 rfl ?_
    refine gg_if_eq_f (tgt := 18) dX9_run_8 (by decide) (by decide) (by decide) ?_
    refine gg_iload_n dX9_run_11 0 rfl ?_
    refine gg_i2l dX9_run_12 ?_
    refine gg_ldc2 rfl gq_RX9_170 dX9_run_13 ?_
    refine gg_lsub dX9_run_16 ?_
    refine gg_lretl dX9_run_17 rfl ⟨rfl, rfl⟩ ?_
    exact ⟨I, J, rfl, fun _ _ _ _ _ => rfl, fun _ _ _ => rfl, by rw [if_pos hn0]; decide⟩
  · refine gg_istore_n (ls' := [(2, .int (iv 0)), (0, .ref (gad (gSS ad) 0)), (1, .int (iv (f : Int)))]) dX9_run_6 rfl (by decide) rfl ?_
    refine gg_iload_n dX9_run_7 0 rfl ?_
    refine gg_if_eq_t (tgt := 18) dX9_run_8 (by decide) (by decide) (by decide) ?_
    refine gg_aload_n dX9_run_18 1 rfl ?_
    refine gg_getR (k' := 32) rfl gf_RX9_82 dX9_run_19 sh_0 pl_0 (by decide) (by decide) rr_0_14 ?_
    refine gg_aload_n dX9_run_22 1 rfl ?_
    refine gg_getR (k' := 1) rfl gf_RX9_11 dX9_run_23 sh_0 pl_0 (by decide) (by decide) rr_0_0 ?_
    refine gg_iload_n dX9_run_26 2 rfl ?_
    refine gg_aaldj (t := 4) f (k' := (41 + 8 * f)) dX9_run_27 sh_1 (by decide) pl_1 (by decide) rfl hf (rr_1 hf) ?_
    refine gg_callVv (own := RX9) (yt := gm_X3_translate) rfl gl_RX9_193 gk_X3_translate gr_X3_translate dX9_run_28 (c_X3_translate (d := d - 1) (gF_fo f hf) hA hW (by omega) (by omega)) sh_32 pl_32 (by decide) rfl rfl rfl (Nat.le_of_ble_eq_true rfl) (by show _ ≤ d; omega) ⟨Nat.le_refl _, Nat.le_refl _⟩ (fun μ' hc => ?_)
    obtain ⟨I2, J2, rfl, hI2, hI3, hJ2, hs2, hL2⟩ := hc
    refine gg_aload_n dX9_run_31 1 rfl ?_
    refine gg_getR (k' := 32) rfl gf_RX9_82 dX9_run_32 sh_0 pl_0 (by decide) (by decide) rr_0_14 ?_
    refine gg_aload_n dX9_run_35 1 rfl ?_
    refine gg_getR (k' := 3) rfl gf_RX9_18 dX9_run_36 sh_0 pl_0 (by decide) (by decide) rr_0_2 ?_
    refine gg_callVl (own := RX9) (yt := gm_X3_execute) rfl gl_RX9_202 gk_X3_execute gr_X3_execute dX9_run_39 (c_X3_execute (d := d - 1) hW (by omega) (p := 3) sh_3 pl_3 (by omega) hs2 hL2 (by omega)) sh_32 pl_32 (by decide) rfl rfl rfl (Nat.le_of_ble_eq_true rfl) (by show _ ≤ d; omega) ⟨Nat.le_refl _, Nat.le_refl _⟩ (fun e3 μ' hc => ?_)
    obtain ⟨I4, J4, rfl, hI4, hI5, hJ4, hh4, hs4, rfl⟩ := hc
    refine gg_lretl dX9_run_42 rfl ⟨rfl, rfl⟩ ?_
    exact ⟨I4, J4, rfl, fun p h1 h2 h3 h4 => by rw [hI4 p h1]; exact hI2 p h2 h3 h4 h1, fun p h1 h2 => by rw [hJ4 p h2]; exact hJ2 p h1, by rw [if_neg hn0]; exact gyW_v (show ∀ q, q < 8 → I2 3 q = I 3 q from fun q _ => by rw [hI2 3 (by omega) (by omega) (by omega) (by omega)])⟩

set_option maxRecDepth 10000 in
theorem c_X9_run_out {l : Launch} {Γ : gC} {ad : Nat → Nat} {I : Nat → Nat → Int} {J : Nat → Nat → Int64} {d : Nat} {i : Int} (hi : -2147483648 ≤ i ∧ i ≤ 2147483647) (ho : ¬ (0 ≤ i ∧ i ≤ 11)) (hd : 3 ≤ d) : gKl l Γ gm_X9_run d [.ref (gad (gSS ad) 0), .int (iv i)] (gSS ad, I, J) (fun e μ => μ = (gSS ad, I, J) ∧ e = -1000002) := by
  refine gKl_of gk_X9_run.1 (Nat.le_of_ble_eq_true rfl) ?_
  show gG l Γ gm_X9_run (d, 0, 0, 0, 0) 0 [(0, .ref (gad (gSS ad) 0)), (1, .int (iv i))] [] _ _
  refine gg_aload_n dX9_run_0 0 rfl ?_
  refine gg_iload_n dX9_run_1 1 rfl ?_
  refine gg_iconst dX9_run_2 ?_
  refine gg_callVi (own := RX9) (yt := gm_X9_refusalOf) rfl gl_RX9_166 gk_X9_refusalOf gr_X9_refusalOf dX9_run_3 (c_X9_refusalOf_out (d := d - 1) (b := 1) (by omega) (by omega) (by omega) (by omega)) sh_0 pl_0 (by decide) rfl rfl rfl (Nat.le_of_ble_eq_true rfl) (by show _ ≤ d; omega) ⟨Nat.le_refl _, Nat.le_refl _⟩ (fun e1 μ' hc => ?_)
  obtain ⟨rfl, rfl⟩ := hc
  refine gg_istore_n (ls' := [(2, .int (iv (-2))), (0, .ref (gad (gSS ad) 0)), (1, .int (iv i))]) dX9_run_6 rfl (by decide) rfl ?_
  refine gg_iload_n dX9_run_7 0 rfl ?_
  refine gg_if_eq_f (tgt := 18) dX9_run_8 (by decide) (by decide) (by decide) ?_
  refine gg_iload_n dX9_run_11 0 rfl ?_
  refine gg_i2l dX9_run_12 ?_
  refine gg_ldc2 rfl gq_RX9_170 dX9_run_13 ?_
  refine gg_lsub dX9_run_16 ?_
  refine gg_lretl dX9_run_17 rfl ⟨rfl, rfl⟩ ?_
  exact ⟨rfl, by decide⟩

set_option maxRecDepth 10000 in
theorem c_X9_code {l : Launch} {Γ : gC} {ad : Nat → Nat} {I : Nat → Nat → Int} {J : Nat → Nat → Int64} {d : Nat} {f n : Nat} {K : Nat → Nat} {N : Nat → Int64} {Z : Nat → Nat} (hf : f < 12) (hA : gAt I J (41 + 8 * f) n K N Z) (hW : gWf n K N Z) {k : Int} (hk : -3 ≤ k ∧ k ≤ 2147483647) (hd : 6 ≤ d) : gKi l Γ gm_X9_code d [.ref (gad (gSS ad) 0), .int (iv (f : Int)), .int (iv k)] (gSS ad, I, J) (fun e μ => ∃ I' J', μ = (gSS ad, I', J') ∧ (∀ p, p ≠ 32 → p ≠ 33 → p ≠ 35 → p ≠ 36 → I' p = I p) ∧ (∀ p, p ≠ 34 → p ≠ 37 → J' p = J p) ∧ e = gCde n K N Z (I 3) k) := by
  refine gKi_of gk_X9_code.1 (Nat.le_of_ble_eq_true rfl) ?_
  show gG l Γ gm_X9_code (d, 0, 0, 0, 0) 0 [(0, .ref (gad (gSS ad) 0)), (1, .int (iv (f : Int))), (2, .int (iv k))] [] _ _
  refine gg_aload_n dX9_code_0 0 rfl ?_
  refine gg_iload_n dX9_code_1 1 rfl ?_
  refine gg_iload_n dX9_code_2 2 rfl ?_
  refine gg_bipush dX9_code_3 (by decide) ?_
  refine gg_icmp_lt_f (tgt := 12) dX9_code_5 (by decide) (by omega) (by omega) ?_
  refine gg_iconst dX9_code_8 ?_
  refine gg_goto (tgt := 13) dX9_code_9 (by decide) ?_
  refine gg_callVi (own := RX9) (yt := gm_X9_refusalOf) rfl gl_RX9_166 gk_X9_refusalOf gr_X9_refusalOf dX9_code_13 (c_X9_refusalOf (d := d - 1) hf hA hW (by omega)) sh_0 pl_0 (by decide) rfl rfl rfl (Nat.le_of_ble_eq_true rfl) (by show _ ≤ d; omega) ⟨Nat.le_refl _, Nat.le_refl _⟩ (fun e1 μ' hc => ?_)
  obtain ⟨rfl, ⟨rfl, hn0⟩ | ⟨rfl, hn0⟩⟩ := hc
  · refine gg_istore_n (ls' := [(3, .int (iv (-3))), (0, .ref (gad (gSS ad) 0)), (1, .int (iv (f : Int))), (2, .int (iv k))]) dX9_code_16 rfl (by decide) rfl ?_
    refine gg_iload_n dX9_code_17 0 rfl ?_
    refine gg_if_eq_f (tgt := 23) dX9_code_18 (by decide) (by decide) (by decide) ?_
    refine gg_iload_n dX9_code_21 0 rfl ?_
    refine gg_ireti dX9_code_22 rfl ⟨rfl, rfl⟩ ?_
    exact ⟨I, J, rfl, fun _ _ _ _ _ => rfl, fun _ _ _ => rfl, by unfold gCde; rw [if_pos hn0]⟩
  · refine gg_istore_n (ls' := [(3, .int (iv 0)), (0, .ref (gad (gSS ad) 0)), (1, .int (iv (f : Int))), (2, .int (iv k))]) dX9_code_16 rfl (by decide) rfl ?_
    refine gg_iload_n dX9_code_17 0 rfl ?_
    refine gg_if_eq_t (tgt := 23) dX9_code_18 (by decide) (by decide) (by decide) ?_
    refine gg_aload_n dX9_code_23 1 rfl ?_
    refine gg_getR (k' := 32) rfl gf_RX9_82 dX9_code_24 sh_0 pl_0 (by decide) (by decide) rr_0_14 ?_
    refine gg_aload_n dX9_code_27 1 rfl ?_
    refine gg_getR (k' := 1) rfl gf_RX9_11 dX9_code_28 sh_0 pl_0 (by decide) (by decide) rr_0_0 ?_
    refine gg_iload_n dX9_code_31 2 rfl ?_
    refine gg_aaldj (t := 4) f (k' := (41 + 8 * f)) dX9_code_32 sh_1 (by decide) pl_1 (by decide) rfl hf (rr_1 hf) ?_
    refine gg_callVv (own := RX9) (yt := gm_X3_translate) rfl gl_RX9_193 gk_X3_translate gr_X3_translate dX9_code_33 (c_X3_translate (d := d - 1) (gF_fo f hf) hA hW (by omega) (by omega)) sh_32 pl_32 (by decide) rfl rfl rfl (Nat.le_of_ble_eq_true rfl) (by show _ ≤ d; omega) ⟨Nat.le_refl _, Nat.le_refl _⟩ (fun μ' hc => ?_)
    obtain ⟨I2, J2, rfl, hI2, hI3, hJ2, hs2, hL2⟩ := hc
    refine gg_iload_n dX9_code_36 3 rfl ?_
    refine gg_aload_n dX9_code_37 1 rfl ?_
    refine gg_getR (k' := 32) rfl gf_RX9_82 dX9_code_38 sh_0 pl_0 (by decide) (by decide) rr_0_14 ?_
    refine gg_callVi (own := RX9) (yt := gm_X3_lineCount) rfl gl_RX9_196 gk_X3_lineCount gr_X3_lineCount dX9_code_41 (c_X3_lineCount (d := d - 1)) sh_32 pl_32 (by decide) rfl rfl rfl (Nat.le_of_ble_eq_true rfl) (by show _ ≤ d; omega) ⟨Nat.le_refl _, Nat.le_refl _⟩ (fun e3 μ' hc => ?_)
    obtain ⟨rfl, rfl⟩ := hc
    refine gg_toI (b := (gLc n K Z 0 : Int)) hs2 ?_
    refine gg_icmp_lt (tgt := 50) dX9_code_44 (by decide) (by have := (gL_rng hW 0 (by omega)).2; have := hW.2.1 (by omega); have := hW.1; omega) (fun hb1 => ?_) (fun hb1 => ?_)
    · refine gg_iload_n dX9_code_50 3 rfl ?_
      refine gg_if_lt (tgt := 63) dX9_code_51 (by decide) (by omega) (fun hb2 => ?_) (fun hb2 => ?_)
      · refine gg_iload_n dX9_code_63 3 rfl ?_
        refine gg_iconst dX9_code_64 ?_
        refine gg_icmp_ne (tgt := 76) dX9_code_65 (by decide) (by omega) (fun hb3 => ?_) (fun hb3 => ?_)
        · refine gg_aload_n dX9_code_76 1 rfl ?_
          refine gg_getR (k' := 32) rfl gf_RX9_82 dX9_code_77 sh_0 pl_0 (by decide) (by decide) rr_0_14 ?_
          refine gg_aload_n dX9_code_80 1 rfl ?_
          refine gg_getR (k' := 3) rfl gf_RX9_18 dX9_code_81 sh_0 pl_0 (by decide) (by decide) rr_0_2 ?_
          refine gg_callVl (own := RX9) (yt := gm_X3_execute) rfl gl_RX9_202 gk_X3_execute gr_X3_execute dX9_code_84 (c_X3_execute (d := d - 1) hW (by omega) (p := 3) sh_3 pl_3 (by omega) hs2 hL2 (by omega)) sh_32 pl_32 (by decide) rfl rfl rfl (Nat.le_of_ble_eq_true rfl) (by show _ ≤ d; omega) ⟨Nat.le_refl _, Nat.le_refl _⟩ (fun e4 μ' hc => ?_)
          obtain ⟨I4, J4, rfl, hI4, hI5, hJ4, hh4, hs4, rfl⟩ := hc
          refine gg_pop2 dX9_code_87 rfl ?_
          refine gg_iload_n dX9_code_88 3 rfl ?_
          refine gg_bipush dX9_code_89 (by decide) ?_
          refine gg_icmp_ne (tgt := 104) dX9_code_91 (by decide) (by omega) (fun hb4 => ?_) (fun hb4 => ?_)
          · refine gg_aload_n dX9_code_104 1 rfl ?_
            refine gg_getR (k' := 32) rfl gf_RX9_82 dX9_code_105 sh_0 pl_0 (by decide) (by decide) rr_0_14 ?_
            refine gg_callVi (own := RX9) (yt := gm_X3_high) rfl gl_RX9_209 gk_X3_high gr_X3_high dX9_code_108 (c_X3_high (d := d - 1)) sh_32 pl_32 (by decide) rfl rfl rfl (Nat.le_of_ble_eq_true rfl) (by show _ ≤ d; omega) ⟨Nat.le_refl _, Nat.le_refl _⟩ (fun e5 μ' hc => ?_)
            obtain ⟨rfl, rfl⟩ := hc
            refine gg_ireti dX9_code_111 rfl ⟨rfl, rfl⟩ ?_
            exact ⟨I4, J4, rfl, fun p h1 h2 h3 h4 => by rw [hI4 p h1]; exact hI2 p h2 h3 h4 h1, fun p h1 h2 => by rw [hJ4 p h2]; exact hJ2 p h1, by unfold gCde; rw [if_neg hn0, if_neg (by omega), if_neg (by omega), if_neg (by omega), if_neg (by omega), hh4, gyHi_v (show ∀ q, q < 8 → I2 3 q = I 3 q from fun q _ => by rw [hI2 3 (by omega) (by omega) (by omega) (by omega)])]⟩
          · refine gg_aload_n dX9_code_94 1 rfl ?_
            refine gg_getR (k' := 32) rfl gf_RX9_82 dX9_code_95 sh_0 pl_0 (by decide) (by decide) rr_0_14 ?_
            refine gg_callVi (own := RX9) (yt := gm_X3_steps) rfl gl_RX9_206 gk_X3_steps gr_X3_steps dX9_code_98 (c_X3_steps (d := d - 1)) sh_32 pl_32 (by decide) rfl rfl rfl (Nat.le_of_ble_eq_true rfl) (by show _ ≤ d; omega) ⟨Nat.le_refl _, Nat.le_refl _⟩ (fun e6 μ' hc => ?_)
            obtain ⟨rfl, rfl⟩ := hc
            refine gg_goto (tgt := 111) dX9_code_101 (by decide) ?_
            refine gg_ireti dX9_code_111 rfl ⟨rfl, rfl⟩ ?_
            exact ⟨I4, J4, rfl, fun p h1 h2 h3 h4 => by rw [hI4 p h1]; exact hI2 p h2 h3 h4 h1, fun p h1 h2 => by rw [hJ4 p h2]; exact hJ2 p h1, by unfold gCde; rw [if_neg hn0, if_neg (by omega), if_neg (by omega), if_neg (by omega), if_pos (by omega), hs4, gyM_v (show ∀ q, q < 8 → I2 3 q = I 3 q from fun q _ => by rw [hI2 3 (by omega) (by omega) (by omega) (by omega)])]⟩
        · refine gg_aload_n dX9_code_68 1 rfl ?_
          refine gg_getR (k' := 32) rfl gf_RX9_82 dX9_code_69 sh_0 pl_0 (by decide) (by decide) rr_0_14 ?_
          refine gg_callVi (own := RX9) (yt := gm_X3_lineCount) rfl gl_RX9_196 gk_X3_lineCount gr_X3_lineCount dX9_code_72 (c_X3_lineCount (d := d - 1)) sh_32 pl_32 (by decide) rfl rfl rfl (Nat.le_of_ble_eq_true rfl) (by show _ ≤ d; omega) ⟨Nat.le_refl _, Nat.le_refl _⟩ (fun e7 μ' hc => ?_)
          obtain ⟨rfl, rfl⟩ := hc
          refine gg_toI (b := (gLc n K Z 0 : Int)) hs2 ?_
          refine gg_ireti dX9_code_75 rfl ⟨rfl, rfl⟩ ?_
          exact ⟨I2, J2, rfl, fun p h1 h2 h3 h4 => hI2 p h2 h3 h4 h1, fun p h1 h2 => hJ2 p h1, by unfold gCde; rw [if_neg hn0, if_neg (by omega), if_neg (by omega), if_pos (by omega)]⟩
      · refine gg_aload_n dX9_code_54 1 rfl ?_
        refine gg_getR (k' := 32) rfl gf_RX9_82 dX9_code_55 sh_0 pl_0 (by decide) (by decide) rr_0_14 ?_
        refine gg_iload_n dX9_code_58 3 rfl ?_
        refine gg_toI (b := (k.toNat : Int)) (by omega) ?_
        refine gg_callVi (own := RX9) (yt := gm_X3_lineAt) rfl gl_RX9_199 gk_X3_lineAt gr_X3_lineAt dX9_code_59 (c_X3_lineAt (d := d - 1) (k := k.toNat) hs2 (by omega) (by have := (gL_rng hW 0 (by omega)).2; have := hW.2.1 (by omega); have := hW.1; omega)) sh_32 pl_32 (by decide) rfl rfl rfl (Nat.le_of_ble_eq_true rfl) (by show _ ≤ d; omega) ⟨Nat.le_refl _, Nat.le_refl _⟩ (fun e8 μ' hc => ?_)
        obtain ⟨rfl, rfl⟩ := hc
        refine gg_ireti dX9_code_62 rfl ⟨rfl, rfl⟩ ?_
        exact ⟨I2, J2, rfl, fun p h1 h2 h3 h4 => hI2 p h2 h3 h4 h1, fun p h1 h2 => hJ2 p h1, by unfold gCde; rw [if_neg hn0, if_neg (by omega), if_pos (by omega)]; exact (hL2 _ (by omega)).1⟩
    · refine gg_bipush dX9_code_47 (by decide) ?_
      refine gg_ireti dX9_code_49 rfl ⟨rfl, rfl⟩ ?_
      exact ⟨I2, J2, rfl, fun p h1 h2 h3 h4 => hI2 p h2 h3 h4 h1, fun p h1 h2 => hJ2 p h1, by unfold gCde; rw [if_neg hn0, if_pos (by omega)]⟩

set_option maxRecDepth 10000 in
theorem c_X9_code_out {l : Launch} {Γ : gC} {ad : Nat → Nat} {I : Nat → Nat → Int} {J : Nat → Nat → Int64} {d : Nat} {i k : Int} (hi : -2147483648 ≤ i ∧ i ≤ 2147483647) (hk : -2147483648 ≤ k ∧ k ≤ 2147483647) (ho : ¬ (0 ≤ i ∧ i ≤ 11 ∧ -3 ≤ k)) (hd : 3 ≤ d) : gKi l Γ gm_X9_code d [.ref (gad (gSS ad) 0), .int (iv i), .int (iv k)] (gSS ad, I, J) (fun e μ => μ = (gSS ad, I, J) ∧ e = -2) := by
  refine gKi_of gk_X9_code.1 (Nat.le_of_ble_eq_true rfl) ?_
  show gG l Γ gm_X9_code (d, 0, 0, 0, 0) 0 [(0, .ref (gad (gSS ad) 0)), (1, .int (iv i)), (2, .int (iv k))] [] _ _
  refine gg_aload_n dX9_code_0 0 rfl ?_
  refine gg_iload_n dX9_code_1 1 rfl ?_
  refine gg_iload_n dX9_code_2 2 rfl ?_
  refine gg_bipush dX9_code_3 (by decide) ?_
  refine gg_icmp_lt (tgt := 12) dX9_code_5 (by decide) (by omega) (fun hb1 => ?_) (fun hb1 => ?_)
  · refine gg_iconst dX9_code_12 ?_
    refine gg_callVi (own := RX9) (yt := gm_X9_refusalOf) rfl gl_RX9_166 gk_X9_refusalOf gr_X9_refusalOf dX9_code_13 (c_X9_refusalOf_out (d := d - 1) (b := 0) (by omega) (by omega) (by omega) (by omega)) sh_0 pl_0 (by decide) rfl rfl rfl (Nat.le_of_ble_eq_true rfl) (by show _ ≤ d; omega) ⟨Nat.le_refl _, Nat.le_refl _⟩ (fun e2 μ' hc => ?_)
    obtain ⟨rfl, rfl⟩ := hc
    refine gg_istore_n (ls' := [(3, .int (iv (-2))), (0, .ref (gad (gSS ad) 0)), (1, .int (iv i)), (2, .int (iv k))]) dX9_code_16 rfl (by decide) rfl ?_
    refine gg_iload_n dX9_code_17 0 rfl ?_
    refine gg_if_eq_f (tgt := 23) dX9_code_18 (by decide) (by decide) (by decide) ?_
    refine gg_iload_n dX9_code_21 0 rfl ?_
    refine gg_ireti dX9_code_22 rfl ⟨rfl, rfl⟩ ?_
    exact ⟨rfl, rfl⟩
  · refine gg_iconst dX9_code_8 ?_
    refine gg_goto (tgt := 13) dX9_code_9 (by decide) ?_
    refine gg_callVi (own := RX9) (yt := gm_X9_refusalOf) rfl gl_RX9_166 gk_X9_refusalOf gr_X9_refusalOf dX9_code_13 (c_X9_refusalOf_out (d := d - 1) (b := 1) (by omega) (by omega) (by omega) (by omega)) sh_0 pl_0 (by decide) rfl rfl rfl (Nat.le_of_ble_eq_true rfl) (by show _ ≤ d; omega) ⟨Nat.le_refl _, Nat.le_refl _⟩ (fun e3 μ' hc => ?_)
    obtain ⟨rfl, rfl⟩ := hc
    refine gg_istore_n (ls' := [(3, .int (iv (-2))), (0, .ref (gad (gSS ad) 0)), (1, .int (iv i)), (2, .int (iv k))]) dX9_code_16 rfl (by decide) rfl ?_
    refine gg_iload_n dX9_code_17 0 rfl ?_
    refine gg_if_eq_f (tgt := 23) dX9_code_18 (by decide) (by decide) (by decide) ?_
    refine gg_iload_n dX9_code_21 0 rfl ?_
    refine gg_ireti dX9_code_22 rfl ⟨rfl, rfl⟩ ?_
    exact ⟨rfl, rfl⟩

