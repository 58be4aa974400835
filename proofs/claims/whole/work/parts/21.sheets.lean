/-! sheets: s is (so, sn): its sort (-1: missing), its length; rows 137 + 2 s, 138 + 2 s; the reference's 237, 238, 240 + s -/
set_option maxRecDepth 10000 in
theorem c_X6_isMissing {l : Launch} {Γ : gC} {ad : Nat → Nat} {I : Nat → Nat → Int} {J : Nat → Nat → Int64} {d : Nat} {s : Nat} (hs : s < 4) {so : Int} {sn : Nat} (hso : I (137 + 2 * s) 1 = so) (hsn : I (137 + 2 * s) 2 = (sn : Int)) (hr : -1 ≤ so ∧ so ≤ 1) (hn : sn ≤ 40) : gKi l Γ gm_X6_isMissing d [.ref (gad (gSS ad) (137 + 2 * s))] (gSS ad, I, J) (fun e μ => μ = (gSS ad, I, J) ∧ ((e = 1 ∧ (so < 0)) ∨ (e = 0 ∧ ¬ (so < 0)))) := by
  refine gKi_of gk_X6_isMissing.1 (Nat.le_of_ble_eq_true rfl) ?_
  show gG l Γ gm_X6_isMissing (d, 0, 0, 0, 0) 0 [(0, .ref (gad (gSS ad) (137 + 2 * s)))] [] _ _
  refine gg_aload_n dX6_isMissing_0 0 rfl ?_
  refine gg_getI rfl gf_RX6_15 dX6_isMissing_1 (gSt_sh hs) (gSt_lt hs) (by decide) (by decide) ?_
  refine gg_toI (b := so) hso ?_
  refine gg_if_ge (tgt := 11) dX6_isMissing_4 (by decide) (by omega) (fun hb1 => ?_) (fun hb1 => ?_)
  · refine gg_iconst dX6_isMissing_11 ?_
    refine gg_iretz dX6_isMissing_12 rfl (by decide) ⟨rfl, rfl⟩ ?_
    refine ⟨rfl, ?_⟩ <;> omega
  · refine gg_iconst dX6_isMissing_7 ?_
    refine gg_goto (tgt := 12) dX6_isMissing_8 (by decide) ?_
    refine gg_iretz dX6_isMissing_12 rfl (by decide) ⟨rfl, rfl⟩ ?_
    refine ⟨rfl, ?_⟩ <;> omega

set_option maxRecDepth 10000 in
theorem c_X6_sort {l : Launch} {Γ : gC} {ad : Nat → Nat} {I : Nat → Nat → Int} {J : Nat → Nat → Int64} {d : Nat} {s : Nat} (hs : s < 4) : gKi l Γ gm_X6_sort d [.ref (gad (gSS ad) (137 + 2 * s))] (gSS ad, I, J) (fun e μ => μ = (gSS ad, I, J) ∧ e = I (137 + 2 * s) 1) := by
  refine gKi_of gk_X6_sort.1 (Nat.le_of_ble_eq_true rfl) ?_
  show gG l Γ gm_X6_sort (d, 0, 0, 0, 0) 0 [(0, .ref (gad (gSS ad) (137 + 2 * s)))] [] _ _
  refine gg_aload_n dX6_sort_0 0 rfl ?_
  refine gg_getI rfl gf_RX6_15 dX6_sort_1 (gSt_sh hs) (gSt_lt hs) (by decide) (by decide) ?_
  refine gg_ireti dX6_sort_4 rfl ⟨rfl, rfl⟩ ?_
  exact ⟨rfl, rfl⟩

set_option maxRecDepth 10000 in
theorem c_X6_size {l : Launch} {Γ : gC} {ad : Nat → Nat} {I : Nat → Nat → Int} {J : Nat → Nat → Int64} {d : Nat} {s : Nat} (hs : s < 4) {so : Int} {sn : Nat} (hso : I (137 + 2 * s) 1 = so) (hsn : I (137 + 2 * s) 2 = (sn : Int)) (hr : -1 ≤ so ∧ so ≤ 1) (hn : sn ≤ 40) : gKi l Γ gm_X6_size d [.ref (gad (gSS ad) (137 + 2 * s))] (gSS ad, I, J) (fun e μ => μ = (gSS ad, I, J) ∧ e = (sn : Int)) := by
  refine gKi_of gk_X6_size.1 (Nat.le_of_ble_eq_true rfl) ?_
  show gG l Γ gm_X6_size (d, 0, 0, 0, 0) 0 [(0, .ref (gad (gSS ad) (137 + 2 * s)))] [] _ _
  refine gg_aload_n dX6_size_0 0 rfl ?_
  refine gg_getI rfl gf_RX6_19 dX6_size_1 (gSt_sh hs) (gSt_lt hs) (by decide) (by decide) ?_
  refine gg_toI (b := (sn : Int)) hsn ?_
  refine gg_ireti dX6_size_4 rfl ⟨rfl, rfl⟩ ?_
  exact ⟨rfl, rfl⟩

set_option maxRecDepth 10000 in
theorem c_X6_remove {l : Launch} {Γ : gC} {ad : Nat → Nat} {I : Nat → Nat → Int} {J : Nat → Nat → Int64} {d : Nat} {s : Nat} (hs : s < 4) : gKv l Γ gm_X6_remove d [.ref (gad (gSS ad) (137 + 2 * s))] (gSS ad, I, J) (fun μ => μ = (gSS ad, gu (gu I (137 + 2 * s) 1 (-1)) (137 + 2 * s) 2 0, J)) := by
  refine gKv_of gk_X6_remove.1 (Nat.le_of_ble_eq_true rfl) ?_
  show gG l Γ gm_X6_remove (d, 0, 0, 0, 0) 0 [(0, .ref (gad (gSS ad) (137 + 2 * s)))] [] _ _
  refine gg_aload_n dX6_remove_0 0 rfl ?_
  refine gg_iconst dX6_remove_1 ?_
  refine gg_putI rfl gf_RX6_15 dX6_remove_2 (gSt_sh hs) (gSt_lt hs) (by decide) (by decide) (by decide) (gfit_i _) ?_
  refine gg_aload_n dX6_remove_5 0 rfl ?_
  refine gg_iconst dX6_remove_6 ?_
  refine gg_putI rfl gf_RX6_19 dX6_remove_7 (gSt_sh hs) (gSt_lt hs) (by decide) (by decide) (by decide) (gfit_i _) ?_
  refine gg_vretv dX6_remove_10 rfl ⟨rfl, rfl⟩ ?_
  exact rfl

set_option maxRecDepth 10000 in
theorem c_X6_at {l : Launch} {Γ : gC} {ad : Nat → Nat} {I : Nat → Nat → Int} {J : Nat → Nat → Int64} {d : Nat} {s : Nat} (hs : s < 4) {so : Int} {sn : Nat} (hso : I (137 + 2 * s) 1 = so) (hsn : I (137 + 2 * s) 2 = (sn : Int)) (hr : -1 ≤ so ∧ so ≤ 1) (hn : sn ≤ 40) {j : Nat} (hj : j < sn) : gKi l Γ gm_X6_at d [.ref (gad (gSS ad) (137 + 2 * s)), .int (iv (j : Int))] (gSS ad, I, J) (fun e μ => μ = (gSS ad, I, J) ∧ e = I (138 + 2 * s) j) := by
  refine gKi_of gk_X6_at.1 (Nat.le_of_ble_eq_true rfl) ?_
  show gG l Γ gm_X6_at (d, 0, 0, 0, 0) 0 [(0, .ref (gad (gSS ad) (137 + 2 * s))), (1, .int (iv (j : Int)))] [] _ _
  refine gg_iload_n dX6_at_0 1 rfl ?_
  refine gg_if_lt_f (tgt := 21) dX6_at_1 (by decide) (by omega) (by omega) ?_
  refine gg_iload_n dX6_at_4 1 rfl ?_
  refine gg_aload_n dX6_at_5 0 rfl ?_
  refine gg_getI rfl gf_RX6_19 dX6_at_6 (gSt_sh hs) (gSt_lt hs) (by decide) (by decide) ?_
  refine gg_toI (b := (sn : Int)) hsn ?_
  refine gg_icmp_ge_f (tgt := 21) dX6_at_9 (by decide) (by omega) (by omega) ?_
  refine gg_aload_n dX6_at_12 0 rfl ?_
  refine gg_getR (k' := (138 + 2 * s)) rfl gf_RX6_9 dX6_at_13 (gSt_sh hs) (gSt_lt hs) (by decide) (by decide) (gSt_r hs) ?_
  refine gg_iload_n dX6_at_16 1 rfl ?_
  refine gg_ialdj j dX6_at_17 (gSt_rs hs) (gSt_rl hs) (by decide) rfl (by omega) ?_
  refine gg_goto (tgt := 22) dX6_at_18 (by decide) ?_
  refine gg_ireti dX6_at_22 rfl ⟨rfl, rfl⟩ ?_
  exact ⟨rfl, rfl⟩

set_option maxRecDepth 10000 in
theorem c_X6_set {l : Launch} {Γ : gC} {ad : Nat → Nat} {I : Nat → Nat → Int} {J : Nat → Nat → Int64} {d : Nat} {s : Nat} (hs : s < 4) {so : Int} {sn : Nat} (hso : I (137 + 2 * s) 1 = so) (hsn : I (137 + 2 * s) 2 = (sn : Int)) (hr : -1 ≤ so ∧ so ≤ 1) (hn : sn ≤ 40) {j : Nat} {v : Int} (hj : j < sn) : gKv l Γ gm_X6_set d [.ref (gad (gSS ad) (137 + 2 * s)), .int (iv (j : Int)), .int (iv v)] (gSS ad, I, J) (fun μ => μ = (gSS ad, gu I (138 + 2 * s) j (if so = 0 then gi2s v else v), J)) := by
  refine gKv_of gk_X6_set.1 (Nat.le_of_ble_eq_true rfl) ?_
  show gG l Γ gm_X6_set (d, 0, 0, 0, 0) 0 [(0, .ref (gad (gSS ad) (137 + 2 * s))), (1, .int (iv (j : Int))), (2, .int (iv v))] [] _ _
  refine gg_iload_n dX6_set_0 1 rfl ?_
  refine gg_if_lt_f (tgt := 31) dX6_set_1 (by decide) (by omega) (by omega) ?_
  refine gg_iload_n dX6_set_4 1 rfl ?_
  refine gg_aload_n dX6_set_5 0 rfl ?_
  refine gg_getI rfl gf_RX6_19 dX6_set_6 (gSt_sh hs) (gSt_lt hs) (by decide) (by decide) ?_
  refine gg_toI (b := (sn : Int)) hsn ?_
  refine gg_icmp_ge_f (tgt := 31) dX6_set_9 (by decide) (by omega) (by omega) ?_
  refine gg_aload_n dX6_set_12 0 rfl ?_
  refine gg_getR (k' := (138 + 2 * s)) rfl gf_RX6_9 dX6_set_13 (gSt_sh hs) (gSt_lt hs) (by decide) (by decide) (gSt_r hs) ?_
  refine gg_iload_n dX6_set_16 1 rfl ?_
  refine gg_aload_n dX6_set_17 0 rfl ?_
  refine gg_getI rfl gf_RX6_15 dX6_set_18 (gSt_sh hs) (gSt_lt hs) (by decide) (by decide) ?_
  refine gg_toI (b := so) hso ?_
  refine gg_if_ne (tgt := 29) dX6_set_21 (by decide) (by omega) (fun hz => ?_) (fun hz => ?_)
  · refine gg_iload_n dX6_set_29 2 rfl ?_
    refine gg_iastj j dX6_set_30 (gSt_rs hs) (gSt_rl hs) (by decide) rfl (by omega) ?_
    refine gg_vretv dX6_set_31 rfl ⟨rfl, rfl⟩ ?_
    simp [hz]
  · refine gg_iload_n dX6_set_24 2 rfl ?_
    refine gg_i2s dX6_set_25 ?_
    refine gg_goto (tgt := 30) dX6_set_26 (by decide) ?_
    refine gg_iastj j dX6_set_30 (gSt_rs hs) (gSt_rl hs) (by decide) rfl (by omega) ?_
    refine gg_vretv dX6_set_31 rfl ⟨rfl, rfl⟩ ?_
    simp [hz]

set_option maxRecDepth 10000 in
theorem c_X6_holds {l : Launch} {Γ : gC} {ad : Nat → Nat} {I : Nat → Nat → Int} {J : Nat → Nat → Int64} {d : Nat} {s : Nat} (hs : s < 4) {so : Int} {sn : Nat} (hso : I (137 + 2 * s) 1 = so) (hsn : I (137 + 2 * s) 2 = (sn : Int)) (hr : -1 ≤ so ∧ so ≤ 1) (hn : sn ≤ 40) {i n : Int} (hi : -2147483648 ≤ i ∧ i ≤ 2147483647) (hn2 : -2147483648 ≤ n ∧ n ≤ 2147483647) : gKi l Γ gm_X6_holds d [.ref (gad (gSS ad) (137 + 2 * s)), .int (iv i), .int (iv n)] (gSS ad, I, J) (fun e μ => μ = (gSS ad, I, J) ∧ ((e = 1 ∧ (0 ≤ i ∧ 0 ≤ n ∧ i + n ≤ (sn : Int))) ∨ (e = 0 ∧ ¬ (0 ≤ i ∧ 0 ≤ n ∧ i + n ≤ (sn : Int))))) := by
  refine gKi_of gk_X6_holds.1 (Nat.le_of_ble_eq_true rfl) ?_
  show gG l Γ gm_X6_holds (d, 0, 0, 0, 0) 0 [(0, .ref (gad (gSS ad) (137 + 2 * s))), (1, .int (iv i)), (2, .int (iv n))] [] _ _
  refine gg_iload_n dX6_holds_0 1 rfl ?_
  refine gg_if_lt (tgt := 30) dX6_holds_1 (by decide) (by omega) (fun hb1 => ?_) (fun hb1 => ?_)
  · refine gg_iconst dX6_holds_30 ?_
    refine gg_iretz dX6_holds_31 rfl (by decide) ⟨rfl, rfl⟩ ?_
    refine ⟨rfl, ?_⟩ <;> omega
  · refine gg_iload_n dX6_holds_4 2 rfl ?_
    refine gg_if_lt (tgt := 30) dX6_holds_5 (by decide) (by omega) (fun hb2 => ?_) (fun hb2 => ?_)
    · refine gg_iconst dX6_holds_30 ?_
      refine gg_iretz dX6_holds_31 rfl (by decide) ⟨rfl, rfl⟩ ?_
      refine ⟨rfl, ?_⟩ <;> omega
    · refine gg_iload_n dX6_holds_8 2 rfl ?_
      refine gg_aload_n dX6_holds_9 0 rfl ?_
      refine gg_getI rfl gf_RX6_19 dX6_holds_10 (gSt_sh hs) (gSt_lt hs) (by decide) (by decide) ?_
      refine gg_toI (b := (sn : Int)) hsn ?_
      refine gg_icmp_gt (tgt := 30) dX6_holds_13 (by decide) (by omega) (fun hb3 => ?_) (fun hb3 => ?_)
      · refine gg_iconst dX6_holds_30 ?_
        refine gg_iretz dX6_holds_31 rfl (by decide) ⟨rfl, rfl⟩ ?_
        refine ⟨rfl, ?_⟩ <;> omega
      · refine gg_iload_n dX6_holds_16 1 rfl ?_
        refine gg_aload_n dX6_holds_17 0 rfl ?_
        refine gg_getI rfl gf_RX6_19 dX6_holds_18 (gSt_sh hs) (gSt_lt hs) (by decide) (by decide) ?_
        refine gg_toI (b := (sn : Int)) hsn ?_
        refine gg_iload_n dX6_holds_21 2 rfl ?_
        refine gg_isub dX6_holds_22 ?_
        refine gg_icmp_gt (tgt := 30) dX6_holds_23 (by decide) (by omega) (fun hb4 => ?_) (fun hb4 => ?_)
        · refine gg_iconst dX6_holds_30 ?_
          refine gg_iretz dX6_holds_31 rfl (by decide) ⟨rfl, rfl⟩ ?_
          refine ⟨rfl, ?_⟩ <;> omega
        · refine gg_iconst dX6_holds_26 ?_
          refine gg_goto (tgt := 31) dX6_holds_27 (by decide) ?_
          refine gg_iretz dX6_holds_31 rfl (by decide) ⟨rfl, rfl⟩ ?_
          refine ⟨rfl, ?_⟩ <;> omega

set_option maxRecDepth 10000 in
theorem w_X6_begin {l : Launch} {Γ : gC} {ad : Nat → Nat} {I0 : Nat → Nat → Int} {J : Nat → Nat → Int64} {d : Nat} {s n : Nat} (hs : s < 4) (hn : n ≤ 40) : ∀ (m : Nat) (j : Nat) (I : Nat → Nat → Int), n - j < m → (j ≤ n) → (I (137 + 2 * s) 2 = (n : Int)) → (∀ p, p ≠ (138 + 2 * s) → I p = I0 p) → (∀ t, t < j → I (138 + 2 * s) t = 0) → gG l Γ gm_X6_begin (d, 0, 0, 0, 0) 21 [(3, .int (iv (j : Int))), (0, .ref (gad (gSS ad) (137 + 2 * s)))] [] (gSS ad, I, J) (gDv (fun μ => ∃ I', μ = (gSS ad, I', J) ∧ (∀ p, p ≠ (138 + 2 * s) → I' p = I0 p) ∧ ∀ t, t < n → I' (138 + 2 * s) t = 0)) := by
  intro m
  induction m with
  | zero => intros; omega
  | succ m ih =>
    intro j I hm hj hsn hI hz
    refine gg_iload_n dX6_begin_21 0 rfl ?_
    refine gg_aload_n dX6_begin_22 1 rfl ?_
    refine gg_getI rfl gf_RX6_19 dX6_begin_23 (gSt_sh hs) (gSt_lt hs) (by decide) (by decide) ?_
    refine gg_toI (b := (n : Int)) hsn ?_
    refine gg_icmp_ge (tgt := 42) dX6_begin_26 (by decide) (by omega) (fun hb => ?_) (fun hb => ?_)
    · refine gg_vretv dX6_begin_42 rfl ⟨rfl, rfl⟩ ?_
      exact ⟨I, rfl, hI, fun t ht => hz t (by omega)⟩
    · refine gg_aload_n dX6_begin_29 1 rfl ?_
      refine gg_getR (k' := (138 + 2 * s)) rfl gf_RX6_9 dX6_begin_30 (gSt_sh hs) (gSt_lt hs) (by decide) (by decide) (gSt_r hs) ?_
      refine gg_iload_n dX6_begin_33 0 rfl ?_
      refine gg_iconst dX6_begin_34 ?_
      refine gg_iastj j dX6_begin_35 (gSt_rs hs) (gSt_rl hs) (by decide) rfl (by omega) ?_
      refine gg_memI (fun I1 hI1 => ?_)
      refine gg_iincv (ls' := [(3, .int (iv ((j + 1 : Nat) : Int))), (0, .ref (gad (gSS ad) (137 + 2 * s)))]) dX6_begin_36 0 rfl (by omega) (by decide) rfl ?_
      refine gg_goto (tgt := 21) dX6_begin_39 (by decide) ?_
      refine ih (j + 1) I1 (by omega) (by omega) (by rw [hI1, gu_other (by omega)]; exact hsn) (fun p hp => by rw [hI1, gu_other hp]; exact hI p hp) (fun t ht => ?_)
      rw [hI1]
      by_cases htj : t = j
      · subst htj
        exact gu_s
      · rw [gu_n (by omega)]
        exact hz t (by omega)

set_option maxRecDepth 10000 in
theorem c_X6_begin {l : Launch} {Γ : gC} {ad : Nat → Nat} {I : Nat → Nat → Int} {J : Nat → Nat → Int64} {d : Nat} {s : Nat} (hs : s < 4) {so : Int} {n : Nat} (hn : n ≤ 40) (hd : 2 ≤ d) : gKv l Γ gm_X6_begin d [.ref (gad (gSS ad) (137 + 2 * s)), .int (iv so), .int (iv (n : Int))] (gSS ad, I, J) (fun μ => ∃ I', μ = (gSS ad, I', J) ∧ (∀ p, p ≠ (138 + 2 * s) → I' p = gu (gu I (137 + 2 * s) 1 so) (137 + 2 * s) 2 (n : Int) p) ∧ ∀ t, t < n → I' (138 + 2 * s) t = 0) := by
  refine gKv_of gk_X6_begin.1 (Nat.le_of_ble_eq_true rfl) ?_
  show gG l Γ gm_X6_begin (d, 0, 0, 0, 0) 0 [(0, .ref (gad (gSS ad) (137 + 2 * s))), (1, .int (iv so)), (2, .int (iv (n : Int)))] [] _ _
  refine gg_aload_n dX6_begin_0 0 rfl ?_
  refine gg_iload_n dX6_begin_1 1 rfl ?_
  refine gg_putI rfl gf_RX6_15 dX6_begin_2 (gSt_sh hs) (gSt_lt hs) (by decide) (by decide) (by decide) (gfit_i _) ?_
  refine gg_aload_n dX6_begin_5 0 rfl ?_
  refine gg_iconst dX6_begin_6 ?_
  refine gg_bipush dX6_begin_7 (by decide) ?_
  refine gg_iload_n dX6_begin_9 2 rfl ?_
  refine gg_mmin rfl gl_RX6_22 dX6_begin_10 (by omega) (Nat.le_of_ble_eq_true rfl) (by omega) ⟨Nat.le_refl _, Nat.le_refl _⟩ ?_
  refine gg_mmax rfl gl_RX6_28 dX6_begin_13 (by omega) (Nat.le_of_ble_eq_true rfl) (by omega) ⟨Nat.le_refl _, Nat.le_refl _⟩ ?_
  refine gg_toI (b := (n : Int)) (by omega) ?_
  refine gg_putI rfl gf_RX6_19 dX6_begin_16 (gSt_sh hs) (gSt_lt hs) (by decide) (by decide) (by decide) (gfit_i _) ?_
  refine gg_iconst dX6_begin_19 ?_
  refine gg_istore_n (ls' := [(3, .int (iv 0)), (0, .ref (gad (gSS ad) (137 + 2 * s))), (1, .int (iv so)), (2, .int (iv (n : Int)))]) dX6_begin_20 rfl (by decide) rfl ?_
  refine gg_sub [0, 1] rfl ?_
  refine w_X6_begin hs hn (n + 1) 0 _ (by omega) (by omega) ?_ (fun p hp => rfl) (fun t ht => absurd ht (Nat.not_lt_zero _))
  simp [gu]

set_option maxRecDepth 10000 in
theorem c_X6_take {l : Launch} {Γ : gC} {ad : Nat → Nat} {I : Nat → Nat → Int} {J : Nat → Nat → Int64} {d : Nat} {s s' : Nat} (hs : s < 4) (hs' : s' < 4) {so so' : Int} {sn sn' : Nat} (hso : I (137 + 2 * s) 1 = so) (hsn : I (137 + 2 * s) 2 = (sn : Int)) (hr : -1 ≤ so ∧ so ≤ 1) (hn : sn ≤ 40) (hso' : I (137 + 2 * s') 1 = so') (hsn' : I (137 + 2 * s') 2 = (sn' : Int)) (hr' : -1 ≤ so' ∧ so' ≤ 1) (hn' : sn' ≤ 40) {i j n : Nat} (hj : j + n ≤ sn) (hi : i + n ≤ sn') (hd : 2 ≤ d) : gKv l Γ gm_X6_take d [.ref (gad (gSS ad) (137 + 2 * s)), .int (iv (j : Int)), .ref (gad (gSS ad) (137 + 2 * s')), .int (iv (i : Int)), .int (iv (n : Int))] (gSS ad, I, J) (fun μ => μ = (gSS ad, gur I (138 + 2 * s) (va_cpy (I (138 + 2 * s')) (I (138 + 2 * s)) i j n), J)) := by
  refine gKv_of gk_X6_take.1 (Nat.le_of_ble_eq_true rfl) ?_
  show gG l Γ gm_X6_take (d, 0, 0, 0, 0) 0 [(0, .ref (gad (gSS ad) (137 + 2 * s))), (1, .int (iv (j : Int))), (2, .ref (gad (gSS ad) (137 + 2 * s'))), (3, .int (iv (i : Int))), (4, .int (iv (n : Int)))] [] _ _
  refine gg_aload_n dX6_take_0 0 rfl ?_
  refine gg_iload_n dX6_take_1 1 rfl ?_
  refine gg_iload dX6_take_2 4 rfl ?_
  refine gg_callVi (own := RX6) (yt := gm_X6_holds) rfl gl_RX6_31 gk_X6_holds gr_X6_holds dX6_take_4 (c_X6_holds (d := d - 1) hs hso hsn hr hn (by omega) (by omega)) (gSt_sh hs) (gSt_lt hs) (by decide) rfl rfl rfl (Nat.le_of_ble_eq_true rfl) (by show _ ≤ d; omega) ⟨Nat.le_refl _, Nat.le_refl _⟩ (fun e1 μ' hc => ?_)
  obtain ⟨rfl, ⟨rfl, hb2⟩ | ⟨rfl, hb2⟩⟩ := hc
  rotate_left
  · omega
  refine gg_if_eq_f (tgt := 35) dX6_take_7 (by decide) (by decide) (by decide) ?_
  refine gg_aload_n dX6_take_10 2 rfl ?_
  refine gg_iload_n dX6_take_11 3 rfl ?_
  refine gg_iload dX6_take_12 4 rfl ?_
  refine gg_callVi (own := RX6) (yt := gm_X6_holds) rfl gl_RX6_31 gk_X6_holds gr_X6_holds dX6_take_14 (c_X6_holds (d := d - 1) hs' hso' hsn' hr' hn' (by omega) (by omega)) (gSt_sh hs') (gSt_lt hs') (by decide) rfl rfl rfl (Nat.le_of_ble_eq_true rfl) (by show _ ≤ d; omega) ⟨Nat.le_refl _, Nat.le_refl _⟩ (fun e3 μ' hc => ?_)
  obtain ⟨rfl, ⟨rfl, hb4⟩ | ⟨rfl, hb4⟩⟩ := hc
  rotate_left
  · omega
  refine gg_if_eq_f (tgt := 35) dX6_take_17 (by decide) (by decide) (by decide) ?_
  refine gg_aload_n dX6_take_20 2 rfl ?_
  refine gg_getR (k' := (138 + 2 * s')) rfl gf_RX6_9 dX6_take_21 (gSt_sh hs') (gSt_lt hs') (by decide) (by decide) (gSt_r hs') ?_
  refine gg_iload_n dX6_take_24 3 rfl ?_
  refine gg_aload_n dX6_take_25 0 rfl ?_
  refine gg_getR (k' := (138 + 2 * s)) rfl gf_RX6_9 dX6_take_26 (gSt_sh hs) (gSt_lt hs) (by decide) (by decide) (gSt_r hs) ?_
  refine gg_iload_n dX6_take_29 1 rfl ?_
  refine gg_iload dX6_take_30 4 rfl ?_
  refine gg_copyi rfl gl_RX6_35 dX6_take_32 (gSt_rs hs') (gSt_rl hs') (gSt_rs hs) (gSt_rl hs) (by omega) (by decide) (Nat.le_of_ble_eq_true rfl) (by omega) ⟨Nat.le_refl _, Nat.le_refl _⟩ ?_
  refine gg_vretv dX6_take_35 rfl ⟨rfl, rfl⟩ ?_
  simp only [Int.toNat_natCast]

set_option maxRecDepth 10000 in
theorem c_X9_sheet_m {l : Launch} {Γ : gC} {ad : Nat → Nat} {I : Nat → Nat → Int} {J : Nat → Nat → Int64} {d : Nat} {s : Nat} (hs : s < 4) {n : Int} (hd : 3 ≤ d) : gKi l Γ gm_X9_sheet d [.ref (gad (gSS ad) 0), .int (iv (s : Int)), .int (iv (-1)), .int (iv n)] (gSS ad, I, J) (fun e μ => μ = (gSS ad, gu (gu I (137 + 2 * s) 1 (-1)) (137 + 2 * s) 2 0, J) ∧ e = 1) := by
  refine gKi_of gk_X9_sheet.1 (Nat.le_of_ble_eq_true rfl) ?_
  show gG l Γ gm_X9_sheet (d, 0, 0, 0, 0) 0 [(0, .ref (gad (gSS ad) 0)), (1, .int (iv (s : Int))), (2, .int (iv (-1))), (3, .int (iv n))] [] _ _
  refine gg_iload_n dX9_sheet_0 1 rfl ?_
  refine gg_callSi (own := RX9) (yt := gm_X9_isSheet) rfl gl_RX9_236 gk_X9_isSheet gr_X9_isSheet dX9_sheet_1 (c_X9_isSheet (d := d - 1) (by omega)) rfl rfl (Nat.le_of_ble_eq_true rfl) (by show _ ≤ d; omega) ⟨Nat.le_refl _, Nat.le_refl _⟩ (fun e1 μ' hc => ?_)
  obtain ⟨rfl, ⟨rfl, hb2⟩ | ⟨rfl, hb2⟩⟩ := hc
  rotate_left
  · omega
  refine gg_if_eq_f (tgt := 17) dX9_sheet_4 (by decide) (by decide) (by decide) ?_
  refine gg_iload_n dX9_sheet_7 2 rfl ?_
  refine gg_iconst dX9_sheet_8 ?_
  refine gg_icmp_lt_f (tgt := 17) dX9_sheet_9 (by decide) (by decide) (by decide) ?_
  refine gg_iload_n dX9_sheet_12 2 rfl ?_
  refine gg_iconst dX9_sheet_13 ?_
  refine gg_icmp_le_t (tgt := 20) dX9_sheet_14 (by decide) (by decide) (by decide) ?_
  refine gg_iload_n dX9_sheet_20 2 rfl ?_
  refine gg_if_ge_f (tgt := 35) dX9_sheet_21 (by decide) (by decide) (by decide) ?_
  refine gg_aload_n dX9_sheet_24 0 rfl ?_
  refine gg_getR (k' := 5) rfl gf_RX9_27 dX9_sheet_25 sh_0 pl_0 (by decide) (by decide) rr_0_5 ?_
  refine gg_iload_n dX9_sheet_28 1 rfl ?_
  refine gg_aaldj (t := 5) s (k' := (137 + 2 * s)) dX9_sheet_29 sh_5 (by decide) pl_5 (by decide) rfl hs (rr_5 hs) ?_
  refine gg_callVv (own := RX9) (yt := gm_X6_remove) rfl gl_RX9_288 gk_X6_remove gr_X6_remove dX9_sheet_30 (c_X6_remove (d := d - 1) hs) (gSt_sh hs) (gSt_lt hs) (by decide) rfl rfl rfl (Nat.le_of_ble_eq_true rfl) (by show _ ≤ d; omega) ⟨Nat.le_refl _, Nat.le_refl _⟩ (fun μ' hc => ?_)
  obtain rfl := hc
  refine gg_iconst dX9_sheet_33 ?_
  refine gg_ireti dX9_sheet_34 rfl ⟨rfl, rfl⟩ ?_
  exact ⟨rfl, rfl⟩

set_option maxRecDepth 10000 in
theorem c_X9_sheet_n {l : Launch} {Γ : gC} {ad : Nat → Nat} {I : Nat → Nat → Int} {J : Nat → Nat → Int64} {d : Nat} {s : Nat} (hs : s < 4) {so n : Int} (hso : 0 ≤ so ∧ so ≤ 1) (hn : -2147483648 ≤ n ∧ n < 0) (hd : 3 ≤ d) : gKi l Γ gm_X9_sheet d [.ref (gad (gSS ad) 0), .int (iv (s : Int)), .int (iv so), .int (iv n)] (gSS ad, I, J) (fun e μ => μ = (gSS ad, I, J) ∧ e = -14) := by
  refine gKi_of gk_X9_sheet.1 (Nat.le_of_ble_eq_true rfl) ?_
  show gG l Γ gm_X9_sheet (d, 0, 0, 0, 0) 0 [(0, .ref (gad (gSS ad) 0)), (1, .int (iv (s : Int))), (2, .int (iv so)), (3, .int (iv n))] [] _ _
  refine gg_iload_n dX9_sheet_0 1 rfl ?_
  refine gg_callSi (own := RX9) (yt := gm_X9_isSheet) rfl gl_RX9_236 gk_X9_isSheet gr_X9_isSheet dX9_sheet_1 (c_X9_isSheet (d := d - 1) (by omega)) rfl rfl (Nat.le_of_ble_eq_true rfl) (by show _ ≤ d; omega) ⟨Nat.le_refl _, Nat.le_refl _⟩ (fun e1 μ' hc => ?_)
  obtain ⟨rfl, ⟨rfl, hb2⟩ | ⟨rfl, hb2⟩⟩ := hc
  rotate_left
  · omega
  refine gg_if_eq_f (tgt := 17) dX9_sheet_4 (by decide) (by decide) (by decide) ?_
  refine gg_iload_n dX9_sheet_7 2 rfl ?_
  refine gg_iconst dX9_sheet_8 ?_
  refine gg_icmp_lt_f (tgt := 17) dX9_sheet_9 (by decide) (by omega) (by omega) ?_
  refine gg_iload_n dX9_sheet_12 2 rfl ?_
  refine gg_iconst dX9_sheet_13 ?_
  refine gg_icmp_le_t (tgt := 20) dX9_sheet_14 (by decide) (by omega) (by omega) ?_
  refine gg_iload_n dX9_sheet_20 2 rfl ?_
  refine gg_if_ge_t (tgt := 35) dX9_sheet_21 (by decide) (by omega) (by omega) ?_
  refine gg_iload_n dX9_sheet_35 3 rfl ?_
  refine gg_bipush dX9_sheet_36 (by decide) ?_
  refine gg_icmp_le_t (tgt := 44) dX9_sheet_38 (by decide) (by omega) (by omega) ?_
  refine gg_iload_n dX9_sheet_44 3 rfl ?_
  refine gg_if_ge_f (tgt := 51) dX9_sheet_45 (by decide) (by omega) (by omega) ?_
  refine gg_bipush dX9_sheet_48 (by decide) ?_
  refine gg_ireti dX9_sheet_50 rfl ⟨rfl, rfl⟩ ?_
  exact ⟨rfl, rfl⟩

set_option maxRecDepth 10000 in
theorem c_X9_sheet_b {l : Launch} {Γ : gC} {ad : Nat → Nat} {I : Nat → Nat → Int} {J : Nat → Nat → Int64} {d : Nat} {s : Nat} (hs : s < 4) {so : Int} {n : Nat} (hso : 0 ≤ so ∧ so ≤ 1) (hn : n ≤ 40) (hd : 3 ≤ d) : gKi l Γ gm_X9_sheet d [.ref (gad (gSS ad) 0), .int (iv (s : Int)), .int (iv so), .int (iv (n : Int))] (gSS ad, I, J) (fun e μ => ∃ I', μ = (gSS ad, I', J) ∧ (∀ p, p ≠ (138 + 2 * s) → I' p = gu (gu I (137 + 2 * s) 1 so) (137 + 2 * s) 2 (n : Int) p) ∧ (∀ t, t < n → I' (138 + 2 * s) t = 0) ∧ e = 1) := by
  refine gKi_of gk_X9_sheet.1 (Nat.le_of_ble_eq_true rfl) ?_
  show gG l Γ gm_X9_sheet (d, 0, 0, 0, 0) 0 [(0, .ref (gad (gSS ad) 0)), (1, .int (iv (s : Int))), (2, .int (iv so)), (3, .int (iv (n : Int)))] [] _ _
  refine gg_iload_n dX9_sheet_0 1 rfl ?_
  refine gg_callSi (own := RX9) (yt := gm_X9_isSheet) rfl gl_RX9_236 gk_X9_isSheet gr_X9_isSheet dX9_sheet_1 (c_X9_isSheet (d := d - 1) (by omega)) rfl rfl (Nat.le_of_ble_eq_true rfl) (by show _ ≤ d; omega) ⟨Nat.le_refl _, Nat.le_refl _⟩ (fun e1 μ' hc => ?_)
  obtain ⟨rfl, ⟨rfl, hb2⟩ | ⟨rfl, hb2⟩⟩ := hc
  rotate_left
  · omega
  refine gg_if_eq_f (tgt := 17) dX9_sheet_4 (by decide) (by decide) (by decide) ?_
  refine gg_iload_n dX9_sheet_7 2 rfl ?_
  refine gg_iconst dX9_sheet_8 ?_
  refine gg_icmp_lt_f (tgt := 17) dX9_sheet_9 (by decide) (by omega) (by omega) ?_
  refine gg_iload_n dX9_sheet_12 2 rfl ?_
  refine gg_iconst dX9_sheet_13 ?_
  refine gg_icmp_le_t (tgt := 20) dX9_sheet_14 (by decide) (by omega) (by omega) ?_
  refine gg_iload_n dX9_sheet_20 2 rfl ?_
  refine gg_if_ge_t (tgt := 35) dX9_sheet_21 (by decide) (by omega) (by omega) ?_
  refine gg_iload_n dX9_sheet_35 3 rfl ?_
  refine gg_bipush dX9_sheet_36 (by decide) ?_
  refine gg_icmp_le_t (tgt := 44) dX9_sheet_38 (by decide) (by omega) (by omega) ?_
  refine gg_iload_n dX9_sheet_44 3 rfl ?_
  refine gg_if_ge_t (tgt := 51) dX9_sheet_45 (by decide) (by omega) (by omega) ?_
  refine gg_aload_n dX9_sheet_51 0 rfl ?_
  refine gg_getR (k' := 5) rfl gf_RX9_27 dX9_sheet_52 sh_0 pl_0 (by decide) (by decide) rr_0_5 ?_
  refine gg_iload_n dX9_sheet_55 1 rfl ?_
  refine gg_aaldj (t := 5) s (k' := (137 + 2 * s)) dX9_sheet_56 sh_5 (by decide) pl_5 (by decide) rfl hs (rr_5 hs) ?_
  refine gg_iload_n dX9_sheet_57 2 rfl ?_
  refine gg_iload_n dX9_sheet_58 3 rfl ?_
  refine gg_callVv (own := RX9) (yt := gm_X6_begin) rfl gl_RX9_265 gk_X6_begin gr_X6_begin dX9_sheet_59 (c_X6_begin (d := d - 1) hs hn (by omega)) (gSt_sh hs) (gSt_lt hs) (by decide) rfl rfl rfl (Nat.le_of_ble_eq_true rfl) (by show _ ≤ d; omega) ⟨Nat.le_refl _, Nat.le_refl _⟩ (fun μ' hc => ?_)
  obtain ⟨I2, rfl, hI2, hz2⟩ := hc
  refine gg_iconst dX9_sheet_62 ?_
  refine gg_ireti dX9_sheet_63 rfl ⟨rfl, rfl⟩ ?_
  exact ⟨I2, rfl, hI2, hz2, rfl⟩

set_option maxRecDepth 10000 in
theorem c_X9_sheet_out {l : Launch} {Γ : gC} {ad : Nat → Nat} {I : Nat → Nat → Int} {J : Nat → Nat → Int64} {d : Nat} {i so n : Int} (hi : -2147483648 ≤ i ∧ i ≤ 2147483647) (hso : -2147483648 ≤ so ∧ so ≤ 2147483647) (hn : -2147483648 ≤ n ∧ n ≤ 2147483647) (ho : ¬ (0 ≤ i ∧ i ≤ 3 ∧ -1 ≤ so ∧ so ≤ 1 ∧ (so < 0 ∨ n ≤ 40))) (hd : 3 ≤ d) : gKi l Γ gm_X9_sheet d [.ref (gad (gSS ad) 0), .int (iv i), .int (iv so), .int (iv n)] (gSS ad, I, J) (fun e μ => μ = (gSS ad, I, J) ∧ e = -2) := by
  refine gKi_of gk_X9_sheet.1 (Nat.le_of_ble_eq_true rfl) ?_
  show gG l Γ gm_X9_sheet (d, 0, 0, 0, 0) 0 [(0, .ref (gad (gSS ad) 0)), (1, .int (iv i)), (2, .int (iv so)), (3, .int (iv n))] [] _ _
  refine gg_iload_n dX9_sheet_0 1 rfl ?_
  refine gg_callSi (own := RX9) (yt := gm_X9_isSheet) rfl gl_RX9_236 gk_X9_isSheet gr_X9_isSheet dX9_sheet_1 (c_X9_isSheet (d := d - 1) (by omega)) rfl rfl (Nat.le_of_ble_eq_true rfl) (by show _ ≤ d; omega) ⟨Nat.le_refl _, Nat.le_refl _⟩ (fun e1 μ' hc => ?_)
  obtain ⟨rfl, ⟨rfl, hb2⟩ | ⟨rfl, hb2⟩⟩ := hc
  · refine gg_if_eq_f (tgt := 17) dX9_sheet_4 (by decide) (by decide) (by decide) ?_
    refine gg_iload_n dX9_sheet_7 2 rfl ?_
    refine gg_iconst dX9_sheet_8 ?_
    refine gg_icmp_lt (tgt := 17) dX9_sheet_9 (by decide) (by omega) (fun hb3 => ?_) (fun hb3 => ?_)
    · refine gg_bipush dX9_sheet_17 (by decide) ?_
      refine gg_ireti dX9_sheet_19 rfl ⟨rfl, rfl⟩ ?_
      exact ⟨rfl, rfl⟩
    · refine gg_iload_n dX9_sheet_12 2 rfl ?_
      refine gg_iconst dX9_sheet_13 ?_
      refine gg_icmp_le (tgt := 20) dX9_sheet_14 (by decide) (by omega) (fun hb4 => ?_) (fun hb4 => ?_)
      · refine gg_iload_n dX9_sheet_20 2 rfl ?_
        refine gg_if_ge (tgt := 35) dX9_sheet_21 (by decide) (by omega) (fun hb5 => ?_) (fun hb5 => ?_)
        · refine gg_iload_n dX9_sheet_35 3 rfl ?_
          refine gg_bipush dX9_sheet_36 (by decide) ?_
          refine gg_icmp_le (tgt := 44) dX9_sheet_38 (by decide) (by omega) (fun hb6 => ?_) (fun hb6 => ?_)
          · exfalso
            omega
          · refine gg_bipush dX9_sheet_41 (by decide) ?_
            refine gg_ireti dX9_sheet_43 rfl ⟨rfl, rfl⟩ ?_
            exact ⟨rfl, rfl⟩
        · exfalso
          omega
      · refine gg_bipush dX9_sheet_17 (by decide) ?_
        refine gg_ireti dX9_sheet_19 rfl ⟨rfl, rfl⟩ ?_
        exact ⟨rfl, rfl⟩
  · refine gg_if_eq_t (tgt := 17) dX9_sheet_4 (by decide) (by decide) (by decide) ?_
    refine gg_bipush dX9_sheet_17 (by decide) ?_
    refine gg_ireti dX9_sheet_19 rfl ⟨rfl, rfl⟩ ?_
    exact ⟨rfl, rfl⟩

set_option maxRecDepth 10000 in
theorem c_X9_cell {l : Launch} {Γ : gC} {ad : Nat → Nat} {I : Nat → Nat → Int} {J : Nat → Nat → Int64} {d : Nat} {s : Nat} (hs : s < 4) {so : Int} {sn : Nat} (hso : I (137 + 2 * s) 1 = so) (hsn : I (137 + 2 * s) 2 = (sn : Int)) (hr : -1 ≤ so ∧ so ≤ 1) (hn : sn ≤ 40) {i v : Int} (hi : -2147483648 ≤ i ∧ i ≤ 2147483647) (hd : 3 ≤ d) : gKi l Γ gm_X9_cell d [.ref (gad (gSS ad) 0), .int (iv (s : Int)), .int (iv i), .int (iv v)] (gSS ad, I, J) (fun e μ => (so < 0 ∧ μ = (gSS ad, I, J) ∧ e = -11) ∨ (0 ≤ so ∧ ¬ (0 ≤ i ∧ i < (sn : Int)) ∧ μ = (gSS ad, I, J) ∧ e = -12) ∨ (0 ≤ so ∧ 0 ≤ i ∧ i < (sn : Int) ∧ μ = (gSS ad, gu I (138 + 2 * s) i.toNat (if so = 0 then gi2s v else v), J) ∧ e = 1)) := by
  refine gKi_of gk_X9_cell.1 (Nat.le_of_ble_eq_true rfl) ?_
  show gG l Γ gm_X9_cell (d, 0, 0, 0, 0) 0 [(0, .ref (gad (gSS ad) 0)), (1, .int (iv (s : Int))), (2, .int (iv i)), (3, .int (iv v))] [] _ _
  refine gg_iload_n dX9_cell_0 1 rfl ?_
  refine gg_callSi (own := RX9) (yt := gm_X9_isSheet) rfl gl_RX9_236 gk_X9_isSheet gr_X9_isSheet dX9_cell_1 (c_X9_isSheet (d := d - 1) (by omega)) rfl rfl (Nat.le_of_ble_eq_true rfl) (by show _ ≤ d; omega) ⟨Nat.le_refl _, Nat.le_refl _⟩ (fun e1 μ' hc => ?_)
  obtain ⟨rfl, ⟨rfl, hb2⟩ | ⟨rfl, hb2⟩⟩ := hc
  rotate_left
  · omega
  refine gg_if_ne_t (tgt := 10) dX9_cell_4 (by decide) (by decide) (by decide) ?_
  refine gg_aload_n dX9_cell_10 0 rfl ?_
  refine gg_getR (k' := 5) rfl gf_RX9_27 dX9_cell_11 sh_0 pl_0 (by decide) (by decide) rr_0_5 ?_
  refine gg_iload_n dX9_cell_14 1 rfl ?_
  refine gg_aaldj (t := 5) s (k' := (137 + 2 * s)) dX9_cell_15 sh_5 (by decide) pl_5 (by decide) rfl hs (rr_5 hs) ?_
  refine gg_callVi (own := RX9) (yt := gm_X6_isMissing) rfl gl_RX9_245 gk_X6_isMissing gr_X6_isMissing dX9_cell_16 (c_X6_isMissing (d := d - 1) hs hso hsn hr hn) (gSt_sh hs) (gSt_lt hs) (by decide) rfl rfl rfl (Nat.le_of_ble_eq_true rfl) (by show _ ≤ d; omega) ⟨Nat.le_refl _, Nat.le_refl _⟩ (fun e3 μ' hc => ?_)
  obtain ⟨rfl, ⟨rfl, hm⟩ | ⟨rfl, hm⟩⟩ := hc
  · refine gg_if_eq_f (tgt := 25) dX9_cell_19 (by decide) (by decide) (by decide) ?_
    refine gg_bipush dX9_cell_22 (by decide) ?_
    refine gg_ireti dX9_cell_24 rfl ⟨rfl, rfl⟩ ?_
    first | exact Or.inl ⟨hm, rfl, rfl⟩ | exact Or.inr (Or.inl ⟨by omega, by omega, rfl, rfl⟩) | exact Or.inr (Or.inr ⟨by omega, by omega, by omega, rfl, rfl⟩)
  · refine gg_if_eq_t (tgt := 25) dX9_cell_19 (by decide) (by decide) (by decide) ?_
    refine gg_iload_n dX9_cell_25 2 rfl ?_
    refine gg_if_lt (tgt := 42) dX9_cell_26 (by decide) (by omega) (fun hb4 => ?_) (fun hb4 => ?_)
    · refine gg_bipush dX9_cell_42 (by decide) ?_
      refine gg_ireti dX9_cell_44 rfl ⟨rfl, rfl⟩ ?_
      first | exact Or.inl ⟨hm, rfl, rfl⟩ | exact Or.inr (Or.inl ⟨by omega, by omega, rfl, rfl⟩) | exact Or.inr (Or.inr ⟨by omega, by omega, by omega, rfl, rfl⟩)
    · refine gg_iload_n dX9_cell_29 2 rfl ?_
      refine gg_aload_n dX9_cell_30 0 rfl ?_
      refine gg_getR (k' := 5) rfl gf_RX9_27 dX9_cell_31 sh_0 pl_0 (by decide) (by decide) rr_0_5 ?_
      refine gg_iload_n dX9_cell_34 1 rfl ?_
      refine gg_aaldj (t := 5) s (k' := (137 + 2 * s)) dX9_cell_35 sh_5 (by decide) pl_5 (by decide) rfl hs (rr_5 hs) ?_
      refine gg_callVi (own := RX9) (yt := gm_X6_size) rfl gl_RX9_248 gk_X6_size gr_X6_size dX9_cell_36 (c_X6_size (d := d - 1) hs hso hsn hr hn) (gSt_sh hs) (gSt_lt hs) (by decide) rfl rfl rfl (Nat.le_of_ble_eq_true rfl) (by show _ ≤ d; omega) ⟨Nat.le_refl _, Nat.le_refl _⟩ (fun e5 μ' hc => ?_)
      obtain ⟨rfl, rfl⟩ := hc
      refine gg_icmp_lt (tgt := 45) dX9_cell_39 (by decide) (by omega) (fun hb6 => ?_) (fun hb6 => ?_)
      · obtain ⟨j, rfl⟩ : ∃ j : Nat, i = (j : Int) := ⟨i.toNat, by omega⟩
        refine gg_aload_n dX9_cell_45 0 rfl ?_
        refine gg_getR (k' := 5) rfl gf_RX9_27 dX9_cell_46 sh_0 pl_0 (by decide) (by decide) rr_0_5 ?_
        refine gg_iload_n dX9_cell_49 1 rfl ?_
        refine gg_aaldj (t := 5) s (k' := (137 + 2 * s)) dX9_cell_50 sh_5 (by decide) pl_5 (by decide) rfl hs (rr_5 hs) ?_
        refine gg_iload_n dX9_cell_51 2 rfl ?_
        refine gg_iload_n dX9_cell_52 3 rfl ?_
        refine gg_callVv (own := RX9) (yt := gm_X6_set) rfl gl_RX9_269 gk_X6_set gr_X6_set dX9_cell_53 (c_X6_set (d := d - 1) hs hso hsn hr hn (j := j) (by omega)) (gSt_sh hs) (gSt_lt hs) (by decide) rfl rfl rfl (Nat.le_of_ble_eq_true rfl) (by show _ ≤ d; omega) ⟨Nat.le_refl _, Nat.le_refl _⟩ (fun μ' hc => ?_)
        obtain rfl := hc
        refine gg_iconst dX9_cell_56 ?_
        refine gg_ireti dX9_cell_57 rfl ⟨rfl, rfl⟩ ?_
        first | exact Or.inl ⟨hm, rfl, rfl⟩ | exact Or.inr (Or.inl ⟨by omega, by omega, rfl, rfl⟩) | exact Or.inr (Or.inr ⟨by omega, by omega, by omega, rfl, rfl⟩)
      · refine gg_bipush dX9_cell_42 (by decide) ?_
        refine gg_ireti dX9_cell_44 rfl ⟨rfl, rfl⟩ ?_
        first | exact Or.inl ⟨hm, rfl, rfl⟩ | exact Or.inr (Or.inl ⟨by omega, by omega, rfl, rfl⟩) | exact Or.inr (Or.inr ⟨by omega, by omega, by omega, rfl, rfl⟩)

set_option maxRecDepth 10000 in
theorem c_X9_cell_out {l : Launch} {Γ : gC} {ad : Nat → Nat} {I : Nat → Nat → Int} {J : Nat → Nat → Int64} {d : Nat} {i k v : Int} (hi : -2147483648 ≤ i ∧ i ≤ 2147483647) (ho : ¬ (0 ≤ i ∧ i ≤ 3)) (hd : 3 ≤ d) : gKi l Γ gm_X9_cell d [.ref (gad (gSS ad) 0), .int (iv i), .int (iv k), .int (iv v)] (gSS ad, I, J) (fun e μ => μ = (gSS ad, I, J) ∧ e = -2) := by
  refine gKi_of gk_X9_cell.1 (Nat.le_of_ble_eq_true rfl) ?_
  show gG l Γ gm_X9_cell (d, 0, 0, 0, 0) 0 [(0, .ref (gad (gSS ad) 0)), (1, .int (iv i)), (2, .int (iv k)), (3, .int (iv v))] [] _ _
  refine gg_iload_n dX9_cell_0 1 rfl ?_
  refine gg_callSi (own := RX9) (yt := gm_X9_isSheet) rfl gl_RX9_236 gk_X9_isSheet gr_X9_isSheet dX9_cell_1 (c_X9_isSheet (d := d - 1) (by omega)) rfl rfl (Nat.le_of_ble_eq_true rfl) (by show _ ≤ d; omega) ⟨Nat.le_refl _, Nat.le_refl _⟩ (fun e1 μ' hc => ?_)
  obtain ⟨rfl, ⟨rfl, hb2⟩ | ⟨rfl, hb2⟩⟩ := hc
  · refine gg_if_ne_t (tgt := 10) dX9_cell_4 (by decide) (by decide) (by decide) ?_
    exfalso
    omega
  · refine gg_if_ne_f (tgt := 10) dX9_cell_4 (by decide) (by decide) (by decide) ?_
    refine gg_bipush dX9_cell_7 (by decide) ?_
    refine gg_ireti dX9_cell_9 rfl ⟨rfl, rfl⟩ ?_
    exact ⟨rfl, rfl⟩

/-- why a copy is refused; 0: it isn't -/
def gCp (so : Int) (sn : Nat) (so' : Int) (sn' : Nat) (i j n : Int) : Int := if so < 0 ∨ so' < 0 then -11 else if ¬ so = so' then -13 else if ¬ (0 ≤ i ∧ 0 ≤ j ∧ 0 ≤ n ∧ i + n ≤ (sn : Int) ∧ j + n ≤ (sn' : Int)) then -12 else 0
set_option maxRecDepth 10000 in
theorem c_X9_copy {l : Launch} {Γ : gC} {ad : Nat → Nat} {I : Nat → Nat → Int} {J : Nat → Nat → Int64} {d : Nat} {s s' : Nat} (hs : s < 4) (hs' : s' < 4) {so so' : Int} {sn sn' : Nat} (hso : I (137 + 2 * s) 1 = so) (hsn : I (137 + 2 * s) 2 = (sn : Int)) (hr : -1 ≤ so ∧ so ≤ 1) (hn : sn ≤ 40) (hso' : I (137 + 2 * s') 1 = so') (hsn' : I (137 + 2 * s') 2 = (sn' : Int)) (hr' : -1 ≤ so' ∧ so' ≤ 1) (hn' : sn' ≤ 40) {i j n : Int} (hi : -2147483648 ≤ i ∧ i ≤ 2147483647) (hj : -2147483648 ≤ j ∧ j ≤ 2147483647) (hn0 : -2147483648 ≤ n ∧ n ≤ 2147483647) (hd : 4 ≤ d) : gKi l Γ gm_X9_copy d [.ref (gad (gSS ad) 0), .int (iv (s : Int)), .int (iv i), .int (iv (s' : Int)), .int (iv j), .int (iv n)] (gSS ad, I, J) (fun e μ => (gCp so sn so' sn' i j n ≠ 0 ∧ μ = (gSS ad, I, J) ∧ e = gCp so sn so' sn' i j n) ∨ (gCp so sn so' sn' i j n = 0 ∧ μ = (gSS ad, gur I (138 + 2 * s') (va_cpy (I (138 + 2 * s)) (I (138 + 2 * s')) i.toNat j.toNat n.toNat), J) ∧ e = n)) := by
  refine gKi_of gk_X9_copy.1 (Nat.le_of_ble_eq_true rfl) ?_
  show gG l Γ gm_X9_copy (d, 0, 0, 0, 0) 0 [(0, .ref (gad (gSS ad) 0)), (1, .int (iv (s : Int))), (2, .int (iv i)), (3, .int (iv (s' : Int))), (4, .int (iv j)), (5, .int (iv n))] [] _ _
  refine gg_iload_n dX9_copy_0 1 rfl ?_
  refine gg_callSi (own := RX9) (yt := gm_X9_isSheet) rfl gl_RX9_236 gk_X9_isSheet gr_X9_isSheet dX9_copy_1 (c_X9_isSheet (d := d - 1) (by omega)) rfl rfl (Nat.le_of_ble_eq_true rfl) (by show _ ≤ d; omega) ⟨Nat.le_refl _, Nat.le_refl _⟩ (fun e1 μ' hc => ?_)
  obtain ⟨rfl, ⟨rfl, hb2⟩ | ⟨rfl, hb2⟩⟩ := hc
  rotate_left
  · omega
  refine gg_if_eq_f (tgt := 14) dX9_copy_4 (by decide) (by decide) (by decide) ?_
  refine gg_iload_n dX9_copy_7 3 rfl ?_
  refine gg_callSi (own := RX9) (yt := gm_X9_isSheet) rfl gl_RX9_236 gk_X9_isSheet gr_X9_isSheet dX9_copy_8 (c_X9_isSheet (d := d - 1) (by omega)) rfl rfl (Nat.le_of_ble_eq_true rfl) (by show _ ≤ d; omega) ⟨Nat.le_refl _, Nat.le_refl _⟩ (fun e3 μ' hc => ?_)
  obtain ⟨rfl, ⟨rfl, hb4⟩ | ⟨rfl, hb4⟩⟩ := hc
  rotate_left
  · omega
  refine gg_if_ne_t (tgt := 17) dX9_copy_11 (by decide) (by decide) (by decide) ?_
  refine gg_aload_n dX9_copy_17 0 rfl ?_
  refine gg_getR (k' := 5) rfl gf_RX9_27 dX9_copy_18 sh_0 pl_0 (by decide) (by decide) rr_0_5 ?_
  refine gg_iload_n dX9_copy_21 1 rfl ?_
  refine gg_aaldj (t := 5) s (k' := (137 + 2 * s)) dX9_copy_22 sh_5 (by decide) pl_5 (by decide) rfl hs (rr_5 hs) ?_
  refine gg_astore (ls' := [(6, .ref (gad (gSS ad) (137 + 2 * s))), (0, .ref (gad (gSS ad) 0)), (1, .int (iv (s : Int))), (2, .int (iv i)), (3, .int (iv (s' : Int))), (4, .int (iv j)), (5, .int (iv n))]) dX9_copy_23 (by decide) rfl ?_
  refine gg_aload_n dX9_copy_25 1 rfl ?_
  refine gg_getR (k' := 5) rfl gf_RX9_27 dX9_copy_26 sh_0 pl_0 (by decide) (by decide) rr_0_5 ?_
  refine gg_iload_n dX9_copy_29 4 rfl ?_
  refine gg_aaldj (t := 5) s' (k' := (137 + 2 * s')) dX9_copy_30 sh_5 (by decide) pl_5 (by decide) rfl hs' (rr_5 hs') ?_
  refine gg_astore (ls' := [(7, .ref (gad (gSS ad) (137 + 2 * s'))), (6, .ref (gad (gSS ad) (137 + 2 * s))), (0, .ref (gad (gSS ad) 0)), (1, .int (iv (s : Int))), (2, .int (iv i)), (3, .int (iv (s' : Int))), (4, .int (iv j)), (5, .int (iv n))]) dX9_copy_31 (by decide) rfl ?_
  refine gg_aload dX9_copy_33 1 rfl ?_
  refine gg_callVi (own := RX9) (yt := gm_X6_isMissing) rfl gl_RX9_245 gk_X6_isMissing gr_X6_isMissing dX9_copy_35 (c_X6_isMissing (d := d - 1) hs hso hsn hr hn) (gSt_sh hs) (gSt_lt hs) (by decide) rfl rfl rfl (Nat.le_of_ble_eq_true rfl) (by show _ ≤ d; omega) ⟨Nat.le_refl _, Nat.le_refl _⟩ (fun e5 μ' hc => ?_)
  obtain ⟨rfl, ⟨rfl, hm⟩ | ⟨rfl, hm⟩⟩ := hc
  · refine gg_if_ne_t (tgt := 49) dX9_copy_38 (by decide) (by decide) (by decide) ?_
    refine gg_bipush dX9_copy_49 (by decide) ?_
    refine gg_ireti dX9_copy_51 rfl ⟨rfl, rfl⟩ ?_
    refine Or.inl ?_
    have hz : gCp so sn so' sn' i j n = (-11) := by
      unfold gCp
      first | rw [if_pos (by omega)] | rw [if_neg (by omega), if_pos (by omega)] | rw [if_neg (by omega), if_neg (by omega), if_pos (by omega)]
    rw [hz]
    exact ⟨by decide, rfl, rfl⟩
  · refine gg_if_ne_f (tgt := 49) dX9_copy_38 (by decide) (by decide) (by decide) ?_
    refine gg_aload dX9_copy_41 0 rfl ?_
    refine gg_callVi (own := RX9) (yt := gm_X6_isMissing) rfl gl_RX9_245 gk_X6_isMissing gr_X6_isMissing dX9_copy_43 (c_X6_isMissing (d := d - 1) hs' hso' hsn' hr' hn') (gSt_sh hs') (gSt_lt hs') (by decide) rfl rfl rfl (Nat.le_of_ble_eq_true rfl) (by show _ ≤ d; omega) ⟨Nat.le_refl _, Nat.le_refl _⟩ (fun e6 μ' hc => ?_)
    obtain ⟨rfl, ⟨rfl, hm2⟩ | ⟨rfl, hm2⟩⟩ := hc
    · refine gg_if_eq_f (tgt := 52) dX9_copy_46 (by decide) (by decide) (by decide) ?_
      refine gg_bipush dX9_copy_49 (by decide) ?_
      refine gg_ireti dX9_copy_51 rfl ⟨rfl, rfl⟩ ?_
      refine Or.inl ?_
      have hz : gCp so sn so' sn' i j n = (-11) := by
        unfold gCp
        first | rw [if_pos (by omega)] | rw [if_neg (by omega), if_pos (by omega)] | rw [if_neg (by omega), if_neg (by omega), if_pos (by omega)]
      rw [hz]
      exact ⟨by decide, rfl, rfl⟩
    · refine gg_if_eq_t (tgt := 52) dX9_copy_46 (by decide) (by decide) (by decide) ?_
      refine gg_aload dX9_copy_52 1 rfl ?_
      refine gg_callVi (own := RX9) (yt := gm_X6_sort) rfl gl_RX9_291 gk_X6_sort gr_X6_sort dX9_copy_54 (c_X6_sort (d := d - 1) hs) (gSt_sh hs) (gSt_lt hs) (by decide) rfl rfl rfl (Nat.le_of_ble_eq_true rfl) (by show _ ≤ d; omega) ⟨Nat.le_refl _, Nat.le_refl _⟩ (fun e7 μ' hc => ?_)
      obtain ⟨rfl, rfl⟩ := hc
      refine gg_toI (b := so) hso ?_
      refine gg_aload dX9_copy_57 0 rfl ?_
      refine gg_callVi (own := RX9) (yt := gm_X6_sort) rfl gl_RX9_291 gk_X6_sort gr_X6_sort dX9_copy_59 (c_X6_sort (d := d - 1) hs') (gSt_sh hs') (gSt_lt hs') (by decide) rfl rfl rfl (Nat.le_of_ble_eq_true rfl) (by show _ ≤ d; omega) ⟨Nat.le_refl _, Nat.le_refl _⟩ (fun e8 μ' hc => ?_)
      obtain ⟨rfl, rfl⟩ := hc
      refine gg_toI (b := so') hso' ?_
      refine gg_icmp_eq (tgt := 68) dX9_copy_62 (by decide) (by omega) (fun hb9 => ?_) (fun hb9 => ?_)
      · refine gg_aload dX9_copy_68 1 rfl ?_
        refine gg_iload_n dX9_copy_70 4 rfl ?_
        refine gg_iload dX9_copy_71 7 rfl ?_
        refine gg_callVi (own := RX9) (yt := gm_X6_holds) rfl gl_RX9_294 gk_X6_holds gr_X6_holds dX9_copy_73 (c_X6_holds (d := d - 1) hs hso hsn hr hn (by omega) (by omega)) (gSt_sh hs) (gSt_lt hs) (by decide) rfl rfl rfl (Nat.le_of_ble_eq_true rfl) (by show _ ≤ d; omega) ⟨Nat.le_refl _, Nat.le_refl _⟩ (fun e10 μ' hc => ?_)
        obtain ⟨rfl, ⟨rfl, hh1⟩ | ⟨rfl, hh1⟩⟩ := hc
        · refine gg_if_eq_f (tgt := 91) dX9_copy_76 (by decide) (by decide) (by decide) ?_
          refine gg_aload dX9_copy_79 0 rfl ?_
          refine gg_iload dX9_copy_81 6 rfl ?_
          refine gg_iload dX9_copy_83 7 rfl ?_
          refine gg_callVi (own := RX9) (yt := gm_X6_holds) rfl gl_RX9_294 gk_X6_holds gr_X6_holds dX9_copy_85 (c_X6_holds (d := d - 1) hs' hso' hsn' hr' hn' (by omega) (by omega)) (gSt_sh hs') (gSt_lt hs') (by decide) rfl rfl rfl (Nat.le_of_ble_eq_true rfl) (by show _ ≤ d; omega) ⟨Nat.le_refl _, Nat.le_refl _⟩ (fun e11 μ' hc => ?_)
          obtain ⟨rfl, ⟨rfl, hh2⟩ | ⟨rfl, hh2⟩⟩ := hc
          · obtain ⟨i1, rfl⟩ : ∃ i1 : Nat, i = (i1 : Int) := ⟨i.toNat, by omega⟩
            obtain ⟨j1, rfl⟩ : ∃ j1 : Nat, j = (j1 : Int) := ⟨j.toNat, by omega⟩
            obtain ⟨n1, rfl⟩ : ∃ n1 : Nat, n = (n1 : Int) := ⟨n.toNat, by omega⟩
            refine gg_if_ne_t (tgt := 94) dX9_copy_88 (by decide) (by decide) (by decide) ?_
            refine gg_aload dX9_copy_94 0 rfl ?_
            refine gg_iload dX9_copy_96 6 rfl ?_
            refine gg_aload dX9_copy_98 1 rfl ?_
            refine gg_iload_n dX9_copy_100 4 rfl ?_
            refine gg_iload dX9_copy_101 7 rfl ?_
            refine gg_callVv (own := RX9) (yt := gm_X6_take) rfl gl_RX9_298 gk_X6_take gr_X6_take dX9_copy_103 (c_X6_take (d := d - 1) hs' hs hso' hsn' hr' hn' hso hsn hr hn (by omega) (by omega) (by omega)) (gSt_sh hs') (gSt_lt hs') (by decide) rfl rfl rfl (Nat.le_of_ble_eq_true rfl) (by show _ ≤ d; omega) ⟨Nat.le_refl _, Nat.le_refl _⟩ (fun μ' hc => ?_)
            obtain rfl := hc
            refine gg_iload dX9_copy_106 7 rfl ?_
            refine gg_ireti dX9_copy_108 rfl ⟨rfl, rfl⟩ ?_
            refine Or.inr ⟨?_, by simp only [Int.toNat_natCast], rfl⟩
            unfold gCp
            rw [if_neg (by omega), if_neg (by omega), if_neg (by omega)]
          · refine gg_if_ne_f (tgt := 94) dX9_copy_88 (by decide) (by decide) (by decide) ?_
            refine gg_bipush dX9_copy_91 (by decide) ?_
            refine gg_ireti dX9_copy_93 rfl ⟨rfl, rfl⟩ ?_
            refine Or.inl ?_
            have hz : gCp so sn so' sn' i j n = (-12) := by
              unfold gCp
              first | rw [if_pos (by omega)] | rw [if_neg (by omega), if_pos (by omega)] | rw [if_neg (by omega), if_neg (by omega), if_pos (by omega)]
            rw [hz]
            exact ⟨by decide, rfl, rfl⟩
        · refine gg_if_eq_t (tgt := 91) dX9_copy_76 (by decide) (by decide) (by decide) ?_
          refine gg_bipush dX9_copy_91 (by decide) ?_
          refine gg_ireti dX9_copy_93 rfl ⟨rfl, rfl⟩ ?_
          refine Or.inl ?_
          have hz : gCp so sn so' sn' i j n = (-12) := by
            unfold gCp
            first | rw [if_pos (by omega)] | rw [if_neg (by omega), if_pos (by omega)] | rw [if_neg (by omega), if_neg (by omega), if_pos (by omega)]
          rw [hz]
          exact ⟨by decide, rfl, rfl⟩
      · refine gg_bipush dX9_copy_65 (by decide) ?_
        refine gg_ireti dX9_copy_67 rfl ⟨rfl, rfl⟩ ?_
        refine Or.inl ?_
        have hz : gCp so sn so' sn' i j n = (-13) := by
          unfold gCp
          first | rw [if_pos (by omega)] | rw [if_neg (by omega), if_pos (by omega)] | rw [if_neg (by omega), if_neg (by omega), if_pos (by omega)]
        rw [hz]
        exact ⟨by decide, rfl, rfl⟩

set_option maxRecDepth 10000 in
theorem c_X9_copy_out {l : Launch} {Γ : gC} {ad : Nat → Nat} {I : Nat → Nat → Int} {J : Nat → Nat → Int64} {d : Nat} {a i b j n : Int} (ha : -2147483648 ≤ a ∧ a ≤ 2147483647) (hb : -2147483648 ≤ b ∧ b ≤ 2147483647) (ho : ¬ (0 ≤ a ∧ a ≤ 3 ∧ 0 ≤ b ∧ b ≤ 3)) (hd : 3 ≤ d) : gKi l Γ gm_X9_copy d [.ref (gad (gSS ad) 0), .int (iv a), .int (iv i), .int (iv b), .int (iv j), .int (iv n)] (gSS ad, I, J) (fun e μ => μ = (gSS ad, I, J) ∧ e = -2) := by
  refine gKi_of gk_X9_copy.1 (Nat.le_of_ble_eq_true rfl) ?_
  show gG l Γ gm_X9_copy (d, 0, 0, 0, 0) 0 [(0, .ref (gad (gSS ad) 0)), (1, .int (iv a)), (2, .int (iv i)), (3, .int (iv b)), (4, .int (iv j)), (5, .int (iv n))] [] _ _
  refine gg_iload_n dX9_copy_0 1 rfl ?_
  refine gg_callSi (own := RX9) (yt := gm_X9_isSheet) rfl gl_RX9_236 gk_X9_isSheet gr_X9_isSheet dX9_copy_1 (c_X9_isSheet (d := d - 1) (by omega)) rfl rfl (Nat.le_of_ble_eq_true rfl) (by show _ ≤ d; omega) ⟨Nat.le_refl _, Nat.le_refl _⟩ (fun e1 μ' hc => ?_)
  obtain ⟨rfl, ⟨rfl, hb2⟩ | ⟨rfl, hb2⟩⟩ := hc
  · refine gg_if_eq_f (tgt := 14) dX9_copy_4 (by decide) (by decide) (by decide) ?_
    refine gg_iload_n dX9_copy_7 3 rfl ?_
    refine gg_callSi (own := RX9) (yt := gm_X9_isSheet) rfl gl_RX9_236 gk_X9_isSheet gr_X9_isSheet dX9_copy_8 (c_X9_isSheet (d := d - 1) (by omega)) rfl rfl (Nat.le_of_ble_eq_true rfl) (by show _ ≤ d; omega) ⟨Nat.le_refl _, Nat.le_refl _⟩ (fun e3 μ' hc => ?_)
    obtain ⟨rfl, ⟨rfl, hb4⟩ | ⟨rfl, hb4⟩⟩ := hc
    · refine gg_if_ne_t (tgt := 17) dX9_copy_11 (by decide) (by decide) (by decide) ?_
      exfalso
      omega
    · refine gg_if_ne_f (tgt := 17) dX9_copy_11 (by decide) (by decide) (by decide) ?_
      refine gg_bipush dX9_copy_14 (by decide) ?_
      refine gg_ireti dX9_copy_16 rfl ⟨rfl, rfl⟩ ?_
      exact ⟨rfl, rfl⟩
  · refine gg_if_eq_t (tgt := 14) dX9_copy_4 (by decide) (by decide) (by decide) ?_
    refine gg_bipush dX9_copy_14 (by decide) ?_
    refine gg_ireti dX9_copy_16 rfl ⟨rfl, rfl⟩ ?_
    exact ⟨rfl, rfl⟩

