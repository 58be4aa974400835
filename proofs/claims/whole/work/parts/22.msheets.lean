/-! the reference's sheets; feed, count on both sides -/
set_option maxRecDepth 10000 in
theorem w_X10_sheet {l : Launch} {Γ : gC} {ad : Nat → Nat} {I0 : Nat → Nat → Int} {J : Nat → Nat → Int64} {d : Nat} {s : Nat} {so n : Int} (hs : s < 4) : ∀ (m : Nat) (j : Nat) (I : Nat → Nat → Int), 40 - j < m → (j ≤ 40) → (∀ p, p ≠ 240 + s → I p = I0 p) → (∀ t, t < j → I (240 + s) t = 0) → gG l Γ gm_X10_sheet (d, 0, 0, 0, 0) 65 [(4, .int (iv (j : Int))), (0, .ref (gad (gSS ad) 145)), (1, .int (iv (s : Int))), (2, .int (iv so)), (3, .int (iv n))] [] (gSS ad, I, J) (gDi (fun e μ => ∃ I', μ = (gSS ad, I', J) ∧ (∀ p, p ≠ 240 + s → I' p = I0 p) ∧ (∀ t, t < 40 → I' (240 + s) t = 0) ∧ e = 1)) := by
  intro m
  induction m with
  | zero => intros; omega
  | succ m ih =>
    intro j I hm hj hI hz
    refine gg_iload dX10_sheet_65 0 rfl ?_
    refine gg_bipush dX10_sheet_67 (by decide) ?_
    refine gg_icmp_ge (tgt := 88) dX10_sheet_69 (by decide) (by omega) (fun hb => ?_) (fun hb => ?_)
    · refine gg_iconst dX10_sheet_88 ?_
      refine gg_ireti dX10_sheet_89 rfl ⟨rfl, rfl⟩ ?_
      exact ⟨I, rfl, hI, fun t ht => hz t (by omega), rfl⟩
    · refine gg_aload_n dX10_sheet_72 1 rfl ?_
      refine gg_getR (k' := 239) rfl gf_RX10_78 dX10_sheet_73 sh_145 pl_145 (by decide) (by decide) rr_145_35 ?_
      refine gg_iload_n dX10_sheet_76 2 rfl ?_
      refine gg_aaldj (t := 6) s (k' := (240 + s)) dX10_sheet_77 sh_239 (by decide) pl_239 (by decide) rfl hs (rr_239 hs) ?_
      refine gg_iload dX10_sheet_78 0 rfl ?_
      refine gg_iconst dX10_sheet_80 ?_
      refine gg_iastj j dX10_sheet_81 (rs_239 hs) (rl_239 hs) (by decide) rfl (by omega) ?_
      refine gg_memI (fun I1 hI1 => ?_)
      refine gg_iincv (ls' := [(4, .int (iv ((j + 1 : Nat) : Int))), (0, .ref (gad (gSS ad) 145)), (1, .int (iv (s : Int))), (2, .int (iv so)), (3, .int (iv n))]) dX10_sheet_82 0 rfl (by omega) (by decide) rfl ?_
      refine gg_goto (tgt := 65) dX10_sheet_85 (by decide) ?_
      refine ih (j + 1) I1 (by omega) (by omega) (fun p hp => by rw [hI1, gu_other hp]; exact hI p hp) (fun t ht => ?_)
      rw [hI1]
      by_cases htj : t = j
      · subst htj
        exact gu_s
      · rw [gu_n (by omega)]
        exact hz t (by omega)

set_option maxRecDepth 10000 in
theorem c_X10_sheet {l : Launch} {Γ : gC} {ad : Nat → Nat} {I : Nat → Nat → Int} {J : Nat → Nat → Int64} {d : Nat} {s : Nat} (hs : s < 4) {so n : Int} (hso : -1 ≤ so ∧ so ≤ 1) (hn : -2147483648 ≤ n ∧ n ≤ 2147483647) (hok : so < 0 ∨ (0 ≤ n ∧ n ≤ 40)) (hd : 3 ≤ d) : gKi l Γ gm_X10_sheet d [.ref (gad (gSS ad) 145), .int (iv (s : Int)), .int (iv so), .int (iv n)] (gSS ad, I, J) (fun e μ => ∃ I', μ = (gSS ad, I', J) ∧ (∀ p, p ≠ 240 + s → I' p = gu (gu I 237 s so) 238 s (if so < 0 then 0 else n) p) ∧ (∀ t, t < 40 → I' (240 + s) t = 0) ∧ e = 1) := by
  refine gKi_of gk_X10_sheet.1 (Nat.le_of_ble_eq_true rfl) ?_
  show gG l Γ gm_X10_sheet (d, 0, 0, 0, 0) 0 [(0, .ref (gad (gSS ad) 145)), (1, .int (iv (s : Int))), (2, .int (iv so)), (3, .int (iv n))] [] _ _
  refine gg_iload_n dX10_sheet_0 1 rfl ?_
  refine gg_callSi (own := RX10) (yt := gm_X10_isSheet) rfl gl_RX10_347 gk_X10_isSheet gr_X10_isSheet dX10_sheet_1 (c_X10_isSheet (d := d - 1) (by omega) (by omega)) rfl rfl (Nat.le_of_ble_eq_true rfl) (by show _ ≤ d; omega) ⟨Nat.le_refl _, Nat.le_refl _⟩ (fun e1 μ' hc => ?_)
  obtain ⟨rfl, ⟨rfl, hb2⟩ | ⟨rfl, hb2⟩⟩ := hc
  rotate_left
  · omega
  refine gg_if_eq_f (tgt := 26) dX10_sheet_4 (by decide) (by decide) (by decide) ?_
  refine gg_iload_n dX10_sheet_7 2 rfl ?_
  refine gg_iconst dX10_sheet_8 ?_
  refine gg_iconst dX10_sheet_9 ?_
  refine gg_callSi (own := RX10) (yt := gm_X10_in) rfl gl_RX10_84 gk_X10_in gr_X10_in dX10_sheet_10 (c_X10_in (d := d - 1) (by omega)) rfl rfl (Nat.le_of_ble_eq_true rfl) (by show _ ≤ d; omega) ⟨Nat.le_refl _, Nat.le_refl _⟩ (fun e3 μ' hc => ?_)
  obtain ⟨rfl, ⟨rfl, hb4⟩ | ⟨rfl, hb4⟩⟩ := hc
  rotate_left
  · omega
  refine gg_if_eq_f (tgt := 26) dX10_sheet_13 (by decide) (by decide) (by decide) ?_
  refine gg_iload_n dX10_sheet_16 2 rfl ?_
  refine gg_if_lt (tgt := 29) dX10_sheet_17 (by decide) (by omega) (fun hb5 => ?_) (fun hb5 => ?_)
  · refine gg_iload_n dX10_sheet_29 2 rfl ?_
    refine gg_if_lt (tgt := 40) dX10_sheet_30 (by decide) (by omega) (fun hb6 => ?_) (fun hb6 => ?_)
    · refine gg_aload_n dX10_sheet_40 0 rfl ?_
      refine gg_getR (k' := 237) rfl gf_RX10_72 dX10_sheet_41 sh_145 pl_145 (by decide) (by decide) rr_145_33 ?_
      refine gg_iload_n dX10_sheet_44 1 rfl ?_
      refine gg_iload_n dX10_sheet_45 2 rfl ?_
      refine gg_iastj s dX10_sheet_46 sh_237 pl_237 (by decide) rfl hs ?_
      refine gg_aload_n dX10_sheet_47 0 rfl ?_
      refine gg_getR (k' := 238) rfl gf_RX10_75 dX10_sheet_48 sh_145 pl_145 (by decide) (by decide) rr_145_34 ?_
      refine gg_iload_n dX10_sheet_51 1 rfl ?_
      refine gg_iload_n dX10_sheet_52 2 rfl ?_
      refine gg_if_ge (tgt := 60) dX10_sheet_53 (by decide) (by omega) (fun hy => ?_) (fun hy => ?_)
      · have hx : ¬ so < 0 := by omega
        refine gg_iload_n dX10_sheet_60 3 rfl ?_
        refine gg_iastj s dX10_sheet_61 sh_238 pl_238 (by decide) rfl hs ?_
        refine gg_iconst dX10_sheet_62 ?_
        refine gg_istore (ls' := [(4, .int (iv 0)), (0, .ref (gad (gSS ad) 145)), (1, .int (iv (s : Int))), (2, .int (iv so)), (3, .int (iv n))]) dX10_sheet_63 (by decide) rfl ?_
        refine gg_sub [0, 1, 2, 3, 4] rfl ?_
        refine gG_post (w_X10_sheet hs 41 0 _ (by omega) (by omega) (fun p hp => rfl) (fun t ht => absurd ht (Nat.not_lt_zero _))) (fun r μ h => ?_)
        obtain ⟨e, rfl, I', rfl, h1, h2, h3⟩ := h
        refine ⟨e, rfl, I', rfl, fun p hp => ?_, h2, h3⟩
        rw [h1 p hp]
        simp [hx]
      · have hx : so < 0 := by omega
        refine gg_iconst dX10_sheet_56 ?_
        refine gg_goto (tgt := 61) dX10_sheet_57 (by decide) ?_
        refine gg_iastj s dX10_sheet_61 sh_238 pl_238 (by decide) rfl hs ?_
        refine gg_iconst dX10_sheet_62 ?_
        refine gg_istore (ls' := [(4, .int (iv 0)), (0, .ref (gad (gSS ad) 145)), (1, .int (iv (s : Int))), (2, .int (iv so)), (3, .int (iv n))]) dX10_sheet_63 (by decide) rfl ?_
        refine gg_sub [0, 1, 2, 3, 4] rfl ?_
        refine gG_post (w_X10_sheet hs 41 0 _ (by omega) (by omega) (fun p hp => rfl) (fun t ht => absurd ht (Nat.not_lt_zero _))) (fun r μ h => ?_)
        obtain ⟨e, rfl, I', rfl, h1, h2, h3⟩ := h
        refine ⟨e, rfl, I', rfl, fun p hp => ?_, h2, h3⟩
        rw [h1 p hp]
        simp [hx]
    · refine gg_iload_n dX10_sheet_33 3 rfl ?_
      refine gg_if_ge (tgt := 40) dX10_sheet_34 (by decide) (by omega) (fun hb7 => ?_) (fun hb7 => ?_)
      · refine gg_aload_n dX10_sheet_40 0 rfl ?_
        refine gg_getR (k' := 237) rfl gf_RX10_72 dX10_sheet_41 sh_145 pl_145 (by decide) (by decide) rr_145_33 ?_
        refine gg_iload_n dX10_sheet_44 1 rfl ?_
        refine gg_iload_n dX10_sheet_45 2 rfl ?_
        refine gg_iastj s dX10_sheet_46 sh_237 pl_237 (by decide) rfl hs ?_
        refine gg_aload_n dX10_sheet_47 0 rfl ?_
        refine gg_getR (k' := 238) rfl gf_RX10_75 dX10_sheet_48 sh_145 pl_145 (by decide) (by decide) rr_145_34 ?_
        refine gg_iload_n dX10_sheet_51 1 rfl ?_
        refine gg_iload_n dX10_sheet_52 2 rfl ?_
        refine gg_if_ge (tgt := 60) dX10_sheet_53 (by decide) (by omega) (fun hy => ?_) (fun hy => ?_)
        · have hx : ¬ so < 0 := by omega
          refine gg_iload_n dX10_sheet_60 3 rfl ?_
          refine gg_iastj s dX10_sheet_61 sh_238 pl_238 (by decide) rfl hs ?_
          refine gg_iconst dX10_sheet_62 ?_
          refine gg_istore (ls' := [(4, .int (iv 0)), (0, .ref (gad (gSS ad) 145)), (1, .int (iv (s : Int))), (2, .int (iv so)), (3, .int (iv n))]) dX10_sheet_63 (by decide) rfl ?_
          refine gg_sub [0, 1, 2, 3, 4] rfl ?_
          refine gG_post (w_X10_sheet hs 41 0 _ (by omega) (by omega) (fun p hp => rfl) (fun t ht => absurd ht (Nat.not_lt_zero _))) (fun r μ h => ?_)
          obtain ⟨e, rfl, I', rfl, h1, h2, h3⟩ := h
          refine ⟨e, rfl, I', rfl, fun p hp => ?_, h2, h3⟩
          rw [h1 p hp]
          simp [hx]
        · have hx : so < 0 := by omega
          refine gg_iconst dX10_sheet_56 ?_
          refine gg_goto (tgt := 61) dX10_sheet_57 (by decide) ?_
          refine gg_iastj s dX10_sheet_61 sh_238 pl_238 (by decide) rfl hs ?_
          refine gg_iconst dX10_sheet_62 ?_
          refine gg_istore (ls' := [(4, .int (iv 0)), (0, .ref (gad (gSS ad) 145)), (1, .int (iv (s : Int))), (2, .int (iv so)), (3, .int (iv n))]) dX10_sheet_63 (by decide) rfl ?_
          refine gg_sub [0, 1, 2, 3, 4] rfl ?_
          refine gG_post (w_X10_sheet hs 41 0 _ (by omega) (by omega) (fun p hp => rfl) (fun t ht => absurd ht (Nat.not_lt_zero _))) (fun r μ h => ?_)
          obtain ⟨e, rfl, I', rfl, h1, h2, h3⟩ := h
          refine ⟨e, rfl, I', rfl, fun p hp => ?_, h2, h3⟩
          rw [h1 p hp]
          simp [hx]
      · exfalso
        omega
  · refine gg_iload_n dX10_sheet_20 3 rfl ?_
    refine gg_bipush dX10_sheet_21 (by decide) ?_
    refine gg_icmp_le (tgt := 29) dX10_sheet_23 (by decide) (by omega) (fun hb8 => ?_) (fun hb8 => ?_)
    · refine gg_iload_n dX10_sheet_29 2 rfl ?_
      refine gg_if_lt (tgt := 40) dX10_sheet_30 (by decide) (by omega) (fun hb9 => ?_) (fun hb9 => ?_)
      · refine gg_aload_n dX10_sheet_40 0 rfl ?_
        refine gg_getR (k' := 237) rfl gf_RX10_72 dX10_sheet_41 sh_145 pl_145 (by decide) (by decide) rr_145_33 ?_
        refine gg_iload_n dX10_sheet_44 1 rfl ?_
        refine gg_iload_n dX10_sheet_45 2 rfl ?_
        refine gg_iastj s dX10_sheet_46 sh_237 pl_237 (by decide) rfl hs ?_
        refine gg_aload_n dX10_sheet_47 0 rfl ?_
        refine gg_getR (k' := 238) rfl gf_RX10_75 dX10_sheet_48 sh_145 pl_145 (by decide) (by decide) rr_145_34 ?_
        refine gg_iload_n dX10_sheet_51 1 rfl ?_
        refine gg_iload_n dX10_sheet_52 2 rfl ?_
        refine gg_if_ge (tgt := 60) dX10_sheet_53 (by decide) (by omega) (fun hy => ?_) (fun hy => ?_)
        · have hx : ¬ so < 0 := by omega
          refine gg_iload_n dX10_sheet_60 3 rfl ?_
          refine gg_iastj s dX10_sheet_61 sh_238 pl_238 (by decide) rfl hs ?_
          refine gg_iconst dX10_sheet_62 ?_
          refine gg_istore (ls' := [(4, .int (iv 0)), (0, .ref (gad (gSS ad) 145)), (1, .int (iv (s : Int))), (2, .int (iv so)), (3, .int (iv n))]) dX10_sheet_63 (by decide) rfl ?_
          refine gg_sub [0, 1, 2, 3, 4] rfl ?_
          refine gG_post (w_X10_sheet hs 41 0 _ (by omega) (by omega) (fun p hp => rfl) (fun t ht => absurd ht (Nat.not_lt_zero _))) (fun r μ h => ?_)
          obtain ⟨e, rfl, I', rfl, h1, h2, h3⟩ := h
          refine ⟨e, rfl, I', rfl, fun p hp => ?_, h2, h3⟩
          rw [h1 p hp]
          simp [hx]
        · have hx : so < 0 := by omega
          refine gg_iconst dX10_sheet_56 ?_
          refine gg_goto (tgt := 61) dX10_sheet_57 (by decide) ?_
          refine gg_iastj s dX10_sheet_61 sh_238 pl_238 (by decide) rfl hs ?_
          refine gg_iconst dX10_sheet_62 ?_
          refine gg_istore (ls' := [(4, .int (iv 0)), (0, .ref (gad (gSS ad) 145)), (1, .int (iv (s : Int))), (2, .int (iv so)), (3, .int (iv n))]) dX10_sheet_63 (by decide) rfl ?_
          refine gg_sub [0, 1, 2, 3, 4] rfl ?_
          refine gG_post (w_X10_sheet hs 41 0 _ (by omega) (by omega) (fun p hp => rfl) (fun t ht => absurd ht (Nat.not_lt_zero _))) (fun r μ h => ?_)
          obtain ⟨e, rfl, I', rfl, h1, h2, h3⟩ := h
          refine ⟨e, rfl, I', rfl, fun p hp => ?_, h2, h3⟩
          rw [h1 p hp]
          simp [hx]
      · refine gg_iload_n dX10_sheet_33 3 rfl ?_
        refine gg_if_ge (tgt := 40) dX10_sheet_34 (by decide) (by omega) (fun hb10 => ?_) (fun hb10 => ?_)
        · refine gg_aload_n dX10_sheet_40 0 rfl ?_
          refine gg_getR (k' := 237) rfl gf_RX10_72 dX10_sheet_41 sh_145 pl_145 (by decide) (by decide) rr_145_33 ?_
          refine gg_iload_n dX10_sheet_44 1 rfl ?_
          refine gg_iload_n dX10_sheet_45 2 rfl ?_
          refine gg_iastj s dX10_sheet_46 sh_237 pl_237 (by decide) rfl hs ?_
          refine gg_aload_n dX10_sheet_47 0 rfl ?_
          refine gg_getR (k' := 238) rfl gf_RX10_75 dX10_sheet_48 sh_145 pl_145 (by decide) (by decide) rr_145_34 ?_
          refine gg_iload_n dX10_sheet_51 1 rfl ?_
          refine gg_iload_n dX10_sheet_52 2 rfl ?_
          refine gg_if_ge (tgt := 60) dX10_sheet_53 (by decide) (by omega) (fun hy => ?_) (fun hy => ?_)
          · have hx : ¬ so < 0 := by omega
            refine gg_iload_n dX10_sheet_60 3 rfl ?_
            refine gg_iastj s dX10_sheet_61 sh_238 pl_238 (by decide) rfl hs ?_
            refine gg_iconst dX10_sheet_62 ?_
            refine gg_istore (ls' := [(4, .int (iv 0)), (0, .ref (gad (gSS ad) 145)), (1, .int (iv (s : Int))), (2, .int (iv so)), (3, .int (iv n))]) dX10_sheet_63 (by decide) rfl ?_
            refine gg_sub [0, 1, 2, 3, 4] rfl ?_
            refine gG_post (w_X10_sheet hs 41 0 _ (by omega) (by omega) (fun p hp => rfl) (fun t ht => absurd ht (Nat.not_lt_zero _))) (fun r μ h => ?_)
            obtain ⟨e, rfl, I', rfl, h1, h2, h3⟩ := h
            refine ⟨e, rfl, I', rfl, fun p hp => ?_, h2, h3⟩
            rw [h1 p hp]
            simp [hx]
          · have hx : so < 0 := by omega
            refine gg_iconst dX10_sheet_56 ?_
            refine gg_goto (tgt := 61) dX10_sheet_57 (by decide) ?_
            refine gg_iastj s dX10_sheet_61 sh_238 pl_238 (by decide) rfl hs ?_
            refine gg_iconst dX10_sheet_62 ?_
            refine gg_istore (ls' := [(4, .int (iv 0)), (0, .ref (gad (gSS ad) 145)), (1, .int (iv (s : Int))), (2, .int (iv so)), (3, .int (iv n))]) dX10_sheet_63 (by decide) rfl ?_
            refine gg_sub [0, 1, 2, 3, 4] rfl ?_
            refine gG_post (w_X10_sheet hs 41 0 _ (by omega) (by omega) (fun p hp => rfl) (fun t ht => absurd ht (Nat.not_lt_zero _))) (fun r μ h => ?_)
            obtain ⟨e, rfl, I', rfl, h1, h2, h3⟩ := h
            refine ⟨e, rfl, I', rfl, fun p hp => ?_, h2, h3⟩
            rw [h1 p hp]
            simp [hx]
        · exfalso
          omega
    · exfalso
      omega

set_option maxRecDepth 10000 in
theorem c_X10_sheet_n {l : Launch} {Γ : gC} {ad : Nat → Nat} {I : Nat → Nat → Int} {J : Nat → Nat → Int64} {d : Nat} {s : Nat} (hs : s < 4) {so n : Int} (hso : 0 ≤ so ∧ so ≤ 1) (hn : -2147483648 ≤ n ∧ n < 0) (hd : 3 ≤ d) : gKi l Γ gm_X10_sheet d [.ref (gad (gSS ad) 145), .int (iv (s : Int)), .int (iv so), .int (iv n)] (gSS ad, I, J) (fun e μ => μ = (gSS ad, I, J) ∧ e = -14) := by
  refine gKi_of gk_X10_sheet.1 (Nat.le_of_ble_eq_true rfl) ?_
  show gG l Γ gm_X10_sheet (d, 0, 0, 0, 0) 0 [(0, .ref (gad (gSS ad) 145)), (1, .int (iv (s : Int))), (2, .int (iv so)), (3, .int (iv n))] [] _ _
  refine gg_iload_n dX10_sheet_0 1 rfl ?_
  refine gg_callSi (own := RX10) (yt := gm_X10_isSheet) rfl gl_RX10_347 gk_X10_isSheet gr_X10_isSheet dX10_sheet_1 (c_X10_isSheet (d := d - 1) (by omega) (by omega)) rfl rfl (Nat.le_of_ble_eq_true rfl) (by show _ ≤ d; omega) ⟨Nat.le_refl _, Nat.le_refl _⟩ (fun e1 μ' hc => ?_)
  obtain ⟨rfl, ⟨rfl, hb2⟩ | ⟨rfl, hb2⟩⟩ := hc
  rotate_left
  · omega
  refine gg_if_eq_f (tgt := 26) dX10_sheet_4 (by decide) (by decide) (by decide) ?_
  refine gg_iload_n dX10_sheet_7 2 rfl ?_
  refine gg_iconst dX10_sheet_8 ?_
  refine gg_iconst dX10_sheet_9 ?_
  refine gg_callSi (own := RX10) (yt := gm_X10_in) rfl gl_RX10_84 gk_X10_in gr_X10_in dX10_sheet_10 (c_X10_in (d := d - 1) (by omega)) rfl rfl (Nat.le_of_ble_eq_true rfl) (by show _ ≤ d; omega) ⟨Nat.le_refl _, Nat.le_refl _⟩ (fun e3 μ' hc => ?_)
  obtain ⟨rfl, ⟨rfl, hb4⟩ | ⟨rfl, hb4⟩⟩ := hc
  rotate_left
  · omega
  refine gg_if_eq_f (tgt := 26) dX10_sheet_13 (by decide) (by decide) (by decide) ?_
  refine gg_iload_n dX10_sheet_16 2 rfl ?_
  refine gg_if_lt_f (tgt := 29) dX10_sheet_17 (by decide) (by omega) (by omega) ?_
  refine gg_iload_n dX10_sheet_20 3 rfl ?_
  refine gg_bipush dX10_sheet_21 (by decide) ?_
  refine gg_icmp_le_t (tgt := 29) dX10_sheet_23 (by decide) (by omega) (by omega) ?_
  refine gg_iload_n dX10_sheet_29 2 rfl ?_
  refine gg_if_lt_f (tgt := 40) dX10_sheet_30 (by decide) (by omega) (by omega) ?_
  refine gg_iload_n dX10_sheet_33 3 rfl ?_
  refine gg_if_ge_f (tgt := 40) dX10_sheet_34 (by decide) (by omega) (by omega) ?_
  refine gg_bipush dX10_sheet_37 (by decide) ?_
  refine gg_ireti dX10_sheet_39 rfl ⟨rfl, rfl⟩ ?_
  exact ⟨rfl, rfl⟩

set_option maxRecDepth 10000 in
theorem c_X10_sheet_out {l : Launch} {Γ : gC} {ad : Nat → Nat} {I : Nat → Nat → Int} {J : Nat → Nat → Int64} {d : Nat} {i so n : Int} (hi : -2147483648 ≤ i ∧ i ≤ 2147483647) (hso : -2147483648 ≤ so ∧ so ≤ 2147483647) (hn : -2147483648 ≤ n ∧ n ≤ 2147483647) (ho : ¬ (0 ≤ i ∧ i ≤ 3 ∧ -1 ≤ so ∧ so ≤ 1 ∧ (so < 0 ∨ n ≤ 40))) (hd : 3 ≤ d) : gKi l Γ gm_X10_sheet d [.ref (gad (gSS ad) 145), .int (iv i), .int (iv so), .int (iv n)] (gSS ad, I, J) (fun e μ => μ = (gSS ad, I, J) ∧ e = -2) := by
  refine gKi_of gk_X10_sheet.1 (Nat.le_of_ble_eq_true rfl) ?_
  show gG l Γ gm_X10_sheet (d, 0, 0, 0, 0) 0 [(0, .ref (gad (gSS ad) 145)), (1, .int (iv i)), (2, .int (iv so)), (3, .int (iv n))] [] _ _
  refine gg_iload_n dX10_sheet_0 1 rfl ?_
  refine gg_callSi (own := RX10) (yt := gm_X10_isSheet) rfl gl_RX10_347 gk_X10_isSheet gr_X10_isSheet dX10_sheet_1 (c_X10_isSheet (d := d - 1) (by omega) (by omega)) rfl rfl (Nat.le_of_ble_eq_true rfl) (by show _ ≤ d; omega) ⟨Nat.le_refl _, Nat.le_refl _⟩ (fun e1 μ' hc => ?_)
  obtain ⟨rfl, ⟨rfl, hb2⟩ | ⟨rfl, hb2⟩⟩ := hc
  · refine gg_if_eq_f (tgt := 26) dX10_sheet_4 (by decide) (by decide) (by decide) ?_
    refine gg_iload_n dX10_sheet_7 2 rfl ?_
    refine gg_iconst dX10_sheet_8 ?_
    refine gg_iconst dX10_sheet_9 ?_
    refine gg_callSi (own := RX10) (yt := gm_X10_in) rfl gl_RX10_84 gk_X10_in gr_X10_in dX10_sheet_10 (c_X10_in (d := d - 1) (by omega)) rfl rfl (Nat.le_of_ble_eq_true rfl) (by show _ ≤ d; omega) ⟨Nat.le_refl _, Nat.le_refl _⟩ (fun e3 μ' hc => ?_)
    obtain ⟨rfl, ⟨rfl, hb4⟩ | ⟨rfl, hb4⟩⟩ := hc
    · refine gg_if_eq_f (tgt := 26) dX10_sheet_13 (by decide) (by decide) (by decide) ?_
      refine gg_iload_n dX10_sheet_16 2 rfl ?_
      refine gg_if_lt (tgt := 29) dX10_sheet_17 (by decide) (by omega) (fun hb5 => ?_) (fun hb5 => ?_)
      · exfalso
        omega
      · refine gg_iload_n dX10_sheet_20 3 rfl ?_
        refine gg_bipush dX10_sheet_21 (by decide) ?_
        refine gg_icmp_le (tgt := 29) dX10_sheet_23 (by decide) (by omega) (fun hb6 => ?_) (fun hb6 => ?_)
        · exfalso
          omega
        · refine gg_bipush dX10_sheet_26 (by decide) ?_
          refine gg_ireti dX10_sheet_28 rfl ⟨rfl, rfl⟩ ?_
          exact ⟨rfl, rfl⟩
    · refine gg_if_eq_t (tgt := 26) dX10_sheet_13 (by decide) (by decide) (by decide) ?_
      refine gg_bipush dX10_sheet_26 (by decide) ?_
      refine gg_ireti dX10_sheet_28 rfl ⟨rfl, rfl⟩ ?_
      exact ⟨rfl, rfl⟩
  · refine gg_if_eq_t (tgt := 26) dX10_sheet_4 (by decide) (by decide) (by decide) ?_
    refine gg_bipush dX10_sheet_26 (by decide) ?_
    refine gg_ireti dX10_sheet_28 rfl ⟨rfl, rfl⟩ ?_
    exact ⟨rfl, rfl⟩

set_option maxRecDepth 10000 in
theorem c_X10_cell {l : Launch} {Γ : gC} {ad : Nat → Nat} {I : Nat → Nat → Int} {J : Nat → Nat → Int64} {d : Nat} {s : Nat} (hs : s < 4) {so : Int} {sn : Nat} (hso : I 237 s = so) (hsn : I 238 s = (sn : Int)) (hr : -1 ≤ so ∧ so ≤ 1) (hn : sn ≤ 40) {i v : Int} (hi : -2147483648 ≤ i ∧ i ≤ 2147483647) (hd : 3 ≤ d) : gKi l Γ gm_X10_cell d [.ref (gad (gSS ad) 145), .int (iv (s : Int)), .int (iv i), .int (iv v)] (gSS ad, I, J) (fun e μ => (so < 0 ∧ μ = (gSS ad, I, J) ∧ e = -11) ∨ (0 ≤ so ∧ ¬ (0 ≤ i ∧ i < (sn : Int)) ∧ μ = (gSS ad, I, J) ∧ e = -12) ∨ (0 ≤ so ∧ 0 ≤ i ∧ i < (sn : Int) ∧ μ = (gSS ad, gu I (240 + s) i.toNat (if so = 0 then gi2s v else v), J) ∧ e = 1)) := by
  refine gKi_of gk_X10_cell.1 (Nat.le_of_ble_eq_true rfl) ?_
  show gG l Γ gm_X10_cell (d, 0, 0, 0, 0) 0 [(0, .ref (gad (gSS ad) 145)), (1, .int (iv (s : Int))), (2, .int (iv i)), (3, .int (iv v))] [] _ _
  refine gg_iload_n dX10_cell_0 1 rfl ?_
  refine gg_callSi (own := RX10) (yt := gm_X10_isSheet) rfl gl_RX10_347 gk_X10_isSheet gr_X10_isSheet dX10_cell_1 (c_X10_isSheet (d := d - 1) (by omega) (by omega)) rfl rfl (Nat.le_of_ble_eq_true rfl) (by show _ ≤ d; omega) ⟨Nat.le_refl _, Nat.le_refl _⟩ (fun e1 μ' hc => ?_)
  obtain ⟨rfl, ⟨rfl, hb2⟩ | ⟨rfl, hb2⟩⟩ := hc
  rotate_left
  · omega
  refine gg_if_ne_t (tgt := 10) dX10_cell_4 (by decide) (by decide) (by decide) ?_
  refine gg_aload_n dX10_cell_10 0 rfl ?_
  refine gg_getR (k' := 237) rfl gf_RX10_72 dX10_cell_11 sh_145 pl_145 (by decide) (by decide) rr_145_33 ?_
  refine gg_iload_n dX10_cell_14 1 rfl ?_
  refine gg_ialdj s dX10_cell_15 sh_237 pl_237 (by decide) rfl hs ?_
  refine gg_toI (b := so) hso ?_
  refine gg_if_ge (tgt := 22) dX10_cell_16 (by decide) (by omega) (fun hm => ?_) (fun hm => ?_)
  · refine gg_iload_n dX10_cell_22 2 rfl ?_
    refine gg_iconst dX10_cell_23 ?_
    refine gg_aload_n dX10_cell_24 0 rfl ?_
    refine gg_getR (k' := 238) rfl gf_RX10_75 dX10_cell_25 sh_145 pl_145 (by decide) (by decide) rr_145_34 ?_
    refine gg_iload_n dX10_cell_28 1 rfl ?_
    refine gg_ialdj s dX10_cell_29 sh_238 pl_238 (by decide) rfl hs ?_
    refine gg_toI (b := (sn : Int)) hsn ?_
    refine gg_iconst dX10_cell_30 ?_
    refine gg_isub dX10_cell_31 ?_
    refine gg_callSi (own := RX10) (yt := gm_X10_in) rfl gl_RX10_84 gk_X10_in gr_X10_in dX10_cell_32 (c_X10_in (d := d - 1) (by omega)) rfl rfl (Nat.le_of_ble_eq_true rfl) (by show _ ≤ d; omega) ⟨Nat.le_refl _, Nat.le_refl _⟩ (fun e3 μ' hc => ?_)
    obtain ⟨rfl, ⟨rfl, hk⟩ | ⟨rfl, hk⟩⟩ := hc
    · obtain ⟨j, rfl⟩ : ∃ j : Nat, i = (j : Int) := ⟨i.toNat, by omega⟩
      refine gg_if_ne_t (tgt := 41) dX10_cell_35 (by decide) (by decide) (by decide) ?_
      refine gg_aload_n dX10_cell_41 0 rfl ?_
      refine gg_getR (k' := 239) rfl gf_RX10_78 dX10_cell_42 sh_145 pl_145 (by decide) (by decide) rr_145_35 ?_
      refine gg_iload_n dX10_cell_45 1 rfl ?_
      refine gg_aaldj (t := 6) s (k' := (240 + s)) dX10_cell_46 sh_239 (by decide) pl_239 (by decide) rfl hs (rr_239 hs) ?_
      refine gg_iload_n dX10_cell_47 2 rfl ?_
      refine gg_aload_n dX10_cell_48 0 rfl ?_
      refine gg_getR (k' := 237) rfl gf_RX10_72 dX10_cell_49 sh_145 pl_145 (by decide) (by decide) rr_145_33 ?_
      refine gg_iload_n dX10_cell_52 1 rfl ?_
      refine gg_ialdj s dX10_cell_53 sh_237 pl_237 (by decide) rfl hs ?_
      refine gg_toI (b := so) hso ?_
      refine gg_if_ne (tgt := 62) dX10_cell_54 (by decide) (by omega) (fun hz => ?_) (fun hz => ?_)
      · refine gg_iload_n dX10_cell_62 3 rfl ?_
        refine gg_iastj j dX10_cell_63 (rs_239 hs) (rl_239 hs) (by decide) rfl (by omega) ?_
        refine gg_iconst dX10_cell_64 ?_
        refine gg_ireti dX10_cell_65 rfl ⟨rfl, rfl⟩ ?_
        first | exact Or.inl ⟨hm, rfl, rfl⟩ | exact Or.inr (Or.inl ⟨by omega, by omega, rfl, rfl⟩) | exact Or.inr (Or.inr ⟨by omega, by omega, by omega, by simp [hz], rfl⟩)
      · refine gg_iload_n dX10_cell_57 3 rfl ?_
        refine gg_i2s dX10_cell_58 ?_
        refine gg_goto (tgt := 63) dX10_cell_59 (by decide) ?_
        refine gg_iastj j dX10_cell_63 (rs_239 hs) (rl_239 hs) (by decide) rfl (by omega) ?_
        refine gg_iconst dX10_cell_64 ?_
        refine gg_ireti dX10_cell_65 rfl ⟨rfl, rfl⟩ ?_
        first | exact Or.inl ⟨hm, rfl, rfl⟩ | exact Or.inr (Or.inl ⟨by omega, by omega, rfl, rfl⟩) | exact Or.inr (Or.inr ⟨by omega, by omega, by omega, by simp [hz], rfl⟩)
    · refine gg_if_ne_f (tgt := 41) dX10_cell_35 (by decide) (by decide) (by decide) ?_
      refine gg_bipush dX10_cell_38 (by decide) ?_
      refine gg_ireti dX10_cell_40 rfl ⟨rfl, rfl⟩ ?_
      first | exact Or.inl ⟨hm, rfl, rfl⟩ | exact Or.inr (Or.inl ⟨by omega, by omega, rfl, rfl⟩) | exact Or.inr (Or.inr ⟨by omega, by omega, by omega, by simp [hz], rfl⟩)
  · refine gg_bipush dX10_cell_19 (by decide) ?_
    refine gg_ireti dX10_cell_21 rfl ⟨rfl, rfl⟩ ?_
    first | exact Or.inl ⟨hm, rfl, rfl⟩ | exact Or.inr (Or.inl ⟨by omega, by omega, rfl, rfl⟩) | exact Or.inr (Or.inr ⟨by omega, by omega, by omega, by simp [hz], rfl⟩)

set_option maxRecDepth 10000 in
theorem c_X10_cell_out {l : Launch} {Γ : gC} {ad : Nat → Nat} {I : Nat → Nat → Int} {J : Nat → Nat → Int64} {d : Nat} {i k v : Int} (hi : -2147483648 ≤ i ∧ i ≤ 2147483647) (ho : ¬ (0 ≤ i ∧ i ≤ 3)) (hd : 3 ≤ d) : gKi l Γ gm_X10_cell d [.ref (gad (gSS ad) 145), .int (iv i), .int (iv k), .int (iv v)] (gSS ad, I, J) (fun e μ => μ = (gSS ad, I, J) ∧ e = -2) := by
  refine gKi_of gk_X10_cell.1 (Nat.le_of_ble_eq_true rfl) ?_
  show gG l Γ gm_X10_cell (d, 0, 0, 0, 0) 0 [(0, .ref (gad (gSS ad) 145)), (1, .int (iv i)), (2, .int (iv k)), (3, .int (iv v))] [] _ _
  refine gg_iload_n dX10_cell_0 1 rfl ?_
  refine gg_callSi (own := RX10) (yt := gm_X10_isSheet) rfl gl_RX10_347 gk_X10_isSheet gr_X10_isSheet dX10_cell_1 (c_X10_isSheet (d := d - 1) (by omega) (by omega)) rfl rfl (Nat.le_of_ble_eq_true rfl) (by show _ ≤ d; omega) ⟨Nat.le_refl _, Nat.le_refl _⟩ (fun e1 μ' hc => ?_)
  obtain ⟨rfl, ⟨rfl, hb2⟩ | ⟨rfl, hb2⟩⟩ := hc
  · refine gg_if_ne_t (tgt := 10) dX10_cell_4 (by decide) (by decide) (by decide) ?_
    exfalso
    omega
  · refine gg_if_ne_f (tgt := 10) dX10_cell_4 (by decide) (by decide) (by decide) ?_
    refine gg_bipush dX10_cell_7 (by decide) ?_
    refine gg_ireti dX10_cell_9 rfl ⟨rfl, rfl⟩ ?_
    exact ⟨rfl, rfl⟩

set_option maxRecDepth 10000 in
theorem c_X10_copy {l : Launch} {Γ : gC} {ad : Nat → Nat} {I : Nat → Nat → Int} {J : Nat → Nat → Int64} {d : Nat} {s s' : Nat} (hs : s < 4) (hs' : s' < 4) {so so' : Int} {sn sn' : Nat} (hso : I 237 s = so) (hsn : I 238 s = (sn : Int)) (hr : -1 ≤ so ∧ so ≤ 1) (hn : sn ≤ 40) (hso' : I 237 s' = so') (hsn' : I 238 s' = (sn' : Int)) (hr' : -1 ≤ so' ∧ so' ≤ 1) (hn' : sn' ≤ 40) {i j n : Int} (hi : -2147483648 ≤ i ∧ i ≤ 2147483647) (hj : -2147483648 ≤ j ∧ j ≤ 2147483647) (hn0 : -2147483648 ≤ n ∧ n ≤ 2147483647) (hd : 4 ≤ d) : gKi l Γ gm_X10_copy d [.ref (gad (gSS ad) 145), .int (iv (s : Int)), .int (iv i), .int (iv (s' : Int)), .int (iv j), .int (iv n)] (gSS ad, I, J) (fun e μ => (gCp so sn so' sn' i j n ≠ 0 ∧ μ = (gSS ad, I, J) ∧ e = gCp so sn so' sn' i j n) ∨ (gCp so sn so' sn' i j n = 0 ∧ (∃ I', μ = (gSS ad, I', J) ∧ (∀ p, p ≠ 244 → p ≠ 240 + s' → I' p = I p) ∧ ∀ t, I' (240 + s') t = va_cpy (I (240 + s)) (I (240 + s')) i.toNat j.toNat n.toNat t) ∧ e = n)) := by
  refine gKi_of gk_X10_copy.1 (Nat.le_of_ble_eq_true rfl) ?_
  show gG l Γ gm_X10_copy (d, 0, 0, 0, 0) 0 [(0, .ref (gad (gSS ad) 145)), (1, .int (iv (s : Int))), (2, .int (iv i)), (3, .int (iv (s' : Int))), (4, .int (iv j)), (5, .int (iv n))] [] _ _
  refine gg_iload_n dX10_copy_0 1 rfl ?_
  refine gg_callSi (own := RX10) (yt := gm_X10_isSheet) rfl gl_RX10_347 gk_X10_isSheet gr_X10_isSheet dX10_copy_1 (c_X10_isSheet (d := d - 1) (by omega) (by omega)) rfl rfl (Nat.le_of_ble_eq_true rfl) (by show _ ≤ d; omega) ⟨Nat.le_refl _, Nat.le_refl _⟩ (fun e1 μ' hc => ?_)
  obtain ⟨rfl, ⟨rfl, hb2⟩ | ⟨rfl, hb2⟩⟩ := hc
  rotate_left
  · omega
  refine gg_if_eq_f (tgt := 14) dX10_copy_4 (by decide) (by decide) (by decide) ?_
  refine gg_iload_n dX10_copy_7 3 rfl ?_
  refine gg_callSi (own := RX10) (yt := gm_X10_isSheet) rfl gl_RX10_347 gk_X10_isSheet gr_X10_isSheet dX10_copy_8 (c_X10_isSheet (d := d - 1) (by omega) (by omega)) rfl rfl (Nat.le_of_ble_eq_true rfl) (by show _ ≤ d; omega) ⟨Nat.le_refl _, Nat.le_refl _⟩ (fun e3 μ' hc => ?_)
  obtain ⟨rfl, ⟨rfl, hb4⟩ | ⟨rfl, hb4⟩⟩ := hc
  rotate_left
  · omega
  refine gg_if_ne_t (tgt := 17) dX10_copy_11 (by decide) (by decide) (by decide) ?_
  refine gg_aload_n dX10_copy_17 0 rfl ?_
  refine gg_getR (k' := 237) rfl gf_RX10_72 dX10_copy_18 sh_145 pl_145 (by decide) (by decide) rr_145_33 ?_
  refine gg_iload_n dX10_copy_21 1 rfl ?_
  refine gg_ialdj s dX10_copy_22 sh_237 pl_237 (by decide) rfl hs ?_
  refine gg_toI (b := so) hso ?_
  refine gg_if_lt (tgt := 35) dX10_copy_23 (by decide) (by omega) (fun hb5 => ?_) (fun hb5 => ?_)
  · refine gg_bipush dX10_copy_35 (by decide) ?_
    refine gg_ireti dX10_copy_37 rfl ⟨rfl, rfl⟩ ?_
    refine Or.inl ?_
    have hz : gCp so sn so' sn' i j n = (-11) := by
      unfold gCp
      first | rw [if_pos (by omega)] | rw [if_neg (by omega), if_pos (by omega)] | rw [if_neg (by omega), if_neg (by omega), if_pos (by omega)]
    rw [hz]
    exact ⟨by decide, rfl, rfl⟩
  · refine gg_aload_n dX10_copy_26 0 rfl ?_
    refine gg_getR (k' := 237) rfl gf_RX10_72 dX10_copy_27 sh_145 pl_145 (by decide) (by decide) rr_145_33 ?_
    refine gg_iload_n dX10_copy_30 3 rfl ?_
    refine gg_ialdj s' dX10_copy_31 sh_237 pl_237 (by decide) rfl hs' ?_
    refine gg_toI (b := so') hso' ?_
    refine gg_if_ge (tgt := 38) dX10_copy_32 (by decide) (by omega) (fun hb6 => ?_) (fun hb6 => ?_)
    · refine gg_aload_n dX10_copy_38 0 rfl ?_
      refine gg_getR (k' := 237) rfl gf_RX10_72 dX10_copy_39 sh_145 pl_145 (by decide) (by decide) rr_145_33 ?_
      refine gg_iload_n dX10_copy_42 1 rfl ?_
      refine gg_ialdj s dX10_copy_43 sh_237 pl_237 (by decide) rfl hs ?_
      refine gg_toI (b := so) hso ?_
      refine gg_aload_n dX10_copy_44 0 rfl ?_
      refine gg_getR (k' := 237) rfl gf_RX10_72 dX10_copy_45 sh_145 pl_145 (by decide) (by decide) rr_145_33 ?_
      refine gg_iload_n dX10_copy_48 3 rfl ?_
      refine gg_ialdj s' dX10_copy_49 sh_237 pl_237 (by decide) rfl hs' ?_
      refine gg_toI (b := so') hso' ?_
      refine gg_icmp_eq (tgt := 56) dX10_copy_50 (by decide) (by omega) (fun hb7 => ?_) (fun hb7 => ?_)
      · refine gg_iload dX10_copy_56 5 rfl ?_
        refine gg_if_lt (tgt := 97) dX10_copy_58 (by decide) (by omega) (fun hb8 => ?_) (fun hb8 => ?_)
        · refine gg_bipush dX10_copy_97 (by decide) ?_
          refine gg_ireti dX10_copy_99 rfl ⟨rfl, rfl⟩ ?_
          refine Or.inl ?_
          have hz : gCp so sn so' sn' i j n = (-12) := by
            unfold gCp
            first | rw [if_pos (by omega)] | rw [if_neg (by omega), if_pos (by omega)] | rw [if_neg (by omega), if_neg (by omega), if_pos (by omega)]
          rw [hz]
          exact ⟨by decide, rfl, rfl⟩
        · refine gg_iload_n dX10_copy_61 2 rfl ?_
          refine gg_if_lt (tgt := 97) dX10_copy_62 (by decide) (by omega) (fun hb9 => ?_) (fun hb9 => ?_)
          · refine gg_bipush dX10_copy_97 (by decide) ?_
            refine gg_ireti dX10_copy_99 rfl ⟨rfl, rfl⟩ ?_
            refine Or.inl ?_
            have hz : gCp so sn so' sn' i j n = (-12) := by
              unfold gCp
              first | rw [if_pos (by omega)] | rw [if_neg (by omega), if_pos (by omega)] | rw [if_neg (by omega), if_neg (by omega), if_pos (by omega)]
            rw [hz]
            exact ⟨by decide, rfl, rfl⟩
          · refine gg_iload dX10_copy_65 4 rfl ?_
            refine gg_if_lt (tgt := 97) dX10_copy_67 (by decide) (by omega) (fun hb10 => ?_) (fun hb10 => ?_)
            · refine gg_bipush dX10_copy_97 (by decide) ?_
              refine gg_ireti dX10_copy_99 rfl ⟨rfl, rfl⟩ ?_
              refine Or.inl ?_
              have hz : gCp so sn so' sn' i j n = (-12) := by
                unfold gCp
                first | rw [if_pos (by omega)] | rw [if_neg (by omega), if_pos (by omega)] | rw [if_neg (by omega), if_neg (by omega), if_pos (by omega)]
              rw [hz]
              exact ⟨by decide, rfl, rfl⟩
            · refine gg_iload_n dX10_copy_70 2 rfl ?_
              refine gg_aload_n dX10_copy_71 0 rfl ?_
              refine gg_getR (k' := 238) rfl gf_RX10_75 dX10_copy_72 sh_145 pl_145 (by decide) (by decide) rr_145_34 ?_
              refine gg_iload_n dX10_copy_75 1 rfl ?_
              refine gg_ialdj s dX10_copy_76 sh_238 pl_238 (by decide) rfl hs ?_
              refine gg_toI (b := (sn : Int)) hsn ?_
              refine gg_iload dX10_copy_77 5 rfl ?_
              refine gg_isub dX10_copy_79 ?_
              refine gg_icmp_gt (tgt := 97) dX10_copy_80 (by decide) (by omega) (fun hb11 => ?_) (fun hb11 => ?_)
              · refine gg_bipush dX10_copy_97 (by decide) ?_
                refine gg_ireti dX10_copy_99 rfl ⟨rfl, rfl⟩ ?_
                refine Or.inl ?_
                have hz : gCp so sn so' sn' i j n = (-12) := by
                  unfold gCp
                  first | rw [if_pos (by omega)] | rw [if_neg (by omega), if_pos (by omega)] | rw [if_neg (by omega), if_neg (by omega), if_pos (by omega)]
                rw [hz]
                exact ⟨by decide, rfl, rfl⟩
              · refine gg_iload dX10_copy_83 4 rfl ?_
                refine gg_aload_n dX10_copy_85 0 rfl ?_
                refine gg_getR (k' := 238) rfl gf_RX10_75 dX10_copy_86 sh_145 pl_145 (by decide) (by decide) rr_145_34 ?_
                refine gg_iload_n dX10_copy_89 3 rfl ?_
                refine gg_ialdj s' dX10_copy_90 sh_238 pl_238 (by decide) rfl hs' ?_
                refine gg_toI (b := (sn' : Int)) hsn' ?_
                refine gg_iload dX10_copy_91 5 rfl ?_
                refine gg_isub dX10_copy_93 ?_
                refine gg_icmp_le (tgt := 100) dX10_copy_94 (by decide) (by omega) (fun hb12 => ?_) (fun hb12 => ?_)
                · obtain ⟨i1, rfl⟩ : ∃ i1 : Nat, i = (i1 : Int) := ⟨i.toNat, by omega⟩
                  obtain ⟨j1, rfl⟩ : ∃ j1 : Nat, j = (j1 : Int) := ⟨j.toNat, by omega⟩
                  obtain ⟨n1, rfl⟩ : ∃ n1 : Nat, n = (n1 : Int) := ⟨n.toNat, by omega⟩
                  refine gg_aload_n dX10_copy_100 0 rfl ?_
                  refine gg_getR (k' := 239) rfl gf_RX10_78 dX10_copy_101 sh_145 pl_145 (by decide) (by decide) rr_145_35 ?_
                  refine gg_iload_n dX10_copy_104 1 rfl ?_
                  refine gg_aaldj (t := 6) s (k' := (240 + s)) dX10_copy_105 sh_239 (by decide) pl_239 (by decide) rfl hs (rr_239 hs) ?_
                  refine gg_iload_n dX10_copy_106 2 rfl ?_
                  refine gg_aload_n dX10_copy_107 0 rfl ?_
                  refine gg_getR (k' := 244) rfl gf_RX10_81 dX10_copy_108 sh_145 pl_145 (by decide) (by decide) rr_145_36 ?_
                  refine gg_iconst dX10_copy_111 ?_
                  refine gg_iload dX10_copy_112 5 rfl ?_
                  refine gg_copyi rfl gl_RX10_357 dX10_copy_114 (rs_239 hs) (rl_239 hs) sh_244 pl_244 (by omega) (by decide) (Nat.le_of_ble_eq_true rfl) (by omega) ⟨Nat.le_refl _, Nat.le_refl _⟩ ?_
                  refine gg_aload_n dX10_copy_117 0 rfl ?_
                  refine gg_getR (k' := 244) rfl gf_RX10_81 dX10_copy_118 sh_145 pl_145 (by decide) (by decide) rr_145_36 ?_
                  refine gg_iconst dX10_copy_121 ?_
                  refine gg_aload_n dX10_copy_122 0 rfl ?_
                  refine gg_getR (k' := 239) rfl gf_RX10_78 dX10_copy_123 sh_145 pl_145 (by decide) (by decide) rr_145_35 ?_
                  refine gg_iload_n dX10_copy_126 3 rfl ?_
                  refine gg_aaldj (t := 6) s' (k' := (240 + s')) dX10_copy_127 sh_239 (by decide) pl_239 (by decide) rfl hs' (rr_239 hs') ?_
                  refine gg_iload dX10_copy_128 4 rfl ?_
                  refine gg_iload dX10_copy_130 5 rfl ?_
                  refine gg_copyi rfl gl_RX10_357 dX10_copy_132 sh_244 pl_244 (rs_239 hs') (rl_239 hs') (by omega) (by decide) (Nat.le_of_ble_eq_true rfl) (by omega) ⟨Nat.le_refl _, Nat.le_refl _⟩ ?_
                  refine gg_iload dX10_copy_135 5 rfl ?_
                  refine gg_ireti dX10_copy_137 rfl ⟨rfl, rfl⟩ ?_
                  refine Or.inr ⟨?_, ⟨_, rfl, fun p h1 h2 => ?_, fun t => ?_⟩, rfl⟩
                  · unfold gCp
                    rw [if_neg (by omega), if_neg (by omega), if_neg (by omega)]
                  · rw [gur_other h2, gur_other h1]
                  · rw [gur_self]
                    simp only [Int.toNat_natCast, va_cpy]
                    split
                    · rw [gur_self, va_cpy, if_pos (by simp; omega)]
                      congr 1
                      simp
                    · rw [gur_other (by omega)]
                · refine gg_bipush dX10_copy_97 (by decide) ?_
                  refine gg_ireti dX10_copy_99 rfl ⟨rfl, rfl⟩ ?_
                  refine Or.inl ?_
                  have hz : gCp so sn so' sn' i j n = (-12) := by
                    unfold gCp
                    first | rw [if_pos (by omega)] | rw [if_neg (by omega), if_pos (by omega)] | rw [if_neg (by omega), if_neg (by omega), if_pos (by omega)]
                  rw [hz]
                  exact ⟨by decide, rfl, rfl⟩
      · refine gg_bipush dX10_copy_53 (by decide) ?_
        refine gg_ireti dX10_copy_55 rfl ⟨rfl, rfl⟩ ?_
        refine Or.inl ?_
        have hz : gCp so sn so' sn' i j n = (-13) := by
          unfold gCp
          first | rw [if_pos (by omega)] | rw [if_neg (by omega), if_pos (by omega)] | rw [if_neg (by omega), if_neg (by omega), if_pos (by omega)]
        rw [hz]
        exact ⟨by decide, rfl, rfl⟩
    · refine gg_bipush dX10_copy_35 (by decide) ?_
      refine gg_ireti dX10_copy_37 rfl ⟨rfl, rfl⟩ ?_
      refine Or.inl ?_
      have hz : gCp so sn so' sn' i j n = (-11) := by
        unfold gCp
        first | rw [if_pos (by omega)] | rw [if_neg (by omega), if_pos (by omega)] | rw [if_neg (by omega), if_neg (by omega), if_pos (by omega)]
      rw [hz]
      exact ⟨by decide, rfl, rfl⟩

set_option maxRecDepth 10000 in
theorem c_X10_copy_out {l : Launch} {Γ : gC} {ad : Nat → Nat} {I : Nat → Nat → Int} {J : Nat → Nat → Int64} {d : Nat} {a i b j n : Int} (ha : -2147483648 ≤ a ∧ a ≤ 2147483647) (hb : -2147483648 ≤ b ∧ b ≤ 2147483647) (ho : ¬ (0 ≤ a ∧ a ≤ 3 ∧ 0 ≤ b ∧ b ≤ 3)) (hd : 3 ≤ d) : gKi l Γ gm_X10_copy d [.ref (gad (gSS ad) 145), .int (iv a), .int (iv i), .int (iv b), .int (iv j), .int (iv n)] (gSS ad, I, J) (fun e μ => μ = (gSS ad, I, J) ∧ e = -2) := by
  refine gKi_of gk_X10_copy.1 (Nat.le_of_ble_eq_true rfl) ?_
  show gG l Γ gm_X10_copy (d, 0, 0, 0, 0) 0 [(0, .ref (gad (gSS ad) 145)), (1, .int (iv a)), (2, .int (iv i)), (3, .int (iv b)), (4, .int (iv j)), (5, .int (iv n))] [] _ _
  refine gg_iload_n dX10_copy_0 1 rfl ?_
  refine gg_callSi (own := RX10) (yt := gm_X10_isSheet) rfl gl_RX10_347 gk_X10_isSheet gr_X10_isSheet dX10_copy_1 (c_X10_isSheet (d := d - 1) (by omega) (by omega)) rfl rfl (Nat.le_of_ble_eq_true rfl) (by show _ ≤ d; omega) ⟨Nat.le_refl _, Nat.le_refl _⟩ (fun e1 μ' hc => ?_)
  obtain ⟨rfl, ⟨rfl, hb2⟩ | ⟨rfl, hb2⟩⟩ := hc
  · refine gg_if_eq_f (tgt := 14) dX10_copy_4 (by decide) (by decide) (by decide) ?_
    refine gg_iload_n dX10_copy_7 3 rfl ?_
    refine gg_callSi (own := RX10) (yt := gm_X10_isSheet) rfl gl_RX10_347 gk_X10_isSheet gr_X10_isSheet dX10_copy_8 (c_X10_isSheet (d := d - 1) (by omega) (by omega)) rfl rfl (Nat.le_of_ble_eq_true rfl) (by show _ ≤ d; omega) ⟨Nat.le_refl _, Nat.le_refl _⟩ (fun e3 μ' hc => ?_)
    obtain ⟨rfl, ⟨rfl, hb4⟩ | ⟨rfl, hb4⟩⟩ := hc
    · refine gg_if_ne_t (tgt := 17) dX10_copy_11 (by decide) (by decide) (by decide) ?_
      exfalso
      omega
    · refine gg_if_ne_f (tgt := 17) dX10_copy_11 (by decide) (by decide) (by decide) ?_
      refine gg_bipush dX10_copy_14 (by decide) ?_
      refine gg_ireti dX10_copy_16 rfl ⟨rfl, rfl⟩ ?_
      exact ⟨rfl, rfl⟩
  · refine gg_if_eq_t (tgt := 14) dX10_copy_4 (by decide) (by decide) (by decide) ?_
    refine gg_bipush dX10_copy_14 (by decide) ?_
    refine gg_ireti dX10_copy_16 rfl ⟨rfl, rfl⟩ ?_
    exact ⟨rfl, rfl⟩

