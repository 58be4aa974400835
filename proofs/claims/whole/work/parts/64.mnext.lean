/-! the reference's reader: the next token -/
theorem gtC_end {T : Nat → Int} {n q : Nat} (h : n ≤ q) (hq : q ≤ n) : gtC T n q = 0 := by
  have := gtE_le T hq
  unfold gtC
  rw [if_pos (by omega)]
set_option maxRecDepth 10000 in
theorem u_X10_next {l : Launch} {Γ : gC} {ad : Nat → Nat} {I0 : Nat → Nat → Int} {J : Nat → Nat → Int64} {d : Nat} {T : Nat → Int} {n : Nat} {q : Nat} (hq : q ≤ n) (hd : 4 ≤ d) : ∀ (m : Nat) (p : Nat) (I : Nat → Nat → Int), n - p < m → (q ≤ p ∧ p ≤ n) → (gTq I T n) → (I 145 11 = (p : Int)) → (I 145 16 = 0) → (gRunE gBl T n p = gtP T n q) → (gF45 I0 I) → gG l Γ gm_X10_next (d, 0, 0, 0, 0) 8 [(0, .ref (gad (gSS ad) 145))] [] (gSS ad, I, J) (gDv (fun μ => ∃ I1, μ = (gSS ad, I1, J) ∧ gF45 I0 I1 ∧ gRq I1 T n q)) := by
  intro m
  induction m with
  | zero => intros; omega
  | succ m ih =>
    intro p I hm hk hT h11 h16 hr hF
    have hn := hT.1
    refine gg_aload_n dX10_next_8 0 rfl ?_
    refine gg_aload_n dX10_next_9 0 rfl ?_
    refine gg_getI rfl gf_RX10_123 dX10_next_10 sh_145 pl_145 (by decide) (by decide) ?_
    refine gg_toI (b := (p : Int)) h11 ?_
    refine gg_callVi (own := RX10) (yt := gm_X10_byteAt) rfl gl_RX10_126 gk_X10_byteAt gr_X10_byteAt dX10_next_13 (c_X10_byteAt (d := d - 1) (T := T) (n := n) (i := p) hT (by have := hT.1; omega)) sh_145 pl_145 (by decide) rfl rfl rfl (Nat.le_of_ble_eq_true rfl) (by show _ ≤ d; omega) ⟨Nat.le_refl _, Nat.le_refl _⟩ (fun e1 μ' hc => ?_)
    obtain ⟨rfl, rfl⟩ := hc
    have hgr := gby_rng hT p
    refine gg_bipush dX10_next_16 (by decide) ?_
    refine gg_icmp_eq (tgt := 34) dX10_next_18 (by decide) (by omega) (fun hb1 => ?_) (fun hb1 => ?_)
    · obtain ⟨hlt, hbe⟩ := gby_is (T := T) (n := n) (i := p) (by omega)
      have hbl : gBl (T p) = true := by simp only [gBl, decide_eq_true_eq]; omega
      refine gg_aload_n dX10_next_34 0 rfl ?_
      refine gg_dup dX10_next_35 rfl ?_
      refine gg_getI rfl gf_RX10_123 dX10_next_36 sh_145 pl_145 (by decide) (by decide) ?_
      refine gg_toI (b := (p : Int)) h11 ?_
      refine gg_iconst dX10_next_39 ?_
      refine gg_iadd dX10_next_40 ?_
      refine gg_toI (b := ((p + 1 : Nat) : Int)) (by omega) ?_
      refine gg_putI rfl gf_RX10_123 dX10_next_41 sh_145 pl_145 (by decide) (by decide) (by decide) (gfit_i _) ?_
      refine gg_memI (fun I2 hI2 => ?_)
      refine gg_goto (tgt := 8) dX10_next_44 (by decide) ?_
      have hf : gF45 I I2 := by rw [hI2]; exact (gF45_u (by omega))
      exact ih (p + 1) I2 (by omega) (by omega) (gTq_f hT hf) (by rw [hI2, gu_s]) (by rw [hI2, gu_n (by omega)]; exact h16) (by rw [← hr]; exact (gRunE_t hlt hbl).symm) (gF45_t hF hf)
    · refine gg_aload_n dX10_next_21 0 rfl ?_
      refine gg_aload_n dX10_next_22 0 rfl ?_
      refine gg_getI rfl gf_RX10_123 dX10_next_23 sh_145 pl_145 (by decide) (by decide) ?_
      refine gg_toI (b := (p : Int)) h11 ?_
      refine gg_callVi (own := RX10) (yt := gm_X10_byteAt) rfl gl_RX10_126 gk_X10_byteAt gr_X10_byteAt dX10_next_26 (c_X10_byteAt (d := d - 1) (T := T) (n := n) (i := p) hT (by have := hT.1; omega)) sh_145 pl_145 (by decide) rfl rfl rfl (Nat.le_of_ble_eq_true rfl) (by show _ ≤ d; omega) ⟨Nat.le_refl _, Nat.le_refl _⟩ (fun e2 μ' hc => ?_)
      obtain ⟨rfl, rfl⟩ := hc
      have hgr := gby_rng hT p
      refine gg_bipush dX10_next_29 (by decide) ?_
      refine gg_icmp_ne (tgt := 47) dX10_next_31 (by decide) (by omega) (fun hb2 => ?_) (fun hb2 => ?_)
      · have hP : gtP T n q = p := by rw [← hr]; exact gRunE_f (gby_no (P := gBl) (by simp only [gBl, decide_eq_false_iff_not]; omega))
        refine gG_post (s_X10_next hT h11 h16 hP hk.2 hd) (fun r μ h => ?_)
        obtain ⟨rfl, I1, rfl, g1, g2⟩ := h
        exact ⟨rfl, I1, rfl, gF45_t hF g1, g2⟩
      · obtain ⟨hlt, hbe⟩ := gby_is (T := T) (n := n) (i := p) (by omega)
        have hbl : gBl (T p) = true := by simp only [gBl, decide_eq_true_eq]; omega
        refine gg_aload_n dX10_next_34 0 rfl ?_
        refine gg_dup dX10_next_35 rfl ?_
        refine gg_getI rfl gf_RX10_123 dX10_next_36 sh_145 pl_145 (by decide) (by decide) ?_
        refine gg_toI (b := (p : Int)) h11 ?_
        refine gg_iconst dX10_next_39 ?_
        refine gg_iadd dX10_next_40 ?_
        refine gg_toI (b := ((p + 1 : Nat) : Int)) (by omega) ?_
        refine gg_putI rfl gf_RX10_123 dX10_next_41 sh_145 pl_145 (by decide) (by decide) (by decide) (gfit_i _) ?_
        refine gg_memI (fun I2 hI2 => ?_)
        refine gg_goto (tgt := 8) dX10_next_44 (by decide) ?_
        have hf : gF45 I I2 := by rw [hI2]; exact (gF45_u (by omega))
        exact ih (p + 1) I2 (by omega) (by omega) (gTq_f hT hf) (by rw [hI2, gu_s]) (by rw [hI2, gu_n (by omega)]; exact h16) (by rw [← hr]; exact (gRunE_t hlt hbl).symm) (gF45_t hF hf)

set_option maxRecDepth 10000 in
theorem c_X10_next {l : Launch} {Γ : gC} {ad : Nat → Nat} {I : Nat → Nat → Int} {J : Nat → Nat → Int64} {d : Nat} {T : Nat → Int} {n : Nat} {q : Nat} (hT : gTq I T n) (h11 : I 145 11 = (q : Int)) (h16 : I 145 16 = 0) (hq : q ≤ n) (hd : 4 ≤ d) : gKv l Γ gm_X10_next d [.ref (gad (gSS ad) 145)] (gSS ad, I, J) (fun μ => ∃ I1, μ = (gSS ad, I1, J) ∧ gF45 I I1 ∧ gRq I1 T n q) := by
  refine gKv_of gk_X10_next.1 (Nat.le_of_ble_eq_true rfl) ?_
  show gG l Γ gm_X10_next (d, 0, 0, 0, 0) 0 [(0, .ref (gad (gSS ad) 145))] [] _ _
  refine gg_aload_n dX10_next_0 0 rfl ?_
  refine gg_getI rfl gf_RX10_120 dX10_next_1 sh_145 pl_145 (by decide) (by decide) ?_
  refine gg_toI (b := 0) h16 ?_
  refine gg_if_eq_t (tgt := 8) dX10_next_4 (by decide) (by decide) (by decide) ?_
  exact gG_post (u_X10_next (I0 := I) hq hd (n - q + 1) q I (by omega) (by omega) hT h11 h16 rfl (gF45_r I)) (fun r μ h => h)

set_option maxRecDepth 10000 in
theorem c_X10_next_w {l : Launch} {Γ : gC} {ad : Nat → Nat} {I : Nat → Nat → Int} {J : Nat → Nat → Int64} {d : Nat} (h16 : I 145 16 = 1) : gKv l Γ gm_X10_next d [.ref (gad (gSS ad) 145)] (gSS ad, I, J) (fun μ => μ = (gSS ad, I, J)) := by
  refine gKv_of gk_X10_next.1 (Nat.le_of_ble_eq_true rfl) ?_
  show gG l Γ gm_X10_next (d, 0, 0, 0, 0) 0 [(0, .ref (gad (gSS ad) 145))] [] _ _
  refine gg_aload_n dX10_next_0 0 rfl ?_
  refine gg_getI rfl gf_RX10_120 dX10_next_1 sh_145 pl_145 (by decide) (by decide) ?_
  refine gg_toI (b := 1) h16 ?_
  refine gg_if_eq_f (tgt := 8) dX10_next_4 (by decide) (by decide) (by decide) ?_
  refine gg_vretv dX10_next_7 rfl ⟨rfl, rfl⟩ ?_
  exact rfl

set_option maxRecDepth 10000 in
theorem c_X10_isSign_w {l : Launch} {Γ : gC} {ad : Nat → Nat} {I : Nat → Nat → Int} {J : Nat → Nat → Int64} {d : Nat} (h16 : I 145 16 = 1) {c : Int} : gKi l Γ gm_X10_isSign d [.ref (gad (gSS ad) 145), .int (iv c)] (gSS ad, I, J) (fun e μ => μ = (gSS ad, I, J) ∧ e = 0) := by
  refine gKi_of gk_X10_isSign.1 (Nat.le_of_ble_eq_true rfl) ?_
  show gG l Γ gm_X10_isSign (d, 0, 0, 0, 0) 0 [(0, .ref (gad (gSS ad) 145)), (1, .int (iv c))] [] _ _
  refine gg_aload_n dX10_isSign_0 0 rfl ?_
  refine gg_getI rfl gf_RX10_120 dX10_isSign_1 sh_145 pl_145 (by decide) (by decide) ?_
  refine gg_toI (b := 1) h16 ?_
  refine gg_if_ne_t (tgt := 27) dX10_isSign_4 (by decide) (by decide) (by decide) ?_
  refine gg_iconst dX10_isSign_27 ?_
  refine gg_iretz dX10_isSign_28 rfl (by decide) ⟨rfl, rfl⟩ ?_
  exact ⟨rfl, rfl⟩

set_option maxRecDepth 10000 in
theorem c_X10_isSign_r {l : Launch} {Γ : gC} {ad : Nat → Nat} {I : Nat → Nat → Int} {J : Nat → Nat → Int64} {d : Nat} {T : Nat → Int} {n : Nat} {q : Nat} (hR : gRq I T n q) (h1 : gtC T n q ≠ 1) {c : Int} (hc : 40 ≤ c ∧ c ≤ 94) : gKi l Γ gm_X10_isSign d [.ref (gad (gSS ad) 145), .int (iv c)] (gSS ad, I, J) (fun e μ => μ = (gSS ad, I, J) ∧ ((e = 1 ∧ (gtC T n q = c)) ∨ (e = 0 ∧ ¬ (gtC T n q = c)))) := by
  refine gKi_of gk_X10_isSign.1 (Nat.le_of_ble_eq_true rfl) ?_
  show gG l Γ gm_X10_isSign (d, 0, 0, 0, 0) 0 [(0, .ref (gad (gSS ad) 145)), (1, .int (iv c))] [] _ _
  have hcr := gtC_rng T n q
  obtain ⟨x, hx, hxx⟩ : ∃ x, I 145 13 = x ∧ ((x = 3 ∧ 3 < gtC T n q) ∨ (0 ≤ x ∧ x ≤ 2 ∧ gtC T n q ≤ 3)) := by
    by_cases h0 : gtC T n q = 0
    · exact ⟨0, hR.2.2.2.1 h0, Or.inr (by omega)⟩
    · by_cases h2 : gtC T n q = 2
      · exact ⟨1, (hR.2.2.2.2.1 h2).1, Or.inr (by omega)⟩
      · by_cases h3 : gtC T n q = 3
        · exact ⟨2, (hR.2.2.2.2.2.1 h3).1, Or.inr (by omega)⟩
        · exact ⟨3, (hR.2.2.2.2.2.2 (by omega)).1, Or.inl (by omega)⟩
  refine gg_aload_n dX10_isSign_0 0 rfl ?_
  refine gg_getI rfl gf_RX10_120 dX10_isSign_1 sh_145 pl_145 (by decide) (by decide) ?_
  refine gg_toI (b := 0) (hR.2.2.1 h1).1 ?_
  refine gg_if_ne_f (tgt := 27) dX10_isSign_4 (by decide) (by decide) (by decide) ?_
  refine gg_aload_n dX10_isSign_7 0 rfl ?_
  refine gg_getI rfl gf_RX10_132 dX10_isSign_8 sh_145 pl_145 (by decide) (by decide) ?_
  refine gg_toI (b := x) hx ?_
  refine gg_iconst dX10_isSign_11 ?_
  refine gg_icmp_ne (tgt := 27) dX10_isSign_12 (by decide) (by omega) (fun hb1 => ?_) (fun hb1 => ?_)
  · refine gg_iconst dX10_isSign_27 ?_
    refine gg_iretz dX10_isSign_28 rfl (by decide) ⟨rfl, rfl⟩ ?_
    exact ⟨rfl, Or.inr ⟨rfl, by omega⟩⟩
  · refine gg_aload_n dX10_isSign_15 0 rfl ?_
    refine gg_getI rfl gf_RX10_135 dX10_isSign_16 sh_145 pl_145 (by decide) (by decide) ?_
    refine gg_toI (b := (gtC T n q)) (hR.2.2.2.2.2.2 (by omega)).2 ?_
    refine gg_iload_n dX10_isSign_19 1 rfl ?_
    refine gg_icmp_ne (tgt := 27) dX10_isSign_20 (by decide) (by omega) (fun hb2 => ?_) (fun hb2 => ?_)
    · refine gg_iconst dX10_isSign_27 ?_
      refine gg_iretz dX10_isSign_28 rfl (by decide) ⟨rfl, rfl⟩ ?_
      exact ⟨rfl, Or.inr ⟨rfl, by omega⟩⟩
    · refine gg_iconst dX10_isSign_23 ?_
      refine gg_goto (tgt := 28) dX10_isSign_24 (by decide) ?_
      refine gg_iretz dX10_isSign_28 rfl (by decide) ⟨rfl, rfl⟩ ?_
      exact ⟨rfl, Or.inl ⟨rfl, by omega⟩⟩

theorem c_X10_isSign {l : Launch} {Γ : gC} {ad : Nat → Nat} {I : Nat → Nat → Int} {J : Nat → Nat → Int64} {d : Nat} {T : Nat → Int} {n : Nat} {q : Nat} (hR : gRq I T n q) {c : Int} (hc : 40 ≤ c ∧ c ≤ 94) : gKi l Γ gm_X10_isSign d [.ref (gad (gSS ad) 145), .int (iv c)] (gSS ad, I, J) (fun e μ => μ = (gSS ad, I, J) ∧ ((e = 1 ∧ (gtC T n q = c)) ∨ (e = 0 ∧ ¬ (gtC T n q = c)))) := by
  by_cases h : gtC T n q = 1
  · exact gK_mono (c_X10_isSign_w (hR.2.1 h)) (fun r μ ⟨e, h1, h2, h3⟩ => ⟨e, h1, h2, Or.inr ⟨h3, by omega⟩⟩)
  · exact c_X10_isSign_r hR h hc
set_option maxRecDepth 10000 in
theorem c_X10_one_w {l : Launch} {Γ : gC} {ad : Nat → Nat} {I : Nat → Nat → Int} {J : Nat → Nat → Int64} {d : Nat} (h16 : I 145 16 = 1) (hd : 0 ≤ d) : gKv l Γ gm_X10_one d [.ref (gad (gSS ad) 145)] (gSS ad, I, J) (fun μ => μ = (gSS ad, I, J)) := by
  refine gKv_of gk_X10_one.1 (Nat.le_of_ble_eq_true rfl) ?_
  show gG l Γ gm_X10_one (d, 0, 0, 0, 0) 0 [(0, .ref (gad (gSS ad) 145))] [] _ _
  refine gg_aload_n dX10_one_0 0 rfl ?_
  refine gg_getI rfl gf_RX10_120 dX10_one_1 sh_145 pl_145 (by decide) (by decide) ?_
  refine gg_toI (b := 1) h16 ?_
  refine gg_if_eq_f (tgt := 8) dX10_one_4 (by decide) (by decide) (by decide) ?_
  refine gg_vretv dX10_one_7 rfl ⟨rfl, rfl⟩ ?_
  exact rfl

set_option maxRecDepth 10000 in
theorem c_X10_pow_w {l : Launch} {Γ : gC} {ad : Nat → Nat} {I : Nat → Nat → Int} {J : Nat → Nat → Int64} {d : Nat} (h16 : I 145 16 = 1) (hd : 1 ≤ d) : gKv l Γ gm_X10_pow d [.ref (gad (gSS ad) 145)] (gSS ad, I, J) (fun μ => μ = (gSS ad, I, J)) := by
  refine gKv_of gk_X10_pow.1 (Nat.le_of_ble_eq_true rfl) ?_
  show gG l Γ gm_X10_pow (d, 0, 0, 0, 0) 0 [(0, .ref (gad (gSS ad) 145))] [] _ _
  refine gg_aload_n dX10_pow_0 0 rfl ?_
  refine gg_getI rfl gf_RX10_90 dX10_pow_1 sh_145 pl_145 (by decide) (by decide) ?_
  refine gg_istore_n (ls' := [(1, .int (iv (I 145 5))), (0, .ref (gad (gSS ad) 145))]) dX10_pow_4 rfl (by decide) rfl ?_
  refine gg_aload_n dX10_pow_5 1 rfl ?_
  refine gg_callVv (own := RX10) (yt := gm_X10_one) rfl gl_RX10_168 gk_X10_one gr_X10_one dX10_pow_6 (c_X10_one_w (d := d - 1) h16 (by omega)) sh_145 pl_145 (by decide) rfl rfl rfl (Nat.le_of_ble_eq_true rfl) (by show _ ≤ d; omega) ⟨Nat.le_refl _, Nat.le_refl _⟩ (fun μ' hc => ?_)
  obtain rfl := hc
  refine gg_aload_n dX10_pow_9 1 rfl ?_
  refine gg_bipush dX10_pow_10 (by decide) ?_
  refine gg_callVi (own := RX10) (yt := gm_X10_isSign) rfl gl_RX10_145 gk_X10_isSign gr_X10_isSign dX10_pow_12 (c_X10_isSign_w (d := d - 1) h16) sh_145 pl_145 (by decide) rfl rfl rfl (Nat.le_of_ble_eq_true rfl) (by show _ ≤ d; omega) ⟨Nat.le_refl _, Nat.le_refl _⟩ (fun e2 μ' hc => ?_)
  obtain ⟨rfl, rfl⟩ := hc
  refine gg_if_eq_t (tgt := 70) dX10_pow_15 (by decide) (by decide) (by decide) ?_
  refine gg_vretv dX10_pow_70 rfl ⟨rfl, rfl⟩ ?_
  exact rfl

set_option maxRecDepth 10000 in
theorem c_X10_term_w {l : Launch} {Γ : gC} {ad : Nat → Nat} {I : Nat → Nat → Int} {J : Nat → Nat → Int64} {d : Nat} (h16 : I 145 16 = 1) (hd : 2 ≤ d) : gKv l Γ gm_X10_term d [.ref (gad (gSS ad) 145)] (gSS ad, I, J) (fun μ => μ = (gSS ad, I, J)) := by
  refine gKv_of gk_X10_term.1 (Nat.le_of_ble_eq_true rfl) ?_
  show gG l Γ gm_X10_term (d, 0, 0, 0, 0) 0 [(0, .ref (gad (gSS ad) 145))] [] _ _
  refine gg_aload_n dX10_term_0 0 rfl ?_
  refine gg_getI rfl gf_RX10_90 dX10_term_1 sh_145 pl_145 (by decide) (by decide) ?_
  refine gg_istore_n (ls' := [(1, .int (iv (I 145 5))), (0, .ref (gad (gSS ad) 145))]) dX10_term_4 rfl (by decide) rfl ?_
  refine gg_aload_n dX10_term_5 1 rfl ?_
  refine gg_callVv (own := RX10) (yt := gm_X10_pow) rfl gl_RX10_165 gk_X10_pow gr_X10_pow dX10_term_6 (c_X10_pow_w (d := d - 1) h16 (by omega)) sh_145 pl_145 (by decide) rfl rfl rfl (Nat.le_of_ble_eq_true rfl) (by show _ ≤ d; omega) ⟨Nat.le_refl _, Nat.le_refl _⟩ (fun μ' hc => ?_)
  obtain rfl := hc
  refine gg_aload_n dX10_term_9 1 rfl ?_
  refine gg_bipush dX10_term_10 (by decide) ?_
  refine gg_callVi (own := RX10) (yt := gm_X10_isSign) rfl gl_RX10_145 gk_X10_isSign gr_X10_isSign dX10_term_12 (c_X10_isSign_w (d := d - 1) h16) sh_145 pl_145 (by decide) rfl rfl rfl (Nat.le_of_ble_eq_true rfl) (by show _ ≤ d; omega) ⟨Nat.le_refl _, Nat.le_refl _⟩ (fun e2 μ' hc => ?_)
  obtain ⟨rfl, rfl⟩ := hc
  refine gg_if_eq_t (tgt := 36) dX10_term_15 (by decide) (by decide) (by decide) ?_
  refine gg_vretv dX10_term_36 rfl ⟨rfl, rfl⟩ ?_
  exact rfl

set_option maxRecDepth 10000 in
theorem c_X10_sum_w {l : Launch} {Γ : gC} {ad : Nat → Nat} {I : Nat → Nat → Int} {J : Nat → Nat → Int64} {d : Nat} (h16 : I 145 16 = 1) (hd : 3 ≤ d) : gKv l Γ gm_X10_sum d [.ref (gad (gSS ad) 145)] (gSS ad, I, J) (fun μ => μ = (gSS ad, I, J)) := by
  refine gKv_of gk_X10_sum.1 (Nat.le_of_ble_eq_true rfl) ?_
  show gG l Γ gm_X10_sum (d, 0, 0, 0, 0) 0 [(0, .ref (gad (gSS ad) 145))] [] _ _
  refine gg_aload_n dX10_sum_0 0 rfl ?_
  refine gg_getI rfl gf_RX10_90 dX10_sum_1 sh_145 pl_145 (by decide) (by decide) ?_
  refine gg_istore_n (ls' := [(1, .int (iv (I 145 5))), (0, .ref (gad (gSS ad) 145))]) dX10_sum_4 rfl (by decide) rfl ?_
  refine gg_aload_n dX10_sum_5 1 rfl ?_
  refine gg_callVv (own := RX10) (yt := gm_X10_term) rfl gl_RX10_162 gk_X10_term gr_X10_term dX10_sum_6 (c_X10_term_w (d := d - 1) h16 (by omega)) sh_145 pl_145 (by decide) rfl rfl rfl (Nat.le_of_ble_eq_true rfl) (by show _ ≤ d; omega) ⟨Nat.le_refl _, Nat.le_refl _⟩ (fun μ' hc => ?_)
  obtain rfl := hc
  refine gg_aload_n dX10_sum_9 1 rfl ?_
  refine gg_bipush dX10_sum_10 (by decide) ?_
  refine gg_callVi (own := RX10) (yt := gm_X10_isSign) rfl gl_RX10_145 gk_X10_isSign gr_X10_isSign dX10_sum_12 (c_X10_isSign_w (d := d - 1) h16) sh_145 pl_145 (by decide) rfl rfl rfl (Nat.le_of_ble_eq_true rfl) (by show _ ≤ d; omega) ⟨Nat.le_refl _, Nat.le_refl _⟩ (fun e2 μ' hc => ?_)
  obtain ⟨rfl, rfl⟩ := hc
  refine gg_if_ne_f (tgt := 27) dX10_sum_15 (by decide) (by decide) (by decide) ?_
  refine gg_aload_n dX10_sum_18 1 rfl ?_
  refine gg_bipush dX10_sum_19 (by decide) ?_
  refine gg_callVi (own := RX10) (yt := gm_X10_isSign) rfl gl_RX10_145 gk_X10_isSign gr_X10_isSign dX10_sum_21 (c_X10_isSign_w (d := d - 1) h16) sh_145 pl_145 (by decide) rfl rfl rfl (Nat.le_of_ble_eq_true rfl) (by show _ ≤ d; omega) ⟨Nat.le_refl _, Nat.le_refl _⟩ (fun e3 μ' hc => ?_)
  obtain ⟨rfl, rfl⟩ := hc
  refine gg_if_eq_t (tgt := 62) dX10_sum_24 (by decide) (by decide) (by decide) ?_
  refine gg_vretv dX10_sum_62 rfl ⟨rfl, rfl⟩ ?_
  exact rfl

set_option maxRecDepth 10000 in
theorem c_X10_choice_w {l : Launch} {Γ : gC} {ad : Nat → Nat} {I : Nat → Nat → Int} {J : Nat → Nat → Int64} {d : Nat} (h16 : I 145 16 = 1) (hd : 4 ≤ d) : gKv l Γ gm_X10_choice d [.ref (gad (gSS ad) 145)] (gSS ad, I, J) (fun μ => μ = (gSS ad, I, J)) := by
  refine gKv_of gk_X10_choice.1 (Nat.le_of_ble_eq_true rfl) ?_
  show gG l Γ gm_X10_choice (d, 0, 0, 0, 0) 0 [(0, .ref (gad (gSS ad) 145))] [] _ _
  refine gg_aload_n dX10_choice_0 0 rfl ?_
  refine gg_getI rfl gf_RX10_90 dX10_choice_1 sh_145 pl_145 (by decide) (by decide) ?_
  refine gg_istore_n (ls' := [(1, .int (iv (I 145 5))), (0, .ref (gad (gSS ad) 145))]) dX10_choice_4 rfl (by decide) rfl ?_
  refine gg_aload_n dX10_choice_5 1 rfl ?_
  refine gg_callVv (own := RX10) (yt := gm_X10_sum) rfl gl_RX10_151 gk_X10_sum gr_X10_sum dX10_choice_6 (c_X10_sum_w (d := d - 1) h16 (by omega)) sh_145 pl_145 (by decide) rfl rfl rfl (Nat.le_of_ble_eq_true rfl) (by show _ ≤ d; omega) ⟨Nat.le_refl _, Nat.le_refl _⟩ (fun μ' hc => ?_)
  obtain rfl := hc
  refine gg_aload_n dX10_choice_9 1 rfl ?_
  refine gg_bipush dX10_choice_10 (by decide) ?_
  refine gg_callVi (own := RX10) (yt := gm_X10_isSign) rfl gl_RX10_145 gk_X10_isSign gr_X10_isSign dX10_choice_12 (c_X10_isSign_w (d := d - 1) h16) sh_145 pl_145 (by decide) rfl rfl rfl (Nat.le_of_ble_eq_true rfl) (by show _ ≤ d; omega) ⟨Nat.le_refl _, Nat.le_refl _⟩ (fun e2 μ' hc => ?_)
  obtain ⟨rfl, rfl⟩ := hc
  refine gg_if_ne_f (tgt := 19) dX10_choice_15 (by decide) (by decide) (by decide) ?_
  refine gg_vretv dX10_choice_18 rfl ⟨rfl, rfl⟩ ?_
  exact rfl

