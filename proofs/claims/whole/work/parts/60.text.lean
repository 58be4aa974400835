/-! how long what is read is -/
theorem gBd_some {r : gRT} {k : gLn → Nat → gRT} {x : gLn × Nat} (h : gBd r k = .inr x) : ∃ t q, r = .inr (t, q) ∧ k t q = .inr x := by
  cases r with
  | inl p => exact absurd h (by rw [gBd_inl]; exact fun h => nomatch h)
  | inr y => exact ⟨y.1, y.2, rfl, h⟩
theorem gif_some {c : Prop} [Decidable c] {a b : gRT} {x : gLn × Nat} (h : (if c then a else b) = .inr x) : (c ∧ a = .inr x) ∨ (¬ c ∧ b = .inr x) := by
  by_cases hc : c
  · rw [if_pos hc] at h
    exact Or.inl ⟨hc, h⟩
  · rw [if_neg hc] at h
    exact Or.inr ⟨hc, h⟩
theorem ginr_inj {t t' : gLn} {q q' : Nat} (h : (Sum.inr (t, q) : gRT) = .inr (t', q')) : t = t' ∧ q = q' := by
  injection h with h
  injection h with h1 h2
  exact ⟨h1, h2⟩
def gBnd (n : Nat) (R : Nat → gRT) : Prop := ∀ (q : Nat) (t : gLn) (q' : Nat), q ≤ n → R q = .inr (t, q') → q < q' ∧ q' ≤ n ∧ 2 * t.length + 1 + 3 * q ≤ 3 * q'
theorem gBnd_lf (T : Nat → Int) (n : Nat) : gBnd n (gLf T n) := by
  intro q t q' hq h
  have hE := gtE_le T hq
  unfold gLf at h
  rcases gif_some h with ⟨hc, h⟩ | ⟨hc, h⟩
  · have h0 := hE.2.2.2 (by omega)
    obtain ⟨rfl, rfl⟩ := ginr_inj h
    refine ⟨by omega, by omega, ?_⟩
    simp only [List.length_cons, List.length_nil]
    omega
  · rcases gif_some h with ⟨hc, h⟩ | ⟨hc, h⟩
    · have h0 := hE.2.2.2 (by omega)
      obtain ⟨rfl, rfl⟩ := ginr_inj h
      refine ⟨by omega, by omega, ?_⟩
      simp only [List.length_cons, List.length_nil]
      omega
    · exact nomatch h
theorem gBnd_pwL {T : Nat → Int} {n q0 : Nat} {t' : gLn} {q' : Nat} : ∀ (m : Nat) (t : gLn) (q : Nat), q0 < q → q ≤ n → 2 * t.length + 1 + 3 * q0 ≤ 3 * q → gPwL T n m t q = .inr (t', q') → q0 < q' ∧ q' ≤ n ∧ 2 * t'.length + 1 + 3 * q0 ≤ 3 * q'
  | 0, t, q, h1, h2, h3, h => by
    obtain ⟨rfl, rfl⟩ := ginr_inj h
    exact ⟨h1, h2, h3⟩
  | m + 1, t, q, h1, h2, h3, h => by
    have hE := gtE_le T h2
    have hE2 := gtE_le T hE.2.2.1
    simp only [gPwL] at h
    rcases gif_some h with ⟨hc, h⟩ | ⟨hc, h⟩
    · have h0 := hE.2.2.2 (by omega)
      rcases gif_some h with ⟨hc2, h⟩ | ⟨hc2, h⟩
      · have h02 := hE2.2.2.2 (by omega)
        exact gBnd_pwL m _ _ (by omega) (by omega) (by simp only [List.length_cons]; omega) h
      · exact nomatch h
    · obtain ⟨rfl, rfl⟩ := ginr_inj h
      exact ⟨h1, h2, h3⟩
theorem gBnd_pw {T : Nat → Int} {n : Nat} {o : Nat → gRT} (ho : gBnd n o) : gBnd n (gPw T n o) := by
  intro q t q' hq h
  obtain ⟨t0, q0, h1, h2⟩ := gBd_some h
  obtain ⟨g1, g2, g3⟩ := ho q t0 q0 hq h1
  exact gBnd_pwL 120 t0 q0 g1 g2 g3 h2
theorem gBnd_tmL {T : Nat → Int} {n q0 : Nat} {pw : Nat → gRT} {t' : gLn} {q' : Nat} (hp : gBnd n pw) : ∀ (m : Nat) (t : gLn) (q : Nat), q0 < q → q ≤ n → 2 * t.length + 1 + 3 * q0 ≤ 3 * q → gTmL T n pw m t q = .inr (t', q') → q0 < q' ∧ q' ≤ n ∧ 2 * t'.length + 1 + 3 * q0 ≤ 3 * q'
  | 0, t, q, h1, h2, h3, h => by
    obtain ⟨rfl, rfl⟩ := ginr_inj h
    exact ⟨h1, h2, h3⟩
  | m + 1, t, q, h1, h2, h3, h => by
    have hE := gtE_le T h2
    simp only [gTmL] at h
    rcases gif_some h with ⟨hc, h⟩ | ⟨hc, h⟩
    · have h0 := hE.2.2.2 (by omega)
      obtain ⟨t1, q1, g1, g2⟩ := gBd_some h
      obtain ⟨k1, k2, k3⟩ := hp _ _ _ hE.2.2.1 g1
      exact gBnd_tmL hp m _ _ (by omega) (by omega) (by simp only [List.length_cons, List.length_append]; omega) g2
    · obtain ⟨rfl, rfl⟩ := ginr_inj h
      exact ⟨h1, h2, h3⟩
theorem gBnd_tm {T : Nat → Int} {n : Nat} {o : Nat → gRT} (ho : gBnd n o) : gBnd n (gTm T n o) := by
  intro q t q' hq h
  obtain ⟨t0, q0, h1, h2⟩ := gBd_some h
  obtain ⟨g1, g2, g3⟩ := gBnd_pw ho q t0 q0 hq h1
  exact gBnd_tmL (gBnd_pw ho) 120 t0 q0 g1 g2 g3 h2
theorem gBnd_smL {T : Nat → Int} {n q0 : Nat} {tm : Nat → gRT} {t' : gLn} {q' : Nat} (hp : gBnd n tm) : ∀ (m : Nat) (t : gLn) (q : Nat), q0 < q → q ≤ n → 2 * t.length + 1 + 3 * q0 ≤ 3 * q → gSmL T n tm m t q = .inr (t', q') → q0 < q' ∧ q' ≤ n ∧ 2 * t'.length + 1 + 3 * q0 ≤ 3 * q'
  | 0, t, q, h1, h2, h3, h => by
    obtain ⟨rfl, rfl⟩ := ginr_inj h
    exact ⟨h1, h2, h3⟩
  | m + 1, t, q, h1, h2, h3, h => by
    have hE := gtE_le T h2
    simp only [gSmL] at h
    rcases gif_some h with ⟨hc, h⟩ | ⟨hc, h⟩
    · have h0 := hE.2.2.2 (by omega)
      obtain ⟨t1, q1, g1, g2⟩ := gBd_some h
      obtain ⟨k1, k2, k3⟩ := hp _ _ _ hE.2.2.1 g1
      exact gBnd_smL hp m _ _ (by omega) (by omega) (by simp only [List.length_cons, List.length_append]; omega) g2
    · rcases gif_some h with ⟨hc2, h⟩ | ⟨hc2, h⟩
      · have h0 := hE.2.2.2 (by omega)
        obtain ⟨t1, q1, g1, g2⟩ := gBd_some h
        obtain ⟨k1, k2, k3⟩ := hp _ _ _ hE.2.2.1 g1
        exact gBnd_smL hp m _ _ (by omega) (by omega) (by simp only [List.length_cons, List.length_append]; omega) g2
      · obtain ⟨rfl, rfl⟩ := ginr_inj h
        exact ⟨h1, h2, h3⟩
theorem gBnd_sm {T : Nat → Int} {n : Nat} {o : Nat → gRT} (ho : gBnd n o) : gBnd n (gSm T n o) := by
  intro q t q' hq h
  obtain ⟨t0, q0, h1, h2⟩ := gBd_some h
  obtain ⟨g1, g2, g3⟩ := gBnd_tm ho q t0 q0 hq h1
  exact gBnd_smL (gBnd_tm ho) 120 t0 q0 g1 g2 g3 h2
theorem gBnd_ch {T : Nat → Int} {n : Nat} {sm : Nat → gRT} (hs : gBnd n sm) : gBnd n (gChF T n sm) := by
  intro q t q' hq h
  obtain ⟨t0, q0, h1, h2⟩ := gBd_some h
  obtain ⟨g1, g2, g3⟩ := hs q t0 q0 hq h1
  have hE := gtE_le T g2
  rcases gif_some h2 with ⟨hc, h⟩ | ⟨hc, h⟩
  · have h0 := hE.2.2.2 (by omega)
    obtain ⟨t1, q1, h3, h4⟩ := gBd_some h
    obtain ⟨k1, k2, k3⟩ := hs _ _ _ hE.2.2.1 h3
    have hE2 := gtE_le T k2
    rcases gif_some h4 with ⟨hc2, h⟩ | ⟨hc2, h⟩
    · have h02 := hE2.2.2.2 (by omega)
      obtain ⟨t2, q2, h5, h6⟩ := gBd_some h
      obtain ⟨l1, l2, l3⟩ := hs _ _ _ hE2.2.2.1 h5
      obtain ⟨rfl, rfl⟩ := ginr_inj h6
      refine ⟨by omega, by omega, ?_⟩
      simp only [List.length_cons, List.length_append]
      omega
    · exact nomatch h
  · obtain ⟨rfl, rfl⟩ := ginr_inj h
    exact ⟨g1, g2, g3⟩
theorem gBnd_en {T : Nat → Int} {n : Nat} {o : Nat → gRT} (ho : gBnd n o) {c : Int} (hc0 : c ≠ 0) {q : Nat} {t : gLn} {q' : Nat} (hq : q ≤ n) (hq0 : gtC T n q ≠ 0) (h : gEn T n o c q = .inr (t, q')) : q + 1 < q' ∧ q' ≤ n ∧ 2 * t.length + 4 + 3 * q ≤ 3 * q' := by
  have hE := gtE_le T hq
  have h0 := hE.2.2.2 hq0
  obtain ⟨t0, q0, h1, h2⟩ := gBd_some h
  obtain ⟨g1, g2, g3⟩ := gBnd_ch (gBnd_sm ho) _ _ _ hE.2.2.1 h1
  have hE2 := gtE_le T g2
  rcases gif_some h2 with ⟨hc, h⟩ | ⟨hc, h⟩
  · have h02 := hE2.2.2.2 (by omega)
    obtain ⟨rfl, rfl⟩ := ginr_inj h
    exact ⟨by omega, by omega, by omega⟩
  · exact nomatch h
theorem gBnd_on (T : Nat → Int) (n : Nat) : ∀ u, gBnd n (gOn T n u)
  | 0 => gBnd_lf T n
  | u + 1 => by
    have ih := gBnd_on T n u
    intro q t q' hq h
    have hE := gtE_le T hq
    have h : (if gtC T n q = 45 then gNe T n (gOn T n u) q else if gtC T n q = 40 then gEn T n (gOn T n u) 41 q else if gtC T n q = 91 then gSqr T n (gOn T n u) q else gLf T n q) = .inr (t, q') := h
    rcases gif_some h with ⟨hc, h⟩ | ⟨hc, h⟩
    · have h0 := hE.2.2.2 (by omega)
      obtain ⟨t0, q0, h1, h2⟩ := gBd_some h
      obtain ⟨g1, g2, g3⟩ := ih _ _ _ hE.2.2.1 h1
      obtain ⟨rfl, rfl⟩ := ginr_inj h2
      refine ⟨by omega, by omega, ?_⟩
      simp only [List.length_cons]
      omega
    · rcases gif_some h with ⟨hc, h⟩ | ⟨hc, h⟩
      · obtain ⟨g1, g2, g3⟩ := gBnd_en ih (by decide) hq (by omega) h
        exact ⟨by omega, by omega, by omega⟩
      · rcases gif_some h with ⟨hc, h⟩ | ⟨hc, h⟩
        · obtain ⟨t0, q0, h1, h2⟩ := gBd_some h
          obtain ⟨g1, g2, g3⟩ := gBnd_en ih (by decide) hq (by omega) h1
          obtain ⟨rfl, rfl⟩ := ginr_inj h2
          refine ⟨by omega, by omega, ?_⟩
          simp only [List.length_cons]
          omega
        · exact gBnd_lf T n q t q' hq h
/-- what the tape's text is -/
noncomputable def gTxt (T : Nat → Int) (n : Nat) : gRT := gBd (gChF T n (gSm T n (gOn T n 5)) 0) (fun t q => if gtC T n q = 0 then .inr (t, q) else .inl (gtP T n q))
theorem gTxt_len {T : Nat → Int} {n : Nat} {t : gLn} {q : Nat} (hn : n ≤ 120) (h : gTxt T n = .inr (t, q)) : t.length ≤ 179 := by
  obtain ⟨t0, q0, h1, h2⟩ := gBd_some h
  obtain ⟨g1, g2, g3⟩ := gBnd_ch (gBnd_sm (gBnd_on T n 5)) _ _ _ (Nat.zero_le _) h1
  rcases gif_some h2 with ⟨hc, h⟩ | ⟨hc, h⟩
  · obtain ⟨rfl, rfl⟩ := ginr_inj h
    omega
  · exact nomatch h
/-! the class's text -/
/-- what stays when a text is taken in -/
def gKtx (I : Nat → Nat → Int) (J : Nat → Nat → Int64) (I1 : Nat → Nat → Int) (J1 : Nat → Nat → Int64) : Prop := (∀ p, p < 12 ∨ 25 ≤ p → I1 p = I p) ∧ I1 21 = I 21 ∧ I1 20 2 = 0 ∧ (∀ p, p ≠ 14 → J1 p = J p)
theorem gKtx_k {I Ia I1 : Nat → Nat → Int} {J J1 : Nat → Nat → Int64} (h : gKeep Ia J I1 J1) (ha : ∀ p, p ≠ 12 → p ≠ 20 → Ia p = I p) : gKtx I J (gu I1 20 2 0) J1 := ⟨fun p hp => (gu_other (by omega)).trans ((h.1 p (by omega) (by omega) (by omega) (by omega) (by omega) (by omega) (by omega)).trans (ha p (by omega) (by omega))), (gu_other (by omega)).trans ((h.1 21 (by omega) (by omega) (by omega) (by omega) (by omega) (by omega) (by omega)).trans (ha 21 (by omega) (by omega))), gu_s, h.2.2.2⟩
theorem gDf_20u {I : Nat → Nat → Int} {J : Nat → Nat → Int64} {D : List gLn} {q : Nat} {x : Int} (h : gDf I J D) : gDf (gu I 20 q x) J D := gDf_W h (fun p hp => gu_other (by omega)) (by rw [gu_other (by omega)]) rfl
set_option maxRecDepth 10000 in
theorem c_X5_readTape {l : Launch} {Γ : gC} {ad : Nat → Nat} {I : Nat → Nat → Int} {J : Nat → Nat → Int64} {d : Nat} {T : Nat → Int} {n : Nat} (hT : gTp I T n) (hd : 57 ≤ d) : gKi l Γ gm_X5_readTape d [.ref (gad (gSS ad) 20)] (gSS ad, I, J) (fun e μ => ∃ I1 J1, μ = (gSS ad, I1, J1) ∧ gKtx I J I1 J1 ∧ ((∃ p : Nat, gTxt T n = .inl p ∧ e = -1 ∧ I1 20 7 = (p : Int)) ∨ (∃ (t : gLn) (q rr : Nat) (D : List gLn), gTxt T n = .inr (t, q) ∧ e = (rr : Int) ∧ gDf I1 J1 D ∧ D[rr]? = some t))) := by
  refine gKi_of gk_X5_readTape.1 (Nat.le_of_ble_eq_true rfl) ?_
  show gG l Γ gm_X5_readTape (d, 0, 0, 0, 0) 0 [(0, .ref (gad (gSS ad) 20))] [] _ _
  refine gg_aload_n dX5_readTape_0 0 rfl ?_
  refine gg_getR (k' := 12) rfl gf_RX5_15 dX5_readTape_1 sh_20 pl_20 (by decide) (by decide) rr_20_0 ?_
  refine gg_callVv (own := RX5) (yt := gm_X0_clear) rfl gl_RX5_26 gk_X0_clear gr_X0_clear dX5_readTape_4 (c_X0_clear (d := d - 1)) sh_12 pl_12 (by decide) rfl rfl rfl (Nat.le_of_ble_eq_true rfl) (by show _ ≤ d; omega) ⟨Nat.le_refl _, Nat.le_refl _⟩ (fun μ' hc => ?_)
  obtain rfl := hc
  refine gg_aload_n dX5_readTape_7 0 rfl ?_
  refine gg_iconst dX5_readTape_8 ?_
  refine gg_putI rfl gf_RX5_23 dX5_readTape_9 sh_20 pl_20 (by decide) (by decide) (by decide) (gfit_i _) ?_
  refine gg_aload_n dX5_readTape_12 0 rfl ?_
  refine gg_iconst dX5_readTape_13 ?_
  refine gg_putI rfl gf_RX5_31 dX5_readTape_14 sh_20 pl_20 (by decide) (by decide) (by decide) (gfit_i _) ?_
  refine gg_memI (fun Ia hIa => ?_)
  have hT3 : gTp Ia T n := by
    refine ⟨hT.1, ?_, fun q hq => ?_⟩
    · rw [hIa, gu_n (by omega), gu_n (by omega), gu_other (by omega)]; exact hT.2.1
    · rw [hIa, gu_other (by omega), gu_other (by omega), gu_other (by omega)]; exact hT.2.2 q hq
  have hD3 : gDf Ia J [] := gDf_0 (by rw [hIa, gu_other (by omega), gu_other (by omega)]; exact gu_s)
  refine gg_aload_n dX5_readTape_17 0 rfl ?_
  refine gg_callVv (own := RX5) (yt := gm_X5_advance) rfl gl_RX5_34 gk_X5_advance gr_X5_advance dX5_readTape_18 (c_X5_advance (d := d - 1) (T := T) (n := n) (q := 0) (Nat.zero_le _) hT3 (by rw [hIa]; exact gu_s) (by omega)) sh_20 pl_20 (by decide) rfl rfl rfl (Nat.le_of_ble_eq_true rfl) (by show _ ≤ d; omega) ⟨Nat.le_refl _, Nat.le_refl _⟩ (fun μ' hc => ?_)
  obtain ⟨I2, rfl, a2, hR2⟩ := hc
  have hT2 := gTp_f hT3 a2
  have hD2 := gDf_20 hD3 a2
  have hKa : gKeep Ia J I2 J := gKeep_20 a2
  refine gg_aload_n dX5_readTape_21 0 rfl ?_
  refine gg_iconst dX5_readTape_22 ?_
  have hch : gCx l Γ ad gm_X5_choice (d - 1) [.ref (gad (gSS ad) 20), .int (iv ((0 : Nat) : Int))] T n (gChF T n (gSm T n (gOn T n 5))) := by
    have h0 := r_X5_one (l := l) (Γ := Γ) (ad := ad) (T := T) (n := n) 5 0 (d - 1 - 1 - 1 - 1 - 1) (by omega) (by omega)
    have h1 := c_X5_pow (d := d - 1 - 1 - 1 - 1) (op := ((0 : Nat) : Int)) (by omega) h0
    have h2 := c_X5_term (d := d - 1 - 1 - 1) (op := ((0 : Nat) : Int)) (by omega) h1
    have h3 := c_X5_sum (d := d - 1 - 1) (op := ((0 : Nat) : Int)) (by omega) h2
    exact fun I J D q hT hR hD hq hl => c_X5_choice hT hR hD hq hl (by omega) h3
  have hia : ∀ p, p ≠ 12 → p ≠ 20 → Ia p = I p := fun p h1 h2 => by rw [hIa, gu_other h2, gu_other h2, gu_other h1]
  refine gg_callVi (own := RX5) (yt := gm_X5_choice) rfl gl_RX5_37 gk_X5_choice gr_X5_choice dX5_readTape_23 (hch I2 J [] 0 hT2 hR2 hD2 (Nat.zero_le _) (Nat.zero_le _)) sh_20 pl_20 (by decide) rfl rfl rfl (Nat.le_of_ble_eq_true rfl) (by show _ ≤ d; omega) ⟨Nat.le_refl _, Nat.le_refl _⟩ (fun e3 μ' hc => ?_)
  obtain ⟨I3, J3, rfl, hK3, hs3⟩ := hc
  refine gg_istore_n (ls' := [(1, .int (iv e3)), (0, .ref (gad (gSS ad) 20))]) dX5_readTape_26 rfl (by decide) rfl ?_
  refine gg_iload_n dX5_readTape_27 0 rfl ?_
  refine gg_if_lt (tgt := 43) dX5_readTape_28 (by decide) (by have := gRs_rng hs3; omega) (fun hg3 => ?_) (fun hg3 => ?_)
  · obtain ⟨p, hr3, hem3, h7⟩ := gRs_neg hs3 (by omega)
    subst hem3
    refine gg_aload_n dX5_readTape_43 1 rfl ?_
    refine gg_iconst dX5_readTape_44 ?_
    refine gg_putI rfl gf_RX5_19 dX5_readTape_45 sh_20 pl_20 (by decide) (by decide) (by decide) (gfit_i _) ?_
    refine gg_iload_n dX5_readTape_48 0 rfl ?_
    refine gg_ireti dX5_readTape_49 rfl ⟨rfl, rfl⟩ ?_
    refine ⟨_, J3, rfl, gKtx_k (gKeep_t hKa hK3) hia, Or.inl ⟨p, ?_, rfl, (gu_n (by omega)).trans h7⟩⟩
    unfold gTxt
    rw [hr3, gBd_inl]
  · have hg3 : 0 ≤ e3 := by omega
    obtain ⟨t3, p3, E3, r3, hr3, rfl, g3a, g3b, g3c, g3d, g3e, g3f⟩ := gRs_pos hs3 hg3
    have hT3 := gTp_p hT2 hK3
    have hL3 := g3a.2.1
    have hE3 := gtE_le T g3e
    have hlt3 := gget_lt g3b
    refine gg_aload_n dX5_readTape_31 1 rfl ?_
    refine gg_getI rfl gf_RX5_41 dX5_readTape_32 sh_20 pl_20 (by decide) (by decide) ?_
    refine gg_toI (b := gtC T n p3) g3c.1 ?_
    have hcr3 := gtC_rng T n p3
    refine gg_if_eq (tgt := 43) dX5_readTape_35 (by decide) (by omega) (fun hq0 => ?_) (fun hq0 => ?_)
    · refine gg_aload_n dX5_readTape_43 1 rfl ?_
      refine gg_iconst dX5_readTape_44 ?_
      refine gg_putI rfl gf_RX5_19 dX5_readTape_45 sh_20 pl_20 (by decide) (by decide) (by decide) (gfit_i _) ?_
      refine gg_iload_n dX5_readTape_48 0 rfl ?_
      refine gg_ireti dX5_readTape_49 rfl ⟨rfl, rfl⟩ ?_
      refine ⟨_, J3, rfl, gKtx_k (gKeep_t hKa hK3) hia, Or.inr ⟨t3, p3, r3, [] ++ E3, ?_, rfl, gDf_20u g3a, g3b⟩⟩
      unfold gTxt
      rw [hr3, gBd_inr, if_pos hq0]
    · refine gg_aload_n dX5_readTape_38 1 rfl ?_
      refine gg_callVi (own := RX5) (yt := gm_X5_fail) rfl gl_RX5_44 gk_X5_fail gr_X5_fail dX5_readTape_39 (c_X5_fail (d := d - 1) (p := gtP T n p3) g3c.2.1) sh_20 pl_20 (by decide) rfl rfl rfl (Nat.le_of_ble_eq_true rfl) (by show _ ≤ d; omega) ⟨Nat.le_refl _, Nat.le_refl _⟩ (fun e3 μ' hc => ?_)
      obtain ⟨rfl, rfl⟩ := hc
      refine gg_istore_n (ls' := [(1, .int (iv (-1))), (0, .ref (gad (gSS ad) 20))]) dX5_readTape_42 rfl (by decide) rfl ?_
      refine gg_aload_n dX5_readTape_43 1 rfl ?_
      refine gg_iconst dX5_readTape_44 ?_
      refine gg_putI rfl gf_RX5_19 dX5_readTape_45 sh_20 pl_20 (by decide) (by decide) (by decide) (gfit_i _) ?_
      refine gg_iload_n dX5_readTape_48 0 rfl ?_
      refine gg_ireti dX5_readTape_49 rfl ⟨rfl, rfl⟩ ?_
      refine ⟨_, J3, rfl, gKtx_k (gKeep_t hKa (gKeep_t hK3 gKeep_7)) hia, Or.inl ⟨gtP T n p3, ?_, rfl, (gu_n (by omega)).trans gu_s⟩⟩
      unfold gTxt
      rw [hr3, gBd_inr, if_neg hq0]

