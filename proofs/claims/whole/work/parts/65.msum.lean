/-! the reference's reader: texts are read -/
/-- what stays when the reference reads -/
def gKm (I : Nat → Nat → Int) (J : Nat → Nat → Int64) (I1 : Nat → Nat → Int) (J1 : Nat → Nat → Int64) : Prop := (∀ p, p ≠ 145 → p ≠ 187 → I1 p = I p) ∧ (∀ k, k < 5 ∨ (7 ≤ k ∧ k ≤ 10) ∨ 17 ≤ k → I1 145 k = I 145 k) ∧ (∀ p, p ≠ 188 → J1 p = J p)
theorem gKm_r (I : Nat → Nat → Int) (J : Nat → Nat → Int64) : gKm I J I J := ⟨fun _ _ _ => rfl, fun _ _ => rfl, fun _ _ => rfl⟩
theorem gKm_t {I I1 I2 : Nat → Nat → Int} {J J1 J2 : Nat → Nat → Int64} (h : gKm I J I1 J1) (g : gKm I1 J1 I2 J2) : gKm I J I2 J2 := ⟨fun p a b => (g.1 p a b).trans (h.1 p a b), fun k a => (g.2.1 k a).trans (h.2.1 k a), fun p a => (g.2.2 p a).trans (h.2.2 p a)⟩
theorem gKm_45 {I I1 : Nat → Nat → Int} {J : Nat → Nat → Int64} (h : gF45 I I1) : gKm I J I1 J := ⟨fun p a _ => h.1 p a, fun k a => h.2 k (by omega) (by omega) (by omega) (by omega) (by omega), fun _ _ => rfl⟩
theorem gKm_15 {I : Nat → Nat → Int} {J : Nat → Nat → Int64} {x : Int} : gKm I J (gu I 145 15 x) J := ⟨fun p a _ => gu_other a, fun k a => gu_n (by omega), fun _ _ => rfl⟩
theorem gKm_p {I I1 : Nat → Nat → Int} {J J1 : Nat → Nat → Int64} (h1 : ∀ p, p ≠ 145 → p ≠ 187 → I1 p = I p) (h2 : ∀ q, q ≠ 5 → q ≠ 6 → I1 145 q = I 145 q) (h3 : ∀ p, p ≠ 188 → J1 p = J p) : gKm I J I1 J1 := ⟨h1, fun k a => h2 k (by omega) (by omega), h3⟩
theorem gTq_k {I I1 : Nat → Nat → Int} {J J1 : Nat → Nat → Int64} {T : Nat → Int} {n : Nat} (h : gTq I T n) (g : gKm I J I1 J1) : gTq I1 T n := ⟨h.1, (g.2.1 10 (by omega)).trans h.2.1, fun q hq => by rw [g.1 189 (by omega) (by omega)]; exact h.2.2 q hq⟩
theorem gRq_p {I I1 : Nat → Nat → Int} {T : Nat → Int} {n q : Nat} (h : gRq I T n q) (h2 : ∀ q, q ≠ 5 → q ≠ 6 → I1 145 q = I 145 q) : gRq I1 T n q := by
  unfold gRq
  rw [h2 11 (by omega) (by omega), h2 12 (by omega) (by omega), h2 13 (by omega) (by omega), h2 14 (by omega) (by omega), h2 16 (by omega) (by omega)]
  exact h
theorem gRq_15 {I : Nat → Nat → Int} {T : Nat → Int} {n q : Nat} {x : Int} (h : gRq I T n q) : gRq (gu I 145 15 x) T n q := by
  unfold gRq
  rw [gu_n (by omega), gu_n (by omega), gu_n (by omega), gu_n (by omega), gu_n (by omega)]
  exact h
theorem gMd_f {I I1 : Nat → Nat → Int} {J : Nat → Nat → Int64} {B : gLn} (h : gMd I J B) (g : gF45 I I1) : gMd I1 J B := ⟨(g.2 5 (by omega) (by omega) (by omega) (by omega) (by omega)).trans h.1, h.2.1, (g.2 6 (by omega) (by omega) (by omega) (by omega) (by omega)).trans h.2.2.1, gMe_I h.2.2.2 (g.1 187 (by omega))⟩
theorem gMd_15 {I : Nat → Nat → Int} {J : Nat → Nat → Int64} {B : gLn} {x : Int} (h : gMd I J B) : gMd (gu I 145 15 x) J B := ⟨(gu_n (by omega)).trans h.1, h.2.1, (gu_n (by omega)).trans h.2.2.1, gMe_I h.2.2.2 (gu_other (by omega))⟩
theorem gRq_w {I : Nat → Nat → Int} {T : Nat → Int} {n q : Nat} (h : gRq I T n q) : ∃ x, I 145 16 = x ∧ ((x = 1 ∧ gtC T n q = 1) ∨ (x = 0 ∧ gtC T n q ≠ 1)) := by
  by_cases hC : gtC T n q = 1
  · exact ⟨1, h.2.1 hC, Or.inl ⟨rfl, hC⟩⟩
  · exact ⟨0, (h.2.2.1 hC).1, Or.inr ⟨rfl, hC⟩⟩
theorem gRq_t {I : Nat → Nat → Int} {T : Nat → Int} {n q : Nat} (h : gRq I T n q) (h1 : gtC T n q ≠ 1) : ∃ y, I 145 13 = y ∧ ((y = 0 ∧ gtC T n q = 0) ∨ (y = 1 ∧ gtC T n q = 2) ∨ (y = 2 ∧ gtC T n q = 3) ∨ (y = 3 ∧ 3 < gtC T n q)) := by
  have hcr := gtC_rng T n q
  by_cases h0 : gtC T n q = 0
  · exact ⟨0, h.2.2.2.1 h0, Or.inl ⟨rfl, h0⟩⟩
  · by_cases h2 : gtC T n q = 2
    · exact ⟨1, (h.2.2.2.2.1 h2).1, Or.inr (Or.inl ⟨rfl, h2⟩)⟩
    · by_cases h3 : gtC T n q = 3
      · exact ⟨2, (h.2.2.2.2.2.1 h3).1, Or.inr (Or.inr (Or.inl ⟨rfl, h3⟩))⟩
      · exact ⟨3, (h.2.2.2.2.2.2 (by omega)).1, Or.inr (Or.inr (Or.inr ⟨rfl, by omega⟩))⟩
/-- what a reading leaves -/
def gQs (I1 : Nat → Nat → Int) (J1 : Nat → Nat → Int64) (B : gLn) (op : Int) (T : Nat → Int) (n : Nat) (r : gRT) : Prop := match r with
  | .inl p => I1 145 16 = 1 ∧ I1 145 12 = (p : Int)
  | .inr x => gMd I1 J1 (B ++ x.1) ∧ gRq I1 T n x.2 ∧ I1 145 15 = op
def gCm (l : Launch) (Γ : gC) (ad : Nat → Nat) (mt : gY) (d : Nat) (op : Int) (T : Nat → Int) (n : Nat) (R : Nat → gRT) : Prop := ∀ (I : Nat → Nat → Int) (J : Nat → Nat → Int64) (B : gLn) (q : Nat), gTq I T n → gRq I T n q → gMd I J B → I 145 15 = op → q ≤ n → 2 * B.length ≤ 3 * q → gKv l Γ mt d [.ref (gad (gSS ad) 145)] (gSS ad, I, J) (fun μ => ∃ I1 J1, μ = (gSS ad, I1, J1) ∧ gKm I J I1 J1 ∧ gQs I1 J1 B op T n (R q))
set_option maxRecDepth 10000 in
set_option maxRecDepth 10000 in
theorem n_X10_pow {l : Launch} {Γ : gC} {ad : Nat → Nat} {I : Nat → Nat → Int} {J : Nat → Nat → Int64} {d : Nat} {b : Int} (h16 : I 145 16 = 1) (hd : 1 ≤ d) : gG l Γ gm_X10_pow (d, 0, 0, 0, 0) 9 [(1, .int (iv b)), (0, .ref (gad (gSS ad) 145))] [] (gSS ad, I, J) (gDv (fun μ => μ = (gSS ad, I, J))) := by
  refine gg_aload_n dX10_pow_9 1 rfl ?_
  refine gg_bipush dX10_pow_10 (by decide) ?_
  refine gg_callVi (own := RX10) (yt := gm_X10_isSign) rfl gl_RX10_145 gk_X10_isSign gr_X10_isSign dX10_pow_12 (c_X10_isSign_w (d := d - 1) h16) sh_145 pl_145 (by decide) rfl rfl rfl (Nat.le_of_ble_eq_true rfl) (by show _ ≤ d; omega) ⟨Nat.le_refl _, Nat.le_refl _⟩ (fun e1 μ' hc => ?_)
  obtain ⟨rfl, rfl⟩ := hc
  refine gg_if_eq_t (tgt := 70) dX10_pow_15 (by decide) (by decide) (by decide) ?_
  refine gg_vretv dX10_pow_70 rfl ⟨rfl, rfl⟩ ?_
  exact rfl

set_option maxRecDepth 10000 in
set_option maxRecDepth 10000 in
theorem n_X10_term {l : Launch} {Γ : gC} {ad : Nat → Nat} {I : Nat → Nat → Int} {J : Nat → Nat → Int64} {d : Nat} {b : Int} (h16 : I 145 16 = 1) (hd : 1 ≤ d) : gG l Γ gm_X10_term (d, 0, 0, 0, 0) 9 [(1, .int (iv b)), (0, .ref (gad (gSS ad) 145))] [] (gSS ad, I, J) (gDv (fun μ => μ = (gSS ad, I, J))) := by
  refine gg_aload_n dX10_term_9 1 rfl ?_
  refine gg_bipush dX10_term_10 (by decide) ?_
  refine gg_callVi (own := RX10) (yt := gm_X10_isSign) rfl gl_RX10_145 gk_X10_isSign gr_X10_isSign dX10_term_12 (c_X10_isSign_w (d := d - 1) h16) sh_145 pl_145 (by decide) rfl rfl rfl (Nat.le_of_ble_eq_true rfl) (by show _ ≤ d; omega) ⟨Nat.le_refl _, Nat.le_refl _⟩ (fun e1 μ' hc => ?_)
  obtain ⟨rfl, rfl⟩ := hc
  refine gg_if_eq_t (tgt := 36) dX10_term_15 (by decide) (by decide) (by decide) ?_
  refine gg_vretv dX10_term_36 rfl ⟨rfl, rfl⟩ ?_
  exact rfl

set_option maxRecDepth 10000 in
set_option maxRecDepth 10000 in
theorem n_X10_sum {l : Launch} {Γ : gC} {ad : Nat → Nat} {I : Nat → Nat → Int} {J : Nat → Nat → Int64} {d : Nat} {b : Int} (h16 : I 145 16 = 1) (hd : 1 ≤ d) : gG l Γ gm_X10_sum (d, 0, 0, 0, 0) 9 [(1, .int (iv b)), (0, .ref (gad (gSS ad) 145))] [] (gSS ad, I, J) (gDv (fun μ => μ = (gSS ad, I, J))) := by
  refine gg_aload_n dX10_sum_9 1 rfl ?_
  refine gg_bipush dX10_sum_10 (by decide) ?_
  refine gg_callVi (own := RX10) (yt := gm_X10_isSign) rfl gl_RX10_145 gk_X10_isSign gr_X10_isSign dX10_sum_12 (c_X10_isSign_w (d := d - 1) h16) sh_145 pl_145 (by decide) rfl rfl rfl (Nat.le_of_ble_eq_true rfl) (by show _ ≤ d; omega) ⟨Nat.le_refl _, Nat.le_refl _⟩ (fun e1 μ' hc => ?_)
  obtain ⟨rfl, rfl⟩ := hc
  refine gg_if_ne_f (tgt := 27) dX10_sum_15 (by decide) (by decide) (by decide) ?_
  refine gg_aload_n dX10_sum_18 1 rfl ?_
  refine gg_bipush dX10_sum_19 (by decide) ?_
  refine gg_callVi (own := RX10) (yt := gm_X10_isSign) rfl gl_RX10_145 gk_X10_isSign gr_X10_isSign dX10_sum_21 (c_X10_isSign_w (d := d - 1) h16) sh_145 pl_145 (by decide) rfl rfl rfl (Nat.le_of_ble_eq_true rfl) (by show _ ≤ d; omega) ⟨Nat.le_refl _, Nat.le_refl _⟩ (fun e2 μ' hc => ?_)
  obtain ⟨rfl, rfl⟩ := hc
  refine gg_if_eq_t (tgt := 62) dX10_sum_24 (by decide) (by decide) (by decide) ?_
  refine gg_vretv dX10_sum_62 rfl ⟨rfl, rfl⟩ ?_
  exact rfl

set_option maxRecDepth 10000 in
theorem w_X10_pow {l : Launch} {Γ : gC} {ad : Nat → Nat} {T : Nat → Int} {n : Nat} {I0 : Nat → Nat → Int} {J0 : Nat → Nat → Int64} {B : gLn} {d : Nat} {op : Int}  (hd : 6 ≤ d) : ∀ (m : Nat) (i : Nat) (t : gLn) (q : Nat) (I : Nat → Nat → Int) (J : Nat → Nat → Int64), n - q < m → (n ≤ q + i) → (gTq I T n) → (gRq I T n q) → (gMd I J (B ++ t)) → (I 145 15 = op) → (q ≤ n) → (2 * (B.length + t.length) + 1 ≤ 3 * q) → (gKm I0 J0 I J) → gG l Γ gm_X10_pow (d, 0, 0, 0, 0) 9 [(1, .int (iv (B.length : Int))), (0, .ref (gad (gSS ad) 145))] [] (gSS ad, I, J) (gDv (fun μ => ∃ I1 J1, μ = (gSS ad, I1, J1) ∧ gKm I0 J0 I1 J1 ∧ gQs I1 J1 B op T n (gPwL T n i t q))) := by
  intro m
  induction m with
  | zero => intros; omega
  | succ m ih =>
    intro i t q I J hm hi hT hR hM h15 hq hlen hK
    have hn := hT.1
    have hE := gtE_le T hq
    have hml := hM.2.1
    simp only [List.length_append] at hml
    refine gg_aload_n dX10_pow_9 1 rfl ?_
    refine gg_bipush dX10_pow_10 (by decide) ?_
    refine gg_callVi (own := RX10) (yt := gm_X10_isSign) rfl gl_RX10_145 gk_X10_isSign gr_X10_isSign dX10_pow_12 (c_X10_isSign (d := d - 1) (c := 94) hR (by omega)) sh_145 pl_145 (by decide) rfl rfl rfl (Nat.le_of_ble_eq_true rfl) (by show _ ≤ d; omega) ⟨Nat.le_refl _, Nat.le_refl _⟩ (fun e1 μ' hc => ?_)
    obtain ⟨rfl, ⟨rfl, hc⟩ | ⟨rfl, hc⟩⟩ := hc
    · have h0 := hE.2.2.2 (by omega)
      obtain ⟨z, hz⟩ : ∃ z, i = z + 1 := ⟨i - 1, by omega⟩
      have hlz : (B ++ t).length < 200 := by simp only [List.length_append]; omega
      refine gg_if_eq_f (tgt := 70) dX10_pow_15 (by decide) (by decide) (by decide) ?_
      refine gg_aload_n dX10_pow_18 1 rfl ?_
      refine gg_callVv (own := RX10) (yt := gm_X10_next) rfl gl_RX10_148 gk_X10_next gr_X10_next dX10_pow_19 (c_X10_next (d := d - 1) (q := gtE T n q) hT (hR.2.2.1 (by omega)).2 (hR.2.2.1 (by omega)).1 (by omega) (by omega)) sh_145 pl_145 (by decide) rfl rfl rfl (Nat.le_of_ble_eq_true rfl) (by show _ ≤ d; omega) ⟨Nat.le_refl _, Nat.le_refl _⟩ (fun μ' hc => ?_)
      obtain ⟨I2, rfl, hF2, hR2⟩ := hc
      obtain ⟨q2, hq2⟩ : ∃ z, z = gtE T n q := ⟨_, rfl⟩
      rw [← hq2] at hR2
      have hT2 := gTq_f hT hF2
      have hM2 := gMd_f hM hF2
      have h152 := (hF2.2 15 (by omega) (by omega) (by omega) (by omega) (by omega)).trans h15
      have hE2 := gtE_le T (show q2 ≤ n by omega)
      have hK2 := gKm_t hK (gKm_45 (J := J) hF2)
      refine gg_aload_n dX10_pow_22 1 rfl ?_
      refine gg_getI rfl gf_RX10_120 dX10_pow_23 sh_145 pl_145 (by decide) (by decide) ?_
      obtain ⟨x, hx, hxx⟩ := gRq_w hR2
      refine gg_toI (b := x) hx ?_
      refine gg_if_ne (tgt := 46) dX10_pow_26 (by decide) (by omega) (fun hw => ?_) (fun hw => ?_)
      · refine gg_aload_n dX10_pow_46 1 rfl ?_
        refine gg_iconst dX10_pow_47 ?_
        refine gg_putI rfl gf_RX10_120 dX10_pow_48 sh_145 pl_145 (by decide) (by decide) (by decide) gfit_1 ?_
        refine gg_vretv dX10_pow_51 rfl ⟨rfl, rfl⟩ ?_
        refine ⟨_, J, rfl, gKm_t hK2 (gKm_45 (gF45_u (by omega))), ?_⟩
        rw [hz]
        simp only [gPwL]
        rw [if_pos hc, ← hq2, if_neg (by omega)]
        exact ⟨gu_s, (gu_n (by omega)).trans hR2.1⟩
      · refine gg_aload_n dX10_pow_29 1 rfl ?_
        refine gg_getI rfl gf_RX10_132 dX10_pow_30 sh_145 pl_145 (by decide) (by decide) ?_
        obtain ⟨y, hy, hyy⟩ := gRq_t hR2 (by omega)
        refine gg_toI (b := y) hy ?_
        refine gg_iconst dX10_pow_33 ?_
        refine gg_icmp_ne (tgt := 46) dX10_pow_34 (by decide) (by omega) (fun hy2 => ?_) (fun hy2 => ?_)
        · refine gg_aload_n dX10_pow_46 1 rfl ?_
          refine gg_iconst dX10_pow_47 ?_
          refine gg_putI rfl gf_RX10_120 dX10_pow_48 sh_145 pl_145 (by decide) (by decide) (by decide) gfit_1 ?_
          refine gg_vretv dX10_pow_51 rfl ⟨rfl, rfl⟩ ?_
          refine ⟨_, J, rfl, gKm_t hK2 (gKm_45 (gF45_u (by omega))), ?_⟩
          rw [hz]
          simp only [gPwL]
          rw [if_pos hc, ← hq2, if_neg (by omega)]
          exact ⟨gu_s, (gu_n (by omega)).trans hR2.1⟩
        · have hC3 : gtC T n q2 = 3 := by omega
          have hv3 := gtC_23.2 hC3
          have hc2 := hE2.2.2.2 (by omega)
          refine gg_aload_n dX10_pow_37 1 rfl ?_
          refine gg_getI rfl gf_RX10_135 dX10_pow_38 sh_145 pl_145 (by decide) (by decide) ?_
          refine gg_toI (b := (gtV T n q2)) (hR2.2.2.2.2.2.1 hC3).2 ?_
          refine gg_bipush dX10_pow_41 (by decide) ?_
          refine gg_icmp_le (tgt := 52) dX10_pow_43 (by decide) (by omega) (fun hv9 => ?_) (fun hv9 => ?_)
          · refine gg_aload_n dX10_pow_52 1 rfl ?_
            refine gg_iload_n dX10_pow_53 0 rfl ?_
            refine gg_iconst dX10_pow_54 ?_
            refine gg_aload_n dX10_pow_55 1 rfl ?_
            refine gg_getI rfl gf_RX10_135 dX10_pow_56 sh_145 pl_145 (by decide) (by decide) ?_
            refine gg_toI (b := (gtV T n q2)) (hR2.2.2.2.2.2.1 hC3).2 ?_
            refine gg_i2l dX10_pow_59 ?_
            refine gg_callVv (own := RX10) (yt := gm_X10_putAhead) rfl gl_RX10_154 gk_X10_putAhead gr_X10_putAhead dX10_pow_60 (c_X10_putAhead (d := d - 1) (P := B) (R := t) (kd := 5) (x := gi2l (gtV T n q2)) hM2 hlz (by omega)) sh_145 pl_145 (by decide) rfl rfl rfl (Nat.le_of_ble_eq_true rfl) (by show _ ≤ d; omega) ⟨Nat.le_refl _, Nat.le_refl _⟩ (fun μ' hc => ?_)
            obtain ⟨I3, J3, rfl, hM3, f3a, f3b, f3c⟩ := hc
            have hkk3 := gKm_p f3a f3b f3c
            have hT3 := gTq_k hT2 hkk3
            have hR3 := gRq_p hR2 f3b
            have h153 := (f3b 15 (by omega) (by omega)).trans h152
            have hK3 := gKm_t hK2 hkk3
            refine gg_aload_n dX10_pow_63 1 rfl ?_
            refine gg_callVv (own := RX10) (yt := gm_X10_next) rfl gl_RX10_148 gk_X10_next gr_X10_next dX10_pow_64 (c_X10_next (d := d - 1) (q := gtE T n q2) hT3 (hR3.2.2.1 (by omega)).2 (hR3.2.2.1 (by omega)).1 (by omega) (by omega)) sh_145 pl_145 (by decide) rfl rfl rfl (Nat.le_of_ble_eq_true rfl) (by show _ ≤ d; omega) ⟨Nat.le_refl _, Nat.le_refl _⟩ (fun μ' hc => ?_)
            obtain ⟨I4, rfl, hF4, hR4⟩ := hc
            obtain ⟨q4, hq4⟩ : ∃ z, z = gtE T n q2 := ⟨_, rfl⟩
            rw [← hq4] at hR4
            have hT4 := gTq_f hT3 hF4
            have hM4 := gMd_f hM3 hF4
            have h154 := (hF4.2 15 (by omega) (by omega) (by omega) (by omega) (by omega)).trans h153
            have hE4 := gtE_le T (show q4 ≤ n by omega)
            have hK4 := gKm_t hK3 (gKm_45 (J := J3) hF4)
            refine gg_goto (tgt := 9) dX10_pow_67 (by decide) ?_
            have hstep : gPwL T n i t q = gPwL T n z ((5, gi2l (gtV T n q2)) :: t) q4 := by
              rw [hz]
              simp only [gPwL]
              rw [if_pos hc, ← hq2, if_pos ⟨hC3, by omega⟩, ← hq4]
            rw [hstep]
            exact ih z _ q4 I4 J3 (by omega) (by omega) hT4 hR4 hM4 h154 (by omega) (by simp only [List.length_cons]; omega) hK4
          · refine gg_aload_n dX10_pow_46 1 rfl ?_
            refine gg_iconst dX10_pow_47 ?_
            refine gg_putI rfl gf_RX10_120 dX10_pow_48 sh_145 pl_145 (by decide) (by decide) (by decide) gfit_1 ?_
            refine gg_vretv dX10_pow_51 rfl ⟨rfl, rfl⟩ ?_
            refine ⟨_, J, rfl, gKm_t hK2 (gKm_45 (gF45_u (by omega))), ?_⟩
            rw [hz]
            simp only [gPwL]
            rw [if_pos hc, ← hq2, if_neg (by omega)]
            exact ⟨gu_s, (gu_n (by omega)).trans hR2.1⟩
    · have hres : gPwL T n i t q = .inr (t, q) := by
        cases i with
        | zero => rfl
        | succ z =>
          simp only [gPwL]
          rw [if_neg hc]
      refine gg_if_eq_t (tgt := 70) dX10_pow_15 (by decide) (by decide) (by decide) ?_
      refine gg_vretv dX10_pow_70 rfl ⟨rfl, rfl⟩ ?_
      refine ⟨I, J, rfl, hK, ?_⟩
      rw [hres]
      exact ⟨hM, hR, h15⟩

set_option maxRecDepth 10000 in
theorem w_X10_term {l : Launch} {Γ : gC} {ad : Nat → Nat} {T : Nat → Int} {n : Nat} {I0 : Nat → Nat → Int} {J0 : Nat → Nat → Int64} {B : gLn} {d : Nat} {op : Int} {pw : Nat → gRT} (hbd : gBnd n pw) (H : gCm l Γ ad gm_X10_pow (d - 1) op T n pw) (hd : 6 ≤ d) : ∀ (m : Nat) (i : Nat) (t : gLn) (q : Nat) (I : Nat → Nat → Int) (J : Nat → Nat → Int64), n - q < m → (n ≤ q + i) → (gTq I T n) → (gRq I T n q) → (gMd I J (B ++ t)) → (I 145 15 = op) → (q ≤ n) → (2 * (B.length + t.length) + 1 ≤ 3 * q) → (gKm I0 J0 I J) → gG l Γ gm_X10_term (d, 0, 0, 0, 0) 9 [(1, .int (iv (B.length : Int))), (0, .ref (gad (gSS ad) 145))] [] (gSS ad, I, J) (gDv (fun μ => ∃ I1 J1, μ = (gSS ad, I1, J1) ∧ gKm I0 J0 I1 J1 ∧ gQs I1 J1 B op T n (gTmL T n pw i t q))) := by
  intro m
  induction m with
  | zero => intros; omega
  | succ m ih =>
    intro i t q I J hm hi hT hR hM h15 hq hlen hK
    have hn := hT.1
    have hE := gtE_le T hq
    have hml := hM.2.1
    simp only [List.length_append] at hml
    refine gg_aload_n dX10_term_9 1 rfl ?_
    refine gg_bipush dX10_term_10 (by decide) ?_
    refine gg_callVi (own := RX10) (yt := gm_X10_isSign) rfl gl_RX10_145 gk_X10_isSign gr_X10_isSign dX10_term_12 (c_X10_isSign (d := d - 1) (c := 42) hR (by omega)) sh_145 pl_145 (by decide) rfl rfl rfl (Nat.le_of_ble_eq_true rfl) (by show _ ≤ d; omega) ⟨Nat.le_refl _, Nat.le_refl _⟩ (fun e1 μ' hc => ?_)
    obtain ⟨rfl, ⟨rfl, hc⟩ | ⟨rfl, hc⟩⟩ := hc
    · have h0 := hE.2.2.2 (by omega)
      obtain ⟨z, hz⟩ : ∃ z, i = z + 1 := ⟨i - 1, by omega⟩
      have hlz : (B ++ t).length < 200 := by simp only [List.length_append]; omega
      refine gg_if_eq_f (tgt := 36) dX10_term_15 (by decide) (by decide) (by decide) ?_
      refine gg_aload_n dX10_term_18 1 rfl ?_
      refine gg_iload_n dX10_term_19 0 rfl ?_
      refine gg_iconst dX10_term_20 ?_
      refine gg_lconstv (x := 0) dX10_term_21 rfl ?_
      refine gg_callVv (own := RX10) (yt := gm_X10_putAhead) rfl gl_RX10_154 gk_X10_putAhead gr_X10_putAhead dX10_term_22 (c_X10_putAhead (d := d - 1) (P := B) (R := t) (kd := 4) (x := 0) hM hlz (by omega)) sh_145 pl_145 (by decide) rfl rfl rfl (Nat.le_of_ble_eq_true rfl) (by show _ ≤ d; omega) ⟨Nat.le_refl _, Nat.le_refl _⟩ (fun μ' hc => ?_)
      obtain ⟨I3, J3, rfl, hM3, f3a, f3b, f3c⟩ := hc
      have hkk3 := gKm_p f3a f3b f3c
      have hT3 := gTq_k hT hkk3
      have hR3 := gRq_p hR f3b
      have h153 := (f3b 15 (by omega) (by omega)).trans h15
      have hK3 := gKm_t hK hkk3
      refine gg_aload_n dX10_term_25 1 rfl ?_
      refine gg_callVv (own := RX10) (yt := gm_X10_next) rfl gl_RX10_148 gk_X10_next gr_X10_next dX10_term_26 (c_X10_next (d := d - 1) (q := gtE T n q) hT3 (hR3.2.2.1 (by omega)).2 (hR3.2.2.1 (by omega)).1 (by omega) (by omega)) sh_145 pl_145 (by decide) rfl rfl rfl (Nat.le_of_ble_eq_true rfl) (by show _ ≤ d; omega) ⟨Nat.le_refl _, Nat.le_refl _⟩ (fun μ' hc => ?_)
      obtain ⟨I4, rfl, hF4, hR4⟩ := hc
      obtain ⟨q4, hq4⟩ : ∃ z, z = gtE T n q := ⟨_, rfl⟩
      rw [← hq4] at hR4
      have hT4 := gTq_f hT3 hF4
      have hM4 := gMd_f hM3 hF4
      have h154 := (hF4.2 15 (by omega) (by omega) (by omega) (by omega) (by omega)).trans h153
      have hE4 := gtE_le T (show q4 ≤ n by omega)
      have hK4 := gKm_t hK3 (gKm_45 (J := J3) hF4)
      refine gg_aload_n dX10_term_29 1 rfl ?_
      refine gg_callVv (own := RX10) (yt := gm_X10_pow) rfl gl_RX10_165 gk_X10_pow gr_X10_pow dX10_term_30 (H I4 J3 (B ++ (4, 0) :: t) q4 hT4 hR4 hM4 h154 (by omega) (by simp only [List.length_cons, List.length_append, List.length_nil]; omega)) sh_145 pl_145 (by decide) rfl rfl rfl (Nat.le_of_ble_eq_true rfl) (by show _ ≤ d; omega) ⟨Nat.le_refl _, Nat.le_refl _⟩ (fun μ' hc => ?_)
      obtain ⟨I9, J9, rfl, hK9, hs9⟩ := hc
      refine gg_goto (tgt := 9) dX10_term_33 (by decide) ?_
      cases hr9 : pw q4 with
      | inl p =>
        rw [hr9] at hs9
        obtain ⟨w1, w2⟩ : I9 145 16 = 1 ∧ I9 145 12 = (p : Int) := hs9
        have hstep : gTmL T n pw i t q = .inl p := by
          rw [hz]
          simp only [gTmL]
          rw [if_pos hc, ← hq4, hr9, gBd_inl]
        rw [hstep]
        refine gG_post (n_X10_term w1 (by omega)) (fun r μ h => ?_)
        obtain ⟨rfl, rfl⟩ := h
        exact ⟨rfl, I9, J9, rfl, gKm_t hK4 hK9, w1, w2⟩
      | inr x =>
        obtain ⟨t9, p9⟩ := x
        rw [hr9] at hs9
        obtain ⟨hM9, hR9, h159⟩ : gMd I9 J9 ((B ++ (4, 0) :: t) ++ t9) ∧ gRq I9 T n p9 ∧ I9 145 15 = op := hs9
        have hb9 := hbd q4 t9 p9 (by omega) hr9
        have hstep : gTmL T n pw i t q = gTmL T n pw z ((4, 0) :: (t ++ t9)) p9 := by
          rw [hz]
          simp only [gTmL]
          rw [if_pos hc, ← hq4, hr9, gBd_inr]
        rw [hstep]
        exact ih z _ p9 I9 J9 (by omega) (by omega) (gTq_k hT4 hK9) hR9 (by simpa using hM9) h159 (by omega) (by simp only [List.length_cons, List.length_append]; omega) (gKm_t hK4 hK9)
    · have hres : gTmL T n pw i t q = .inr (t, q) := by
        cases i with
        | zero => rfl
        | succ z =>
          simp only [gTmL]
          rw [if_neg hc]
      refine gg_if_eq_t (tgt := 36) dX10_term_15 (by decide) (by decide) (by decide) ?_
      refine gg_vretv dX10_term_36 rfl ⟨rfl, rfl⟩ ?_
      refine ⟨I, J, rfl, hK, ?_⟩
      rw [hres]
      exact ⟨hM, hR, h15⟩

set_option maxRecDepth 10000 in
theorem w_X10_sum {l : Launch} {Γ : gC} {ad : Nat → Nat} {T : Nat → Int} {n : Nat} {I0 : Nat → Nat → Int} {J0 : Nat → Nat → Int64} {B : gLn} {d : Nat} {op : Int} {tm : Nat → gRT} (hbd : gBnd n tm) (H : gCm l Γ ad gm_X10_term (d - 1) op T n tm) (hd : 6 ≤ d) : ∀ (m : Nat) (i : Nat) (t : gLn) (q : Nat) (I : Nat → Nat → Int) (J : Nat → Nat → Int64), n - q < m → (n ≤ q + i) → (gTq I T n) → (gRq I T n q) → (gMd I J (B ++ t)) → (I 145 15 = op) → (q ≤ n) → (2 * (B.length + t.length) + 1 ≤ 3 * q) → (gKm I0 J0 I J) → gG l Γ gm_X10_sum (d, 0, 0, 0, 0) 9 [(1, .int (iv (B.length : Int))), (0, .ref (gad (gSS ad) 145))] [] (gSS ad, I, J) (gDv (fun μ => ∃ I1 J1, μ = (gSS ad, I1, J1) ∧ gKm I0 J0 I1 J1 ∧ gQs I1 J1 B op T n (gSmL T n tm i t q))) := by
  intro m
  induction m with
  | zero => intros; omega
  | succ m ih =>
    intro i t q I J hm hi hT hR hM h15 hq hlen hK
    have hn := hT.1
    have hE := gtE_le T hq
    have hml := hM.2.1
    simp only [List.length_append] at hml
    refine gg_aload_n dX10_sum_9 1 rfl ?_
    refine gg_bipush dX10_sum_10 (by decide) ?_
    refine gg_callVi (own := RX10) (yt := gm_X10_isSign) rfl gl_RX10_145 gk_X10_isSign gr_X10_isSign dX10_sum_12 (c_X10_isSign (d := d - 1) (c := 43) hR (by omega)) sh_145 pl_145 (by decide) rfl rfl rfl (Nat.le_of_ble_eq_true rfl) (by show _ ≤ d; omega) ⟨Nat.le_refl _, Nat.le_refl _⟩ (fun e1 μ' hc => ?_)
    obtain ⟨rfl, ⟨rfl, hc⟩ | ⟨rfl, hc⟩⟩ := hc
    · have h0 := hE.2.2.2 (by omega)
      obtain ⟨z, hz⟩ : ∃ z, i = z + 1 := ⟨i - 1, by omega⟩
      have hlz : (B ++ t).length < 200 := by simp only [List.length_append]; omega
      refine gg_if_ne_t (tgt := 27) dX10_sum_15 (by decide) (by decide) (by decide) ?_
      refine gg_aload_n dX10_sum_27 1 rfl ?_
      refine gg_bipush dX10_sum_28 (by decide) ?_
      refine gg_callVi (own := RX10) (yt := gm_X10_isSign) rfl gl_RX10_145 gk_X10_isSign gr_X10_isSign dX10_sum_30 (c_X10_isSign (d := d - 1) (c := 45) hR (by omega)) sh_145 pl_145 (by decide) rfl rfl rfl (Nat.le_of_ble_eq_true rfl) (by show _ ≤ d; omega) ⟨Nat.le_refl _, Nat.le_refl _⟩ (fun e2 μ' hc => ?_)
      obtain ⟨rfl, ⟨rfl, hc3⟩ | ⟨rfl, hc3⟩⟩ := hc
      · omega
      refine gg_istore_n (ls' := [(2, .int (iv 0)), (1, .int (iv (B.length : Int))), (0, .ref (gad (gSS ad) 145))]) dX10_sum_33 rfl (by decide) rfl ?_
      refine gg_aload_n dX10_sum_34 2 rfl ?_
      refine gg_iload_n dX10_sum_35 1 rfl ?_
      refine gg_iconst dX10_sum_36 ?_
      refine gg_lconstv (x := 0) dX10_sum_37 rfl ?_
      refine gg_callVv (own := RX10) (yt := gm_X10_putAhead) rfl gl_RX10_154 gk_X10_putAhead gr_X10_putAhead dX10_sum_38 (c_X10_putAhead (d := d - 1) (P := B) (R := t) (kd := 3) (x := 0) hM hlz (by omega)) sh_145 pl_145 (by decide) rfl rfl rfl (Nat.le_of_ble_eq_true rfl) (by show _ ≤ d; omega) ⟨Nat.le_refl _, Nat.le_refl _⟩ (fun μ' hc => ?_)
      obtain ⟨I3, J3, rfl, hM3, f3a, f3b, f3c⟩ := hc
      have hkk3 := gKm_p f3a f3b f3c
      have hT3 := gTq_k hT hkk3
      have hR3 := gRq_p hR f3b
      have h153 := (f3b 15 (by omega) (by omega)).trans h15
      have hK3 := gKm_t hK hkk3
      refine gg_iload_n dX10_sum_41 0 rfl ?_
      refine gg_if_eq_t (tgt := 51) dX10_sum_42 (by decide) (by decide) (by decide) ?_
      refine gg_aload_n dX10_sum_51 2 rfl ?_
      refine gg_callVv (own := RX10) (yt := gm_X10_next) rfl gl_RX10_148 gk_X10_next gr_X10_next dX10_sum_52 (c_X10_next (d := d - 1) (q := gtE T n q) hT3 (hR3.2.2.1 (by omega)).2 (hR3.2.2.1 (by omega)).1 (by omega) (by omega)) sh_145 pl_145 (by decide) rfl rfl rfl (Nat.le_of_ble_eq_true rfl) (by show _ ≤ d; omega) ⟨Nat.le_refl _, Nat.le_refl _⟩ (fun μ' hc => ?_)
      obtain ⟨I4, rfl, hF4, hR4⟩ := hc
      obtain ⟨q4, hq4⟩ : ∃ z, z = gtE T n q := ⟨_, rfl⟩
      rw [← hq4] at hR4
      have hT4 := gTq_f hT3 hF4
      have hM4 := gMd_f hM3 hF4
      have h154 := (hF4.2 15 (by omega) (by omega) (by omega) (by omega) (by omega)).trans h153
      have hE4 := gtE_le T (show q4 ≤ n by omega)
      have hK4 := gKm_t hK3 (gKm_45 (J := J3) hF4)
      refine gg_aload_n dX10_sum_55 2 rfl ?_
      refine gg_callVv (own := RX10) (yt := gm_X10_term) rfl gl_RX10_162 gk_X10_term gr_X10_term dX10_sum_56 (H I4 J3 (B ++ (3, 0) :: t) q4 hT4 hR4 hM4 h154 (by omega) (by simp only [List.length_cons, List.length_append, List.length_nil]; omega)) sh_145 pl_145 (by decide) rfl rfl rfl (Nat.le_of_ble_eq_true rfl) (by show _ ≤ d; omega) ⟨Nat.le_refl _, Nat.le_refl _⟩ (fun μ' hc => ?_)
      obtain ⟨I9, J9, rfl, hK9, hs9⟩ := hc
      refine gg_goto (tgt := 9) dX10_sum_59 (by decide) ?_
      refine gg_sub [1, 2] rfl ?_
      cases hr9 : tm q4 with
      | inl p =>
        rw [hr9] at hs9
        obtain ⟨w1, w2⟩ : I9 145 16 = 1 ∧ I9 145 12 = (p : Int) := hs9
        have hstep : gSmL T n tm i t q = .inl p := by
          rw [hz]
          simp only [gSmL]
          rw [if_pos hc, ← hq4, hr9, gBd_inl]
        rw [hstep]
        refine gG_post (n_X10_sum w1 (by omega)) (fun r μ h => ?_)
        obtain ⟨rfl, rfl⟩ := h
        exact ⟨rfl, I9, J9, rfl, gKm_t hK4 hK9, w1, w2⟩
      | inr x =>
        obtain ⟨t9, p9⟩ := x
        rw [hr9] at hs9
        obtain ⟨hM9, hR9, h159⟩ : gMd I9 J9 ((B ++ (3, 0) :: t) ++ t9) ∧ gRq I9 T n p9 ∧ I9 145 15 = op := hs9
        have hb9 := hbd q4 t9 p9 (by omega) hr9
        have hstep : gSmL T n tm i t q = gSmL T n tm z ((3, 0) :: (t ++ t9)) p9 := by
          rw [hz]
          simp only [gSmL]
          rw [if_pos hc, ← hq4, hr9, gBd_inr]
        rw [hstep]
        exact ih z _ p9 I9 J9 (by omega) (by omega) (gTq_k hT4 hK9) hR9 (by simpa using hM9) h159 (by omega) (by simp only [List.length_cons, List.length_append]; omega) (gKm_t hK4 hK9)
    · refine gg_if_ne_f (tgt := 27) dX10_sum_15 (by decide) (by decide) (by decide) ?_
      refine gg_aload_n dX10_sum_18 1 rfl ?_
      refine gg_bipush dX10_sum_19 (by decide) ?_
      refine gg_callVi (own := RX10) (yt := gm_X10_isSign) rfl gl_RX10_145 gk_X10_isSign gr_X10_isSign dX10_sum_21 (c_X10_isSign (d := d - 1) (c := 45) hR (by omega)) sh_145 pl_145 (by decide) rfl rfl rfl (Nat.le_of_ble_eq_true rfl) (by show _ ≤ d; omega) ⟨Nat.le_refl _, Nat.le_refl _⟩ (fun e6 μ' hc => ?_)
      obtain ⟨rfl, ⟨rfl, hc2⟩ | ⟨rfl, hc2⟩⟩ := hc
      · have h0 := hE.2.2.2 (by omega)
        obtain ⟨z, hz⟩ : ∃ z, i = z + 1 := ⟨i - 1, by omega⟩
        have hlz : (B ++ t).length < 200 := by simp only [List.length_append]; omega
        refine gg_if_eq_f (tgt := 62) dX10_sum_24 (by decide) (by decide) (by decide) ?_
        refine gg_aload_n dX10_sum_27 1 rfl ?_
        refine gg_bipush dX10_sum_28 (by decide) ?_
        refine gg_callVi (own := RX10) (yt := gm_X10_isSign) rfl gl_RX10_145 gk_X10_isSign gr_X10_isSign dX10_sum_30 (c_X10_isSign (d := d - 1) (c := 45) hR (by omega)) sh_145 pl_145 (by decide) rfl rfl rfl (Nat.le_of_ble_eq_true rfl) (by show _ ≤ d; omega) ⟨Nat.le_refl _, Nat.le_refl _⟩ (fun e7 μ' hc => ?_)
        obtain ⟨rfl, ⟨rfl, hc3⟩ | ⟨rfl, hc3⟩⟩ := hc
        rotate_left
        · omega
        refine gg_istore_n (ls' := [(2, .int (iv 1)), (1, .int (iv (B.length : Int))), (0, .ref (gad (gSS ad) 145))]) dX10_sum_33 rfl (by decide) rfl ?_
        refine gg_aload_n dX10_sum_34 2 rfl ?_
        refine gg_iload_n dX10_sum_35 1 rfl ?_
        refine gg_iconst dX10_sum_36 ?_
        refine gg_lconstv (x := 0) dX10_sum_37 rfl ?_
        refine gg_callVv (own := RX10) (yt := gm_X10_putAhead) rfl gl_RX10_154 gk_X10_putAhead gr_X10_putAhead dX10_sum_38 (c_X10_putAhead (d := d - 1) (P := B) (R := t) (kd := 3) (x := 0) hM hlz (by omega)) sh_145 pl_145 (by decide) rfl rfl rfl (Nat.le_of_ble_eq_true rfl) (by show _ ≤ d; omega) ⟨Nat.le_refl _, Nat.le_refl _⟩ (fun μ' hc => ?_)
        obtain ⟨I3, J3, rfl, hM3, f3a, f3b, f3c⟩ := hc
        have hkk3 := gKm_p f3a f3b f3c
        have hT3 := gTq_k hT hkk3
        have hR3 := gRq_p hR f3b
        have h153 := (f3b 15 (by omega) (by omega)).trans h15
        have hK3 := gKm_t hK hkk3
        refine gg_iload_n dX10_sum_41 0 rfl ?_
        refine gg_if_eq_f (tgt := 51) dX10_sum_42 (by decide) (by decide) (by decide) ?_
        refine gg_aload_n dX10_sum_45 2 rfl ?_
        refine gg_iconst dX10_sum_46 ?_
        refine gg_lconstv (x := 0) dX10_sum_47 rfl ?_
        refine gg_callVv (own := RX10) (yt := gm_X10_put) rfl gl_RX10_102 gk_X10_put gr_X10_put dX10_sum_48 (c_X10_put_a (d := d - 1) (B := B ++ (3, 0) :: t) (k := 2) (x := 0) hM3 (by simp only [List.length_append, List.length_cons] at hlz ⊢; omega)) sh_145 pl_145 (by decide) rfl rfl rfl (Nat.le_of_ble_eq_true rfl) (by show _ ≤ d; omega) ⟨Nat.le_refl _, Nat.le_refl _⟩ (fun μ' hc => ?_)
        obtain ⟨I6, J6, rfl, hX6, f6a, f6b, f6c⟩ := hc
        have hM6 := gMx_d hX6 (by simp only [List.length_append, List.length_cons, List.length_nil] at hlz ⊢; omega)
        have hkk6 := gKm_p f6a f6b f6c
        have hT6 := gTq_k hT3 hkk6
        have hR6 := gRq_p hR3 f6b
        have h156 := (f6b 15 (by omega) (by omega)).trans h153
        have hK6 := gKm_t hK3 hkk6
        refine gg_aload_n dX10_sum_51 2 rfl ?_
        refine gg_callVv (own := RX10) (yt := gm_X10_next) rfl gl_RX10_148 gk_X10_next gr_X10_next dX10_sum_52 (c_X10_next (d := d - 1) (q := gtE T n q) hT6 (hR6.2.2.1 (by omega)).2 (hR6.2.2.1 (by omega)).1 (by omega) (by omega)) sh_145 pl_145 (by decide) rfl rfl rfl (Nat.le_of_ble_eq_true rfl) (by show _ ≤ d; omega) ⟨Nat.le_refl _, Nat.le_refl _⟩ (fun μ' hc => ?_)
        obtain ⟨I4, rfl, hF4, hR4⟩ := hc
        obtain ⟨q4, hq4⟩ : ∃ z, z = gtE T n q := ⟨_, rfl⟩
        rw [← hq4] at hR4
        have hT4 := gTq_f hT6 hF4
        have hM4 := gMd_f hM6 hF4
        have h154 := (hF4.2 15 (by omega) (by omega) (by omega) (by omega) (by omega)).trans h156
        have hE4 := gtE_le T (show q4 ≤ n by omega)
        have hK4 := gKm_t hK6 (gKm_45 (J := J6) hF4)
        refine gg_aload_n dX10_sum_55 2 rfl ?_
        refine gg_callVv (own := RX10) (yt := gm_X10_term) rfl gl_RX10_162 gk_X10_term gr_X10_term dX10_sum_56 (H I4 J6 (B ++ (3, 0) :: t ++ [(2, 0)]) q4 hT4 hR4 hM4 h154 (by omega) (by simp only [List.length_cons, List.length_append, List.length_nil]; omega)) sh_145 pl_145 (by decide) rfl rfl rfl (Nat.le_of_ble_eq_true rfl) (by show _ ≤ d; omega) ⟨Nat.le_refl _, Nat.le_refl _⟩ (fun μ' hc => ?_)
        obtain ⟨I9, J9, rfl, hK9, hs9⟩ := hc
        refine gg_goto (tgt := 9) dX10_sum_59 (by decide) ?_
        refine gg_sub [1, 2] rfl ?_
        cases hr9 : tm q4 with
        | inl p =>
          rw [hr9] at hs9
          obtain ⟨w1, w2⟩ : I9 145 16 = 1 ∧ I9 145 12 = (p : Int) := hs9
          have hstep : gSmL T n tm i t q = .inl p := by
            rw [hz]
            simp only [gSmL]
            rw [if_neg hc, if_pos hc2, ← hq4, hr9, gBd_inl]
          rw [hstep]
          refine gG_post (n_X10_sum w1 (by omega)) (fun r μ h => ?_)
          obtain ⟨rfl, rfl⟩ := h
          exact ⟨rfl, I9, J9, rfl, gKm_t hK4 hK9, w1, w2⟩
        | inr x =>
          obtain ⟨t9, p9⟩ := x
          rw [hr9] at hs9
          obtain ⟨hM9, hR9, h159⟩ : gMd I9 J9 ((B ++ (3, 0) :: t ++ [(2, 0)]) ++ t9) ∧ gRq I9 T n p9 ∧ I9 145 15 = op := hs9
          have hb9 := hbd q4 t9 p9 (by omega) hr9
          have hstep : gSmL T n tm i t q = gSmL T n tm z ((3, 0) :: (t ++ (2, 0) :: t9)) p9 := by
            rw [hz]
            simp only [gSmL]
            rw [if_neg hc, if_pos hc2, ← hq4, hr9, gBd_inr]
          rw [hstep]
          exact ih z _ p9 I9 J9 (by omega) (by omega) (gTq_k hT4 hK9) hR9 (by simpa using hM9) h159 (by omega) (by simp only [List.length_cons, List.length_append]; omega) (gKm_t hK4 hK9)
      · have hres : gSmL T n tm i t q = .inr (t, q) := by
          cases i with
          | zero => rfl
          | succ z =>
            simp only [gSmL]
            rw [if_neg hc, if_neg hc2]
        refine gg_if_eq_t (tgt := 62) dX10_sum_24 (by decide) (by decide) (by decide) ?_
        refine gg_vretv dX10_sum_62 rfl ⟨rfl, rfl⟩ ?_
        refine ⟨I, J, rfl, hK, ?_⟩
        rw [hres]
        exact ⟨hM, hR, h15⟩

set_option maxRecDepth 10000 in
theorem c_X10_pow {l : Launch} {Γ : gC} {ad : Nat → Nat} {T : Nat → Int} {n d : Nat} {op : Int} {o : Nat → gRT} (hd : 7 ≤ d) (ho : gBnd n o) (H : gCm l Γ ad gm_X10_one (d - 1) op T n (o)) : gCm l Γ ad gm_X10_pow d op T n (gPw T n o) := by
  intro I J B q hT hR hM h15 hq hl
  refine gKv_of gk_X10_pow.1 (Nat.le_of_ble_eq_true rfl) ?_
  have hn := hT.1
  show gG l Γ gm_X10_pow (d, 0, 0, 0, 0) 0 [(0, .ref (gad (gSS ad) 145))] [] _ _
  refine gg_aload_n dX10_pow_0 0 rfl ?_
  refine gg_getI rfl gf_RX10_90 dX10_pow_1 sh_145 pl_145 (by decide) (by decide) ?_
  refine gg_toI (b := (B.length : Int)) hM.1 ?_
  refine gg_istore_n (ls' := [(1, .int (iv (B.length : Int))), (0, .ref (gad (gSS ad) 145))]) dX10_pow_4 rfl (by decide) rfl ?_
  refine gg_aload_n dX10_pow_5 1 rfl ?_
  refine gg_callVv (own := RX10) (yt := gm_X10_one) rfl gl_RX10_168 gk_X10_one gr_X10_one dX10_pow_6 (H I J B q hT hR hM h15 hq hl) sh_145 pl_145 (by decide) rfl rfl rfl (Nat.le_of_ble_eq_true rfl) (by show _ ≤ d; omega) ⟨Nat.le_refl _, Nat.le_refl _⟩ (fun μ' hc => ?_)
  obtain ⟨I1, J1, rfl, hK1, hs1⟩ := hc
  cases hr : (o) q with
  | inl p =>
    rw [hr] at hs1
    obtain ⟨w1, w2⟩ : I1 145 16 = 1 ∧ I1 145 12 = (p : Int) := hs1
    refine gG_post (n_X10_pow w1 (by omega)) (fun r μ h => ?_)
    obtain ⟨rfl, rfl⟩ := h
    refine ⟨rfl, I1, J1, rfl, hK1, ?_⟩
    rw [show gPw T n o q = .inl p by unfold gPw; rw [hr, gBd_inl]]
    exact ⟨w1, w2⟩
  | inr x =>
    obtain ⟨t1, p1⟩ := x
    rw [hr] at hs1
    obtain ⟨hM1, hR1, h151⟩ : gMd I1 J1 (B ++ t1) ∧ gRq I1 T n p1 ∧ I1 145 15 = op := hs1
    have hb1 := ho q t1 p1 hq hr
    rw [show gPw T n o q = gPwL T n 120 t1 p1 by unfold gPw; rw [hr, gBd_inr]]
    exact w_X10_pow  (by omega) (n - p1 + 1) 120 t1 p1 I1 J1 (by omega) (by omega) (gTq_k hT hK1) hR1 hM1 h151 (by omega) (by omega) hK1

set_option maxRecDepth 10000 in
theorem c_X10_term {l : Launch} {Γ : gC} {ad : Nat → Nat} {T : Nat → Int} {n d : Nat} {op : Int} {o : Nat → gRT} (hd : 7 ≤ d) (ho : gBnd n o) (H : gCm l Γ ad gm_X10_pow (d - 1) op T n (gPw T n o)) : gCm l Γ ad gm_X10_term d op T n (gTm T n o) := by
  intro I J B q hT hR hM h15 hq hl
  refine gKv_of gk_X10_term.1 (Nat.le_of_ble_eq_true rfl) ?_
  have hn := hT.1
  show gG l Γ gm_X10_term (d, 0, 0, 0, 0) 0 [(0, .ref (gad (gSS ad) 145))] [] _ _
  refine gg_aload_n dX10_term_0 0 rfl ?_
  refine gg_getI rfl gf_RX10_90 dX10_term_1 sh_145 pl_145 (by decide) (by decide) ?_
  refine gg_toI (b := (B.length : Int)) hM.1 ?_
  refine gg_istore_n (ls' := [(1, .int (iv (B.length : Int))), (0, .ref (gad (gSS ad) 145))]) dX10_term_4 rfl (by decide) rfl ?_
  refine gg_aload_n dX10_term_5 1 rfl ?_
  refine gg_callVv (own := RX10) (yt := gm_X10_pow) rfl gl_RX10_165 gk_X10_pow gr_X10_pow dX10_term_6 (H I J B q hT hR hM h15 hq hl) sh_145 pl_145 (by decide) rfl rfl rfl (Nat.le_of_ble_eq_true rfl) (by show _ ≤ d; omega) ⟨Nat.le_refl _, Nat.le_refl _⟩ (fun μ' hc => ?_)
  obtain ⟨I1, J1, rfl, hK1, hs1⟩ := hc
  cases hr : (gPw T n o) q with
  | inl p =>
    rw [hr] at hs1
    obtain ⟨w1, w2⟩ : I1 145 16 = 1 ∧ I1 145 12 = (p : Int) := hs1
    refine gG_post (n_X10_term w1 (by omega)) (fun r μ h => ?_)
    obtain ⟨rfl, rfl⟩ := h
    refine ⟨rfl, I1, J1, rfl, hK1, ?_⟩
    rw [show gTm T n o q = .inl p by unfold gTm; rw [hr, gBd_inl]]
    exact ⟨w1, w2⟩
  | inr x =>
    obtain ⟨t1, p1⟩ := x
    rw [hr] at hs1
    obtain ⟨hM1, hR1, h151⟩ : gMd I1 J1 (B ++ t1) ∧ gRq I1 T n p1 ∧ I1 145 15 = op := hs1
    have hb1 := (gBnd_pw ho) q t1 p1 hq hr
    rw [show gTm T n o q = gTmL T n (gPw T n o) 120 t1 p1 by unfold gTm; rw [hr, gBd_inr]]
    exact w_X10_term (gBnd_pw ho) H (by omega) (n - p1 + 1) 120 t1 p1 I1 J1 (by omega) (by omega) (gTq_k hT hK1) hR1 hM1 h151 (by omega) (by omega) hK1

set_option maxRecDepth 10000 in
theorem c_X10_sum {l : Launch} {Γ : gC} {ad : Nat → Nat} {T : Nat → Int} {n d : Nat} {op : Int} {o : Nat → gRT} (hd : 7 ≤ d) (ho : gBnd n o) (H : gCm l Γ ad gm_X10_term (d - 1) op T n (gTm T n o)) : gCm l Γ ad gm_X10_sum d op T n (gSm T n o) := by
  intro I J B q hT hR hM h15 hq hl
  refine gKv_of gk_X10_sum.1 (Nat.le_of_ble_eq_true rfl) ?_
  have hn := hT.1
  show gG l Γ gm_X10_sum (d, 0, 0, 0, 0) 0 [(0, .ref (gad (gSS ad) 145))] [] _ _
  refine gg_aload_n dX10_sum_0 0 rfl ?_
  refine gg_getI rfl gf_RX10_90 dX10_sum_1 sh_145 pl_145 (by decide) (by decide) ?_
  refine gg_toI (b := (B.length : Int)) hM.1 ?_
  refine gg_istore_n (ls' := [(1, .int (iv (B.length : Int))), (0, .ref (gad (gSS ad) 145))]) dX10_sum_4 rfl (by decide) rfl ?_
  refine gg_aload_n dX10_sum_5 1 rfl ?_
  refine gg_callVv (own := RX10) (yt := gm_X10_term) rfl gl_RX10_162 gk_X10_term gr_X10_term dX10_sum_6 (H I J B q hT hR hM h15 hq hl) sh_145 pl_145 (by decide) rfl rfl rfl (Nat.le_of_ble_eq_true rfl) (by show _ ≤ d; omega) ⟨Nat.le_refl _, Nat.le_refl _⟩ (fun μ' hc => ?_)
  obtain ⟨I1, J1, rfl, hK1, hs1⟩ := hc
  cases hr : (gTm T n o) q with
  | inl p =>
    rw [hr] at hs1
    obtain ⟨w1, w2⟩ : I1 145 16 = 1 ∧ I1 145 12 = (p : Int) := hs1
    refine gG_post (n_X10_sum w1 (by omega)) (fun r μ h => ?_)
    obtain ⟨rfl, rfl⟩ := h
    refine ⟨rfl, I1, J1, rfl, hK1, ?_⟩
    rw [show gSm T n o q = .inl p by unfold gSm; rw [hr, gBd_inl]]
    exact ⟨w1, w2⟩
  | inr x =>
    obtain ⟨t1, p1⟩ := x
    rw [hr] at hs1
    obtain ⟨hM1, hR1, h151⟩ : gMd I1 J1 (B ++ t1) ∧ gRq I1 T n p1 ∧ I1 145 15 = op := hs1
    have hb1 := (gBnd_tm ho) q t1 p1 hq hr
    rw [show gSm T n o q = gSmL T n (gTm T n o) 120 t1 p1 by unfold gSm; rw [hr, gBd_inr]]
    exact w_X10_sum (gBnd_tm ho) H (by omega) (n - p1 + 1) 120 t1 p1 I1 J1 (by omega) (by omega) (gTq_k hT hK1) hR1 hM1 h151 (by omega) (by omega) hK1

