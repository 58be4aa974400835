/-! the reference's print -/
def gMp (I : Nat → Nat → Int) (L : List Int) : Prop := I 145 19 = (L.length : Int) ∧ gLst I 191 L
theorem g64neg {x : Int64} {r : Nat} (h : x.toInt = -(r : Int)) : (x / 10).toInt = -((r / 10 : Nat) : Int) := by
  rw [g64div, h, Int.neg_tdiv, Int.tdiv_eq_ediv_of_nonneg (by omega)]
  omega
theorem g64q {x y : Int64} {r p : Nat} (hx : x.toInt = -(r : Int)) (hy : y.toInt = -(p : Int)) (hp : 0 < p) (hr : r < 10 * p) : (x / y).toInt = ((r / p : Nat) : Int) ∧ (x - x / y * y).toInt = -((r % p : Nat) : Int) := by
  have h64 := g64 x
  have h9 : r / p ≤ 9 := by
    have : r / p < 10 := Nat.div_lt_of_lt_mul (by omega)
    omega
  have e1 : (x / y).toInt = ((r / p : Nat) : Int) := by
    rw [Int64.toInt_div, hx, hy, Int.neg_tdiv, Int.tdiv_neg, Int.neg_neg, Int.tdiv_eq_ediv_of_nonneg (by omega), ← Int.natCast_ediv]
    have h9i : (0 : Int) ≤ ((r / p : Nat) : Int) ∧ ((r / p : Nat) : Int) ≤ 9 := ⟨Int.natCast_nonneg _, Int.ofNat_le.mpr h9⟩
    exact g64r ⟨Int.le_trans (by decide) h9i.1, Int.le_trans h9i.2 (by decide)⟩
  have hle : r / p * p ≤ r := Nat.div_mul_le_self r p
  have e2 : (x / y * y).toInt = -((r / p * p : Nat) : Int) := by
    rw [Int64.toInt_mul, e1, hy, Int.mul_neg, ← Int.natCast_mul]
    apply g64r
    omega
  have hm : r % p = r - r / p * p := by
    have := Nat.div_add_mod r p
    rw [Nat.mul_comm] at this
    omega
  refine ⟨e1, ?_⟩
  rw [Int64.toInt_sub, e2, hx, hm]
  have : -(r : Int) - -((r / p * p : Nat) : Int) = -((r - r / p * p : Nat) : Int) := by omega
  rw [this]
  apply g64r
  omega
theorem g64m {x : Int64} {p : Nat} (h : x.toInt = -(p : Int)) (hp : p * 10 ≤ 9223372036854775808) : (x * 10).toInt = -((p * 10 : Nat) : Int) := by
  have e : (10 : Int64).toInt = 10 := by decide
  rw [Int64.toInt_mul, h, e]
  have : -(p : Int) * 10 = -((p * 10 : Nat) : Int) := by omega
  rw [this]
  apply g64r
  omega
set_option maxRecDepth 10000 in
theorem c_X10_sign {l : Launch} {Γ : gC} {ad : Nat → Nat} {I : Nat → Nat → Int} {J : Nat → Nat → Int64} {d : Nat} {L : List Int} {x : Int} (hg : gMp I L) (hl : L.length < 6000) : gKv l Γ gm_X10_sign d [.ref (gad (gSS ad) 145), .int (iv x)] (gSS ad, I, J) (fun μ => ∃ I1, μ = (gSS ad, I1, J) ∧ gMp I1 (L ++ [x]) ∧ (∀ p, p ≠ 145 → p ≠ 191 → I1 p = I p) ∧ (∀ q, q ≠ 19 → I1 145 q = I 145 q)) := by
  refine gKv_of gk_X10_sign.1 (Nat.le_of_ble_eq_true rfl) ?_
  show gG l Γ gm_X10_sign (d, 0, 0, 0, 0) 0 [(0, .ref (gad (gSS ad) 145)), (1, .int (iv x))] [] _ _
  refine gg_aload_n dX10_sign_0 0 rfl ?_
  refine gg_getR (k' := 191) rfl gf_RX10_42 dX10_sign_1 sh_145 pl_145 (by decide) (by decide) rr_145_18 ?_
  refine gg_aload_n dX10_sign_4 0 rfl ?_
  refine gg_getI rfl gf_RX10_261 dX10_sign_5 sh_145 pl_145 (by decide) (by decide) ?_
  refine gg_toI (b := (L.length : Int)) hg.1 ?_
  refine gg_iload_n dX10_sign_8 1 rfl ?_
  refine gg_iastj L.length dX10_sign_9 sh_191 pl_191 (by decide) rfl hl ?_
  refine gg_aload_n dX10_sign_10 0 rfl ?_
  refine gg_dup dX10_sign_11 rfl ?_
  refine gg_getI rfl gf_RX10_261 dX10_sign_12 sh_145 pl_145 (by decide) (by decide) ?_
  refine gg_toI (b := (L.length : Int)) ((gu_n (by omega)).trans hg.1) ?_
  refine gg_iconst dX10_sign_15 ?_
  refine gg_iadd dX10_sign_16 ?_
  refine gg_putI rfl gf_RX10_261 dX10_sign_17 sh_145 pl_145 (by decide) (by decide) (by decide) (gfit_i _) ?_
  refine gg_vretv dX10_sign_20 rfl ⟨rfl, rfl⟩ ?_
  refine ⟨_, rfl, ⟨gu_s.trans (by simp), gLst_same (gLst_push hg.2) (gu_other (by omega))⟩, fun p h1 h2 => (gu_other h1).trans (gu_other h2), fun q h => (gu_n (by omega)).trans (gu_n (by omega))⟩

set_option maxRecDepth 10000 in
theorem w_X10_digits2 {l : Launch} {Γ : gC} {ad : Nat → Nat} {I0 : Nat → Nat → Int} {J : Nat → Nat → Int64} {d : Nat} {mm : Nat} {F : List Int} {v : Int64} (hF : F.length ≤ 6000) (hd : 1 ≤ d) : ∀ (m : Nat) (k : Nat) (ten x : Int64) (B : List Int) (I : Nat → Nat → Int), k < m → (k ≤ 20) → (ten.toInt = (if k = 0 then 0 else -((10 ^ (k - 1) : Nat) : Int))) → (x.toInt = -((mm % 10 ^ k : Nat) : Int)) → (gMp I B) → (B ++ gDr mm k = F) → (∀ p, p ≠ 145 → p ≠ 191 → I p = I0 p) → (∀ q, q ≠ 19 → I 145 q = I0 145 q) → gG l Γ gm_X10_digits (d, 0, 0, 0, 0) 52 [(5, .long ten), (3, .long x), (0, .ref (gad (gSS ad) 145)), (1, .long v)] [] (gSS ad, I, J) (gDv (fun μ => ∃ I1, μ = (gSS ad, I1, J) ∧ gMp I1 F ∧ (∀ p, p ≠ 145 → p ≠ 191 → I1 p = I0 p) ∧ (∀ q, q ≠ 19 → I1 145 q = I0 145 q))) := by
  intro m
  induction m with
  | zero => intros; omega
  | succ m ih =>
    intro k ten x B I hm hk hten hx hg hB hI hI2
    refine gg_lload dX10_digits_52 0 rfl ?_
    refine gg_lconstv (x := 0) dX10_digits_54 rfl ?_
    refine gg_lcmp_eq (tgt := 87) dX10_digits_55 dX10_digits_56 (by decide) (fun ht0 => ?_) (fun ht0 => ?_)
    · have hk0 : k = 0 := by
        by_cases h : k = 0
        · exact h
        · have h2 := (g0_eq ten).mp ht0
          rw [hten, if_neg h] at h2
          have h3 : 0 < 10 ^ (k - 1) := Nat.pow_pos (by omega)
          omega
      subst hk0
      refine gg_vretv dX10_digits_87 rfl ⟨rfl, rfl⟩ ?_
      have hBF : B = F := by simpa [gDr] using hB
      exact ⟨I, rfl, by rw [← hBF]; exact hg, hI, hI2⟩
    · have hk0 : ¬ k = 0 := by
        intro h
        rw [if_pos h] at hten
        exact ht0 ((g0_eq ten).mpr hten)
      obtain ⟨j, rfl⟩ : ∃ j : Nat, k = j + 1 := ⟨k - 1, by omega⟩
      rw [if_neg hk0, Nat.add_sub_cancel] at hten
      rw [gDr_s] at hB
      have hBl : B.length < 6000 := by
        rw [← hB] at hF
        simp at hF
        omega
      have hp : 0 < 10 ^ j := Nat.pow_pos (by omega)
      have hlt : mm % 10 ^ (j + 1) < 10 * 10 ^ j := by have := Nat.mod_lt mm (show 0 < 10 ^ (j + 1) from Nat.pow_pos (by omega)); rw [Nat.pow_succ] at this ⊢; omega
      obtain ⟨e1, e2⟩ := g64q hx hten hp hlt
      have e3 : mm % 10 ^ (j + 1) / 10 ^ j = mm / 10 ^ j % 10 := by rw [Nat.pow_succ, Nat.mod_mul_right_div_self]
      have e4 : mm % 10 ^ (j + 1) % 10 ^ j = mm % 10 ^ j := Nat.mod_mod_of_dvd mm ⟨10, by rw [Nat.pow_succ]⟩
      rw [e3] at e1
      rw [e4] at e2
      refine gg_aload_n dX10_digits_59 2 rfl ?_
      refine gg_bipush dX10_digits_60 (by decide) ?_
      refine gg_lload_n dX10_digits_62 1 rfl ?_
      refine gg_lload dX10_digits_63 0 rfl ?_
      refine gg_ldiv dX10_digits_65 ht0 ?_
      refine gg_l2i dX10_digits_66 ?_
      refine gg_toI (b := ((mm / 10 ^ j % 10 : Nat) : Int)) (by rw [gl2i_toInt (by rw [e1]; omega), e1]) ?_
      refine gg_iadd dX10_digits_67 ?_
      refine gg_callVv (own := RX10) (yt := gm_X10_sign) rfl gl_RX10_264 gk_X10_sign gr_X10_sign dX10_digits_68 (c_X10_sign (d := d - 1) (x := (48 + ((mm / 10 ^ j % 10 : Nat) : Int))) hg hBl) sh_145 pl_145 (by decide) rfl rfl rfl (Nat.le_of_ble_eq_true rfl) (by show _ ≤ d; omega) ⟨Nat.le_refl _, Nat.le_refl _⟩ (fun μ' hc => ?_)
      obtain ⟨I2, rfl, g2, f2, h2⟩ := hc
      refine gg_lload_n dX10_digits_71 1 rfl ?_
      refine gg_lload dX10_digits_72 0 rfl ?_
      refine gg_lrem dX10_digits_74 ht0 ?_
      refine gg_lstore_n (ls' := [(3, .long (x - x / ten * ten)), (5, .long ten), (0, .ref (gad (gSS ad) 145)), (1, .long v)]) dX10_digits_75 rfl (by decide) rfl ?_
      refine gg_lload dX10_digits_76 1 rfl ?_
      refine gg_ldc2 rfl gq_RX10_269 dX10_digits_78 ?_
      refine gg_ldiv dX10_digits_81 (by decide) ?_
      refine gg_lstore (ls' := [(5, .long (ten / 10)), (3, .long (x - x / ten * ten)), (0, .ref (gad (gSS ad) 145)), (1, .long v)]) dX10_digits_82 (by decide) rfl ?_
      refine gg_goto (tgt := 52) dX10_digits_84 (by decide) ?_
      refine ih j (ten / 10) _ (B ++ [48 + ((mm / 10 ^ j % 10 : Nat) : Int)]) I2 (by omega) (by omega) ?_ e2 g2 (by rw [← hB]; simp) (fun p h1 h3 => by rw [f2 p h1 h3]; exact hI p h1 h3) (fun q h => by rw [h2 q h]; exact hI2 q h)
      rw [g64neg hten]
      by_cases hj0 : j = 0
      · rw [if_pos hj0, hj0]
        rfl
      · rw [if_neg hj0]
        obtain ⟨t, rfl⟩ : ∃ t, j = t + 1 := ⟨j - 1, by omega⟩
        rw [Nat.pow_succ, Nat.mul_div_cancel _ (by omega)]
        rfl

set_option maxRecDepth 10000 in
theorem w_X10_digits {l : Launch} {Γ : gC} {ad : Nat → Nat} {I0 : Nat → Nat → Int} {J : Nat → Nat → Int64} {d : Nat} {mm : Nat} {B : List Int} {v x : Int64} (hm64 : mm ≤ 9223372036854775808) (hx : x.toInt = -(mm : Int)) (hF : (B ++ gDgs mm (gTop mm)).length ≤ 6000) (hg : gMp I0 B) (hd : 1 ≤ d) : ∀ (m : Nat) (k : Nat) (ten : Int64), 19 - k < m → (k = 0 ∨ 10 ^ k ≤ mm) → (ten.toInt = -((10 ^ k : Nat) : Int)) → gG l Γ gm_X10_digits (d, 0, 0, 0, 0) 30 [(5, .long ten), (3, .long x), (0, .ref (gad (gSS ad) 145)), (1, .long v)] [] (gSS ad, I0, J) (gDv (fun μ => ∃ I1, μ = (gSS ad, I1, J) ∧ gMp I1 (B ++ gDgs mm (gTop mm)) ∧ (∀ p, p ≠ 145 → p ≠ 191 → I1 p = I0 p) ∧ (∀ q, q ≠ 19 → I1 145 q = I0 145 q))) := by
  intro m
  induction m with
  | zero => intros; omega
  | succ m ih =>
    intro k ten hm hk hten
    have hk18 : k ≤ 18 := by
      rcases hk with h | h
      · omega
      · by_cases h2 : k ≤ 18
        · exact h2
        · have h3 : 10 ^ 19 ≤ 10 ^ k := Nat.pow_le_pow_right (by omega) (by omega)
          have h4 : (10 : Nat) ^ 19 = 10000000000000000000 := by decide
          omega
    refine gg_lload_n dX10_digits_30 1 rfl ?_
    refine gg_ldc2 rfl gq_RX10_269 dX10_digits_31 ?_
    refine gg_ldiv dX10_digits_34 (by decide) ?_
    refine gg_lload dX10_digits_35 0 rfl ?_
    refine gg_lcmp_gt (tgt := 52) dX10_digits_37 dX10_digits_38 (by decide) (fun hc => ?_) (fun hc => ?_)
    · have hc2 := Int64.lt_iff_toInt_lt.mp hc
      rw [g64neg hx, hten] at hc2
      have htop : gTop mm = k := gTop_of ⟨by rw [Nat.pow_succ]; omega, hk⟩
      refine w_X10_digits2 (mm := mm) (v := v) hF hd (k + 2) (k + 1) ten x B I0 (by omega) (by omega) (by rw [if_neg (by omega)]; exact hten) (by rw [hx, Nat.mod_eq_of_lt (by rw [← htop]; exact (gTop_is mm).1)]) hg (by rw [htop]; rfl) (fun _ _ _ => rfl) (fun _ _ => rfl)
    · have hc2 := Int64.le_iff_toInt_le.mp hc
      rw [g64neg hx, hten] at hc2
      have hc3 : 10 ^ (k + 1) ≤ mm := by rw [Nat.pow_succ]; omega
      refine gg_lload dX10_digits_41 0 rfl ?_
      refine gg_ldc2 rfl gq_RX10_269 dX10_digits_43 ?_
      refine gg_lmul dX10_digits_46 ?_
      refine gg_lstore (ls' := [(5, .long (ten * 10)), (3, .long x), (0, .ref (gad (gSS ad) 145)), (1, .long v)]) dX10_digits_47 (by decide) rfl ?_
      refine gg_goto (tgt := 30) dX10_digits_49 (by decide) ?_
      refine ih (k + 1) _ (by omega) (Or.inr hc3) ?_
      rw [g64m hten (by rw [← Nat.pow_succ]; omega), Nat.pow_succ]

set_option maxRecDepth 10000 in
theorem c_X10_digits {l : Launch} {Γ : gC} {ad : Nat → Nat} {I : Nat → Nat → Int} {J : Nat → Nat → Int64} {d : Nat} {L : List Int} {v : Int64} (hg : gMp I L) (hB : L.length + (gNm v).length ≤ 6000) (hd : 1 ≤ d) : gKv l Γ gm_X10_digits d [.ref (gad (gSS ad) 145), .long v] (gSS ad, I, J) (fun μ => ∃ I1, μ = (gSS ad, I1, J) ∧ gMp I1 (L ++ gNm v) ∧ (∀ p, p ≠ 145 → p ≠ 191 → I1 p = I p) ∧ (∀ q, q ≠ 19 → I1 145 q = I 145 q)) := by
  refine gKv_of gk_X10_digits.1 (Nat.le_of_ble_eq_true rfl) ?_
  show gG l Γ gm_X10_digits (d, 0, 0, 0, 0) 0 [(0, .ref (gad (gSS ad) 145)), (1, .long v)] [] _ _
  have h64 := g64 v
  refine gg_lload_n dX10_digits_0 1 rfl ?_
  refine gg_lconstv (x := 0) dX10_digits_1 rfl ?_
  refine gg_lcmp_ge (tgt := 10) dX10_digits_2 dX10_digits_3 (by decide) (fun hv => ?_) (fun hv => ?_)
  · have hv0 := (g0_le v).mp hv
    have hN : gNm v = gDgs v.toInt.natAbs (gTop v.toInt.natAbs) := by unfold gNm; rw [if_neg (by omega)]; rfl
    refine gg_lload_n dX10_digits_10 1 rfl ?_
    refine gg_lneg dX10_digits_11 ?_
    refine gg_lstore_n (ls' := [(3, .long (-v)), (0, .ref (gad (gSS ad) 145)), (1, .long v)]) dX10_digits_12 rfl (by decide) rfl ?_
    refine gg_lload_n dX10_digits_13 2 rfl ?_
    refine gg_lconstv (x := 0) dX10_digits_14 rfl ?_
    refine gg_lcmp_ge (tgt := 25) dX10_digits_15 dX10_digits_16 (by decide) (fun hv2 => ?_) (fun hv2 => ?_)
    · refine gg_ldc2 rfl gq_RX10_267 dX10_digits_25 ?_
      refine gg_lstore (ls' := [(5, .long (-1)), (3, .long (-v)), (0, .ref (gad (gSS ad) 145)), (1, .long v)]) dX10_digits_28 (by decide) rfl ?_
      refine gg_sub [0, 1, 2, 3] rfl ?_
      refine gG_post (w_X10_digits (I0 := I) (mm := v.toInt.natAbs) (B := L) (v := v) (x := -v) (by omega) (by rw [Int64.toInt_neg, g64r (by omega)]; omega) (by rw [List.length_append, ← hN]; exact hB) hg hd 20 0 (-1) (by omega) (Or.inl rfl) (by decide)) (fun r μ h => ?_)
      obtain ⟨rfl, I1, rfl, h3, h4, h5⟩ := h
      exact ⟨rfl, I1, rfl, by rw [hN]; exact h3, h4, h5⟩
    · exfalso
      have := (g0_lt v).mp hv2
      omega
  · have hv0 := (g0_lt v).mp hv
    have hN : gNm v = 45 :: gDgs v.toInt.natAbs (gTop v.toInt.natAbs) := by unfold gNm; rw [if_pos hv0]; rfl
    rw [hN] at hB
    simp only [List.length_cons] at hB
    refine gg_lload_n dX10_digits_6 1 rfl ?_
    refine gg_goto (tgt := 12) dX10_digits_7 (by decide) ?_
    refine gg_lstore_n (ls' := [(3, .long v), (0, .ref (gad (gSS ad) 145)), (1, .long v)]) dX10_digits_12 rfl (by decide) rfl ?_
    refine gg_lload_n dX10_digits_13 2 rfl ?_
    refine gg_lconstv (x := 0) dX10_digits_14 rfl ?_
    refine gg_lcmp_ge (tgt := 25) dX10_digits_15 dX10_digits_16 (by decide) (fun hv2 => ?_) (fun hv2 => ?_)
    · exfalso
      have := (g0_le v).mp hv2
      omega
    · refine gg_aload_n dX10_digits_19 1 rfl ?_
      refine gg_bipush dX10_digits_20 (by decide) ?_
      refine gg_callVv (own := RX10) (yt := gm_X10_sign) rfl gl_RX10_264 gk_X10_sign gr_X10_sign dX10_digits_22 (c_X10_sign (d := d - 1) (x := 45) hg (by omega)) sh_145 pl_145 (by decide) rfl rfl rfl (Nat.le_of_ble_eq_true rfl) (by show _ ≤ d; omega) ⟨Nat.le_refl _, Nat.le_refl _⟩ (fun μ' hc => ?_)
      obtain ⟨I2, rfl, g2, f2, h2⟩ := hc
      refine gg_ldc2 rfl gq_RX10_267 dX10_digits_25 ?_
      refine gg_lstore (ls' := [(5, .long (-1)), (3, .long v), (0, .ref (gad (gSS ad) 145)), (1, .long v)]) dX10_digits_28 (by decide) rfl ?_
      refine gg_sub [0, 1, 2, 3] rfl ?_
      refine gG_post (w_X10_digits (I0 := I2) (mm := v.toInt.natAbs) (B := L ++ [45]) (v := v) (x := v) (by omega) (by omega) (by simp only [List.length_append, List.length_cons, List.length_nil]; omega) g2 hd 20 0 (-1) (by omega) (Or.inl rfl) (by decide)) (fun r μ h => ?_)
      obtain ⟨rfl, I1, rfl, h3, h4, h5⟩ := h
      exact ⟨rfl, I1, rfl, by rw [hN]; simpa using h3, fun p a b => (h4 p a b).trans (f2 p a b), fun q a => (h5 q a).trans (h2 q a)⟩

set_option maxRecDepth 10000 in
theorem c_X10_rank {l : Launch} {Γ : gC} {ad : Nat → Nat} {I : Nat → Nat → Int} {J : Nat → Nat → Int64} {d : Nat} {k : Nat} (hk : k < 8) : gKi l Γ gm_X10_rank d [.int (iv (k : Int))] (gSS ad, I, J) (fun e μ => μ = (gSS ad, I, J) ∧ e = 4 - gStands k) := by
  refine gKi_of gk_X10_rank.1 (Nat.le_of_ble_eq_true rfl) ?_
  show gG l Γ gm_X10_rank (d, 0, 0, 0, 0) 0 [(0, .int (iv (k : Int)))] [] _ _
  refine gg_iload_n dX10_rank_0 0 rfl ?_
  refine gg_iconst dX10_rank_1 ?_
  refine gg_icmp_ne (tgt := 9) dX10_rank_2 (by decide) (by omega) (fun hb1 => ?_) (fun hb1 => ?_)
  · refine gg_iload_n dX10_rank_9 0 rfl ?_
    refine gg_iconst dX10_rank_10 ?_
    refine gg_icmp_ne (tgt := 18) dX10_rank_11 (by decide) (by omega) (fun hb2 => ?_) (fun hb2 => ?_)
    · refine gg_iload_n dX10_rank_18 0 rfl ?_
      refine gg_iconst dX10_rank_19 ?_
      refine gg_icmp_ne (tgt := 27) dX10_rank_20 (by decide) (by omega) (fun hb3 => ?_) (fun hb3 => ?_)
      · refine gg_iload_n dX10_rank_27 0 rfl ?_
        refine gg_bipush dX10_rank_28 (by decide) ?_
        refine gg_icmp_ne (tgt := 37) dX10_rank_30 (by decide) (by omega) (fun hb4 => ?_) (fun hb4 => ?_)
        · refine gg_iconst dX10_rank_37 ?_
          refine gg_ireti dX10_rank_38 rfl ⟨rfl, rfl⟩ ?_
          refine ⟨rfl, ?_⟩
          obtain rfl | rfl | rfl | rfl | rfl | rfl | rfl | rfl : k = 0 ∨ k = 1 ∨ k = 2 ∨ k = 3 ∨ k = 4 ∨ k = 5 ∨ k = 6 ∨ k = 7 := by omega
          all_goals first | rfl | (exfalso; omega)
        · refine gg_iconst dX10_rank_33 ?_
          refine gg_goto (tgt := 38) dX10_rank_34 (by decide) ?_
          refine gg_ireti dX10_rank_38 rfl ⟨rfl, rfl⟩ ?_
          refine ⟨rfl, ?_⟩
          obtain rfl | rfl | rfl | rfl | rfl | rfl | rfl | rfl : k = 0 ∨ k = 1 ∨ k = 2 ∨ k = 3 ∨ k = 4 ∨ k = 5 ∨ k = 6 ∨ k = 7 := by omega
          all_goals first | rfl | (exfalso; omega)
      · refine gg_iconst dX10_rank_23 ?_
        refine gg_goto (tgt := 38) dX10_rank_24 (by decide) ?_
        refine gg_ireti dX10_rank_38 rfl ⟨rfl, rfl⟩ ?_
        refine ⟨rfl, ?_⟩
        obtain rfl | rfl | rfl | rfl | rfl | rfl | rfl | rfl : k = 0 ∨ k = 1 ∨ k = 2 ∨ k = 3 ∨ k = 4 ∨ k = 5 ∨ k = 6 ∨ k = 7 := by omega
        all_goals first | rfl | (exfalso; omega)
    · refine gg_iconst dX10_rank_14 ?_
      refine gg_goto (tgt := 38) dX10_rank_15 (by decide) ?_
      refine gg_ireti dX10_rank_38 rfl ⟨rfl, rfl⟩ ?_
      refine ⟨rfl, ?_⟩
      obtain rfl | rfl | rfl | rfl | rfl | rfl | rfl | rfl : k = 0 ∨ k = 1 ∨ k = 2 ∨ k = 3 ∨ k = 4 ∨ k = 5 ∨ k = 6 ∨ k = 7 := by omega
      all_goals first | rfl | (exfalso; omega)
  · refine gg_iconst dX10_rank_5 ?_
    refine gg_goto (tgt := 38) dX10_rank_6 (by decide) ?_
    refine gg_ireti dX10_rank_38 rfl ⟨rfl, rfl⟩ ?_
    refine ⟨rfl, ?_⟩
    obtain rfl | rfl | rfl | rfl | rfl | rfl | rfl | rfl : k = 0 ∨ k = 1 ∨ k = 2 ∨ k = 3 ∨ k = 4 ∨ k = 5 ∨ k = 6 ∨ k = 7 := by omega
    all_goals first | rfl | (exfalso; omega)

theorem gMt_p {f n : Nat} {K : Nat → Nat} {N : Nat → Int64} {Z : Nat → Nat} {I I' : Nat → Nat → Int} {J : Nat → Nat → Int64} (hf : f < 12) (hM : gMt I J f n K N Z) (h : ∀ p, p ≠ 145 → p ≠ 191 → I' p = I p) : gMt I' J f n K N Z := by
  refine ⟨by rw [h 146 (by omega) (by omega)]; exact hM.1, fun j hj => ?_⟩
  rw [h (148 + f) (by omega) (by omega), h (174 + f) (by omega) (by omega)]
  exact hM.2 j hj
/-- what printing a tree does -/
def gMpo (l : Launch) (Γ : gC) (ad : Nat → Nat) (J : Nat → Nat → Int64) (mt : gY) (d : Nat) (av : List Value) (f n : Nat) (K : Nat → Nat) (N : Nat → Int64) (Z : Nat → Nat) (T : List Int) : Prop := ∀ (I : Nat → Nat → Int) (L : List Int), gMt I J f n K N Z → gMp I L → L.length + T.length ≤ 6000 → gKv l Γ mt d av (gSS ad, I, J) (fun μ => ∃ I1, μ = (gSS ad, I1, J) ∧ gMp I1 (L ++ T) ∧ (∀ p, p ≠ 145 → p ≠ 191 → I1 p = I p) ∧ (∀ q, q ≠ 19 → I1 145 q = I 145 q))
set_option maxRecDepth 10000 in
theorem c_X10_printAs {l : Launch} {Γ : gC} {ad : Nat → Nat} {J : Nat → Nat → Int64} {f n : Nat} {K : Nat → Nat} {N : Nat → Int64} {Z : Nat → Nat} {i as ac d : Nat} {T : List Int} (hf : f < 12) (hn : n ≤ 200) (hi : i < n) (hK : K i < 8) (ha : as + ac = 4) (hd : 2 ≤ d) (H : gMpo l Γ ad J gm_X10_printOne (d - 1) [.ref (gad (gSS ad) 145), .int (iv (f : Int)), .int (iv (i : Int))] f n K N Z T) : gMpo l Γ ad J gm_X10_printAs d [.ref (gad (gSS ad) 145), .int (iv (f : Int)), .int (iv (i : Int)), .int (iv (as : Int))] f n K N Z (gBr ac (K i) T) := by
  intro I L hM hg hB
  refine gKv_of gk_X10_printAs.1 (Nat.le_of_ble_eq_true rfl) ?_
  show gG l Γ gm_X10_printAs (d, 0, 0, 0, 0) 0 [(0, .ref (gad (gSS ad) 145)), (1, .int (iv (f : Int))), (2, .int (iv (i : Int))), (3, .int (iv (as : Int)))] [] _ _
  refine gg_aload_n dX10_printAs_0 0 rfl ?_
  refine gg_getR (k' := 147) rfl gf_RX10_15 dX10_printAs_1 sh_145 pl_145 (by decide) (by decide) rr_145_1 ?_
  refine gg_iload_n dX10_printAs_4 1 rfl ?_
  refine gg_aaldj (t := 6) f (k' := (148 + f)) dX10_printAs_5 sh_147 (by decide) pl_147 (by decide) rfl hf (rr_147 hf) ?_
  refine gg_iload_n dX10_printAs_6 2 rfl ?_
  refine gg_ialdj i dX10_printAs_7 (rs_147 hf) (rl_147 hf) (by decide) rfl (by omega) ?_
  refine gg_toI (b := (K i : Int)) (hM.2 i hi).1 ?_
  refine gg_callSi (own := RX10) (yt := gm_X10_rank) rfl gl_RX10_271 gk_X10_rank gr_X10_rank dX10_printAs_8 (c_X10_rank (d := d - 1) hK) rfl rfl (Nat.le_of_ble_eq_true rfl) (by show _ ≤ d; omega) ⟨Nat.le_refl _, Nat.le_refl _⟩ (fun e1 μ' hc => ?_)
  obtain ⟨rfl, rfl⟩ := hc
  refine gg_iload_n dX10_printAs_11 3 rfl ?_
  refine gg_icmp_lt (tgt := 22) dX10_printAs_12 (by decide) (by have := gStands_rng _ hK; omega) (fun hs => ?_) (fun hs => ?_)
  · have hbr : gBr ac (K i) T = 40 :: (T ++ [41]) := by unfold gBr; rw [if_pos (by omega)]
    rw [hbr] at hB ⊢
    simp only [List.length_cons, List.length_append, List.length_nil] at hB
    refine gg_aload_n dX10_printAs_22 0 rfl ?_
    refine gg_bipush dX10_printAs_23 (by decide) ?_
    refine gg_callVv (own := RX10) (yt := gm_X10_sign) rfl gl_RX10_264 gk_X10_sign gr_X10_sign dX10_printAs_25 (c_X10_sign (d := d - 1) (x := 40) hg (by first | omega | (simp only [List.length_append, List.length_cons, List.length_nil]; omega))) sh_145 pl_145 (by decide) rfl rfl rfl (Nat.le_of_ble_eq_true rfl) (by show _ ≤ d; omega) ⟨Nat.le_refl _, Nat.le_refl _⟩ (fun μ' hc => ?_)
    obtain ⟨I2, rfl, g2, f2, h2⟩ := hc
    refine gg_aload_n dX10_printAs_28 0 rfl ?_
    refine gg_iload_n dX10_printAs_29 1 rfl ?_
    refine gg_iload_n dX10_printAs_30 2 rfl ?_
    refine gg_callVv (own := RX10) (yt := gm_X10_printOne) rfl gl_RX10_274 gk_X10_printOne gr_X10_printOne dX10_printAs_31 (H I2 _ (gMt_p hf hM (fun p a b => (f2 p a b).trans (rfl))) g2 (by first | omega | (simp only [List.length_append, List.length_cons, List.length_nil]; omega))) sh_145 pl_145 (by decide) rfl rfl rfl (Nat.le_of_ble_eq_true rfl) (by show _ ≤ d; omega) ⟨Nat.le_refl _, Nat.le_refl _⟩ (fun μ' hc => ?_)
    obtain ⟨I4, rfl, g4, f4, h4⟩ := hc
    refine gg_aload_n dX10_printAs_34 0 rfl ?_
    refine gg_bipush dX10_printAs_35 (by decide) ?_
    refine gg_callVv (own := RX10) (yt := gm_X10_sign) rfl gl_RX10_264 gk_X10_sign gr_X10_sign dX10_printAs_37 (c_X10_sign (d := d - 1) (x := 41) g4 (by first | omega | (simp only [List.length_append, List.length_cons, List.length_nil]; omega))) sh_145 pl_145 (by decide) rfl rfl rfl (Nat.le_of_ble_eq_true rfl) (by show _ ≤ d; omega) ⟨Nat.le_refl _, Nat.le_refl _⟩ (fun μ' hc => ?_)
    obtain ⟨I6, rfl, g6, f6, h6⟩ := hc
    refine gg_vretv dX10_printAs_40 rfl ⟨rfl, rfl⟩ ?_
    exact ⟨I6, rfl, (by simpa using g6), fun p a b => (f6 p a b).trans ((f4 p a b).trans ((f2 p a b).trans (rfl))), fun q a => (h6 q a).trans ((h4 q a).trans ((h2 q a).trans (rfl)))⟩
  · have hbr : gBr ac (K i) T = T := by unfold gBr; rw [if_neg (by omega)]
    rw [hbr] at hB ⊢
    refine gg_aload_n dX10_printAs_15 0 rfl ?_
    refine gg_iload_n dX10_printAs_16 1 rfl ?_
    refine gg_iload_n dX10_printAs_17 2 rfl ?_
    refine gg_callVv (own := RX10) (yt := gm_X10_printOne) rfl gl_RX10_274 gk_X10_printOne gr_X10_printOne dX10_printAs_18 (H I _ hM hg (by first | omega | (simp only [List.length_append, List.length_cons, List.length_nil]; omega))) sh_145 pl_145 (by decide) rfl rfl rfl (Nat.le_of_ble_eq_true rfl) (by show _ ≤ d; omega) ⟨Nat.le_refl _, Nat.le_refl _⟩ (fun μ' hc => ?_)
    obtain ⟨I8, rfl, g8, f8, h8⟩ := hc
    refine gg_vretv dX10_printAs_21 rfl ⟨rfl, rfl⟩ ?_
    exact ⟨I8, rfl, (by simpa using g8), fun p a b => (f8 p a b).trans (rfl), fun q a => (h8 q a).trans (rfl)⟩

set_option maxRecDepth 10000 in
set_option maxHeartbeats 4000000 in
theorem r_X10_printOne {l : Launch} {Γ : gC} {ad : Nat → Nat} {J : Nat → Nat → Int64} {f n : Nat} {K : Nat → Nat} {N : Nat → Int64} {Z : Nat → Nat} (hf : f < 12) (hW : gWf n K N Z) : ∀ (m i : Nat), i < n → Z i ≤ m → ∀ d, 2 * m + 4 ≤ d → gMpo l Γ ad J gm_X10_printOne d [.ref (gad (gSS ad) 145), .int (iv (f : Int)), .int (iv (i : Int))] f n K N Z (gTx n K N Z i) := by
  intro m
  induction m with
  | zero => intro i hi hz; have := (hW.2.2 i hi).2.1; omega
  | succ m ih =>
    intro i hi hzm d hd
    obtain ⟨hK, hZ1, hZ2, he0, he1, he2, he3, hc1, hc2, hc3, -⟩ := hW.2.2 i hi
    have hn := hW.1
    have hdg1 : K i = 1 → 0 ≤ gl2i (N i) ∧ gl2i (N i) ≤ 7 := fun h => gdg hW hi h
    intro I L hM hg hB
    refine gKv_of gk_X10_printOne.1 (Nat.le_of_ble_eq_true rfl) ?_
    show gG l Γ gm_X10_printOne (d, 0, 0, 0, 0) 0 [(0, .ref (gad (gSS ad) 145)), (1, .int (iv (f : Int))), (2, .int (iv (i : Int)))] [] _ _
    refine gg_iload_n dX10_printOne_0 2 rfl ?_
    refine gg_iconst dX10_printOne_1 ?_
    refine gg_iadd dX10_printOne_2 ?_
    refine gg_toI (b := ((i + 1 : Nat) : Int)) (by omega) ?_
    refine gg_istore_n (ls' := [(3, .int (iv ((i + 1 : Nat) : Int))), (0, .ref (gad (gSS ad) 145)), (1, .int (iv (f : Int))), (2, .int (iv (i : Int)))]) dX10_printOne_3 rfl (by decide) rfl ?_
    refine gg_aload_n dX10_printOne_4 1 rfl ?_
    refine gg_getR (k' := 147) rfl gf_RX10_15 dX10_printOne_5 sh_145 pl_145 (by decide) (by decide) rr_145_1 ?_
    refine gg_iload_n dX10_printOne_8 2 rfl ?_
    refine gg_aaldj (t := 6) f (k' := (148 + f)) dX10_printOne_9 sh_147 (by decide) pl_147 (by decide) rfl hf (rr_147 hf) ?_
    refine gg_iload_n dX10_printOne_10 3 rfl ?_
    refine gg_ialdj i dX10_printOne_11 (rs_147 hf) (rl_147 hf) (by decide) rfl (by omega) ?_
    refine gg_toI (b := (K i : Int)) (hM.2 i hi).1 ?_
    obtain hk | hk | hk | hk | hk | hk | hk | hk := (by omega : K i = 0 ∨ K i = 1 ∨ K i = 2 ∨ K i = 3 ∨ K i = 4 ∨ K i = 5 ∨ K i = 6 ∨ K i = 7)
    · refine gg_toI (b := 0) (by omega) ?_
      refine gg_tsw (off := 44) (tgt := 56) dX10_printOne_12 (by decide) (by decide) rfl (by decide) ?_
      have hz := he0 (by rw [hk]; decide)
      have hT : gTx n K N Z i = gNm (N i) := by rw [gTx_is n K N Z i hi]; unfold gpF; rw [hk]; simp
      rw [hT] at hB ⊢
      refine gg_aload_n dX10_printOne_56 1 rfl ?_
      refine gg_aload_n dX10_printOne_57 1 rfl ?_
      refine gg_getR (k' := 160) rfl gf_RX10_20 dX10_printOne_58 sh_145 pl_145 (by decide) (by decide) rr_145_2 ?_
      refine gg_iload_n dX10_printOne_61 2 rfl ?_
      refine gg_aaldj (t := 7) f (k' := (161 + f)) dX10_printOne_62 sh_160 (by decide) pl_160 (by decide) rfl hf (rr_160 hf) ?_
      refine gg_iload_n dX10_printOne_63 3 rfl ?_
      refine gg_laldj i dX10_printOne_64 (rs_160 hf) (rl_160 hf) (by decide) rfl (by omega) ?_
      refine gg_toL (b := N i) (hM.2 i hi).2.1 ?_
      refine gg_callVv (own := RX10) (yt := gm_X10_digits) rfl gl_RX10_277 gk_X10_digits gr_X10_digits dX10_printOne_65 (c_X10_digits (d := d - 1) (v := N i) hg hB (by omega)) sh_145 pl_145 (by decide) rfl rfl rfl (Nat.le_of_ble_eq_true rfl) (by show _ ≤ d; omega) ⟨Nat.le_refl _, Nat.le_refl _⟩ (fun μ' hc => ?_)
      obtain ⟨I1, rfl, g1, f1, h1⟩ := hc
      refine gg_goto (tgt := 305) dX10_printOne_68 (by decide) ?_
      refine gg_vretv dX10_printOne_305 rfl ⟨rfl, rfl⟩ ?_
      exact ⟨I1, rfl, (by simpa using g1), fun p a b => (f1 p a b).trans (rfl), fun q a => (h1 q a).trans (rfl)⟩
    · refine gg_toI (b := 1) (by omega) ?_
      refine gg_tsw (off := 59) (tgt := 71) dX10_printOne_12 (by decide) (by decide) rfl (by decide) ?_
      have hz := he0 (by rw [hk]; decide)
      have hT : gTx n K N Z i = [97 + gl2i (N i)] := by rw [gTx_is n K N Z i hi]; unfold gpF; rw [hk]; simp
      rw [hT] at hB ⊢
      simp only [List.length_append, List.length_cons, List.length_nil] at hB
      refine gg_aload_n dX10_printOne_71 1 rfl ?_
      refine gg_bipush dX10_printOne_72 (by decide) ?_
      refine gg_aload_n dX10_printOne_74 1 rfl ?_
      refine gg_getR (k' := 160) rfl gf_RX10_20 dX10_printOne_75 sh_145 pl_145 (by decide) (by decide) rr_145_2 ?_
      refine gg_iload_n dX10_printOne_78 2 rfl ?_
      refine gg_aaldj (t := 7) f (k' := (161 + f)) dX10_printOne_79 sh_160 (by decide) pl_160 (by decide) rfl hf (rr_160 hf) ?_
      refine gg_iload_n dX10_printOne_80 3 rfl ?_
      refine gg_laldj i dX10_printOne_81 (rs_160 hf) (rl_160 hf) (by decide) rfl (by omega) ?_
      refine gg_toL (b := N i) (hM.2 i hi).2.1 ?_
      refine gg_l2i dX10_printOne_82 ?_
      refine gg_iadd dX10_printOne_83 ?_
      refine gg_callVv (own := RX10) (yt := gm_X10_sign) rfl gl_RX10_264 gk_X10_sign gr_X10_sign dX10_printOne_84 (c_X10_sign (d := d - 1) (x := (97 + (gl2i (N i)))) hg (by first | omega | (simp only [List.length_append, List.length_cons, List.length_nil]; omega))) sh_145 pl_145 (by decide) rfl rfl rfl (Nat.le_of_ble_eq_true rfl) (by show _ ≤ d; omega) ⟨Nat.le_refl _, Nat.le_refl _⟩ (fun μ' hc => ?_)
      obtain ⟨I3, rfl, g3, f3, h3⟩ := hc
      refine gg_goto (tgt := 305) dX10_printOne_87 (by decide) ?_
      refine gg_vretv dX10_printOne_305 rfl ⟨rfl, rfl⟩ ?_
      exact ⟨I3, rfl, (by simpa using g3), fun p a b => (f3 p a b).trans (rfl), fun q a => (h3 q a).trans (rfl)⟩
    · refine gg_toI (b := 2) (by omega) ?_
      refine gg_tsw (off := 78) (tgt := 90) dX10_printOne_12 (by decide) (by decide) rfl (by decide) ?_
      have q1 := hc1 (by rw [hk]; decide)
      have hz := he1 (by rw [hk]; decide)
      have hT : gTx n K N Z i = 45 :: gBr 0 (K (i + 1)) (gTx n K N Z (i + 1)) := by rw [gTx_is n K N Z i hi]; unfold gpF; rw [hk]; simp
      rw [hT] at hB ⊢
      simp only [List.length_append, List.length_cons, List.length_nil] at hB
      refine gg_aload_n dX10_printOne_90 1 rfl ?_
      refine gg_bipush dX10_printOne_91 (by decide) ?_
      refine gg_callVv (own := RX10) (yt := gm_X10_sign) rfl gl_RX10_264 gk_X10_sign gr_X10_sign dX10_printOne_93 (c_X10_sign (d := d - 1) (x := 45) hg (by first | omega | (simp only [List.length_append, List.length_cons, List.length_nil]; omega))) sh_145 pl_145 (by decide) rfl rfl rfl (Nat.le_of_ble_eq_true rfl) (by show _ ≤ d; omega) ⟨Nat.le_refl _, Nat.le_refl _⟩ (fun μ' hc => ?_)
      obtain ⟨I5, rfl, g5, f5, h5⟩ := hc
      refine gg_aload_n dX10_printOne_96 1 rfl ?_
      refine gg_iload_n dX10_printOne_97 2 rfl ?_
      refine gg_iload_n dX10_printOne_98 0 rfl ?_
      refine gg_iconst dX10_printOne_99 ?_
      refine gg_callVv (own := RX10) (yt := gm_X10_printAs) rfl gl_RX10_281 gk_X10_printAs gr_X10_printAs dX10_printOne_100 ((c_X10_printAs hf hn (i := i + 1) (as := 4) (ac := 0) (d := d - 1) q1 (hW.2.2 _ q1).1 (by omega) (by omega) (ih (i + 1) q1 (by omega) (d - 1 - 1) (by omega))) I5 _ (gMt_p hf hM (fun p a b => (f5 p a b).trans (rfl))) g5 (by first | omega | (simp only [List.length_append, List.length_cons, List.length_nil]; omega))) sh_145 pl_145 (by decide) rfl rfl rfl (Nat.le_of_ble_eq_true rfl) (by show _ ≤ d; omega) ⟨Nat.le_refl _, Nat.le_refl _⟩ (fun μ' hc => ?_)
      obtain ⟨I7, rfl, g7, f7, h7⟩ := hc
      refine gg_goto (tgt := 305) dX10_printOne_103 (by decide) ?_
      refine gg_vretv dX10_printOne_305 rfl ⟨rfl, rfl⟩ ?_
      exact ⟨I7, rfl, (by simpa using g7), fun p a b => (f7 p a b).trans ((f5 p a b).trans (rfl)), fun q a => (h7 q a).trans ((h5 q a).trans (rfl))⟩
    · refine gg_toI (b := 3) (by omega) ?_
      refine gg_tsw (off := 94) (tgt := 106) dX10_printOne_12 (by decide) (by decide) rfl (by decide) ?_
      have q1 := hc1 (by rw [hk]; decide)
      have q2 := hc2 (by rw [hk]; decide)
      have hz := he2 (by rw [hk]; decide)
      have hl3 : (gTx n K N Z i) = gBr 3 (K (i + 1)) (gTx n K N Z (i + 1)) ++ (if K (gPt Z i 1) = 2 then 45 :: gBr 2 (K (gPt Z i 1 + 1)) (gTx n K N Z (gPt Z i 1 + 1)) else 43 :: gBr 2 (K (gPt Z i 1)) (gTx n K N Z (gPt Z i 1))) := by rw [gTx_is n K N Z i hi]; unfold gpF; rw [hk]; rfl
      have hl4 := congrArg List.length hl3
      simp only [List.length_append] at hl4
      refine gg_aload_n dX10_printOne_106 1 rfl ?_
      refine gg_iload_n dX10_printOne_107 2 rfl ?_
      refine gg_iload_n dX10_printOne_108 0 rfl ?_
      refine gg_iconst dX10_printOne_109 ?_
      refine gg_callVv (own := RX10) (yt := gm_X10_printAs) rfl gl_RX10_281 gk_X10_printAs gr_X10_printAs dX10_printOne_110 ((c_X10_printAs hf hn (i := i + 1) (as := 1) (ac := 3) (d := d - 1) q1 (hW.2.2 _ q1).1 (by omega) (by omega) (ih (i + 1) q1 (by omega) (d - 1 - 1) (by omega))) I _ hM hg (by first | omega | (simp only [List.length_append, List.length_cons, List.length_nil]; omega))) sh_145 pl_145 (by decide) rfl rfl rfl (Nat.le_of_ble_eq_true rfl) (by show _ ≤ d; omega) ⟨Nat.le_refl _, Nat.le_refl _⟩ (fun μ' hc => ?_)
      obtain ⟨I9, rfl, g9, f9, h9⟩ := hc
      refine gg_aload_n dX10_printOne_113 1 rfl ?_
      refine gg_iload_n dX10_printOne_114 2 rfl ?_
      refine gg_iload_n dX10_printOne_115 3 rfl ?_
      refine gg_callVi (own := RX10) (yt := gm_X10_second) rfl gl_RX10_109 gk_X10_second gr_X10_second dX10_printOne_116 (c_X10_second (d := d - 1) hf (gMt_p hf hM (fun p a b => (f9 p a b).trans (rfl))) hW (i := i) q1) sh_145 pl_145 (by decide) rfl rfl rfl (Nat.le_of_ble_eq_true rfl) (by show _ ≤ d; omega) ⟨Nat.le_refl _, Nat.le_refl _⟩ (fun e11 μ' hc => ?_)
      obtain ⟨rfl, rfl⟩ := hc
      refine gg_istore (ls' := [(4, .int (iv (gPt Z i 1 : Int))), (3, .int (iv ((i + 1 : Nat) : Int))), (0, .ref (gad (gSS ad) 145)), (1, .int (iv (f : Int))), (2, .int (iv (i : Int)))]) dX10_printOne_119 (by decide) rfl ?_
      refine gg_aload_n dX10_printOne_121 2 rfl ?_
      refine gg_getR (k' := 147) rfl gf_RX10_15 dX10_printOne_122 sh_145 pl_145 (by decide) (by decide) rr_145_1 ?_
      refine gg_iload_n dX10_printOne_125 3 rfl ?_
      refine gg_aaldj (t := 6) f (k' := (148 + f)) dX10_printOne_126 sh_147 (by decide) pl_147 (by decide) rfl hf (rr_147 hf) ?_
      refine gg_iload dX10_printOne_127 0 rfl ?_
      refine gg_ialdj (gPt Z i 1) dX10_printOne_129 (rs_147 hf) (rl_147 hf) (by decide) rfl (by omega) ?_
      refine gg_toI (b := (K (gPt Z i 1) : Int)) ((gMt_p hf hM (fun p a b => (f9 p a b).trans (rfl))).2 (gPt Z i 1) q2).1 ?_
      refine gg_iconst dX10_printOne_130 ?_
      refine gg_icmp_ne (tgt := 138) dX10_printOne_131 (by decide) (by have := (hW.2.2 _ q2).1; omega) (fun hx => ?_) (fun hx => ?_)
      · have hx : ¬ K (gPt Z i 1) = 2 := by omega
        rw [if_neg hx] at hl3
        rw [hl3] at hB ⊢
        simp only [List.length_append, List.length_cons, List.length_nil] at hB
        refine gg_iconst dX10_printOne_138 ?_
        refine gg_istore (ls' := [(5, .int (iv 0)), (4, .int (iv (gPt Z i 1 : Int))), (3, .int (iv ((i + 1 : Nat) : Int))), (0, .ref (gad (gSS ad) 145)), (1, .int (iv (f : Int))), (2, .int (iv (i : Int)))]) dX10_printOne_139 (by decide) rfl ?_
        refine gg_aload_n dX10_printOne_141 3 rfl ?_
        refine gg_iload dX10_printOne_142 0 rfl ?_
        refine gg_if_eq_t (tgt := 152) dX10_printOne_144 (by decide) (by decide) (by decide) ?_
        refine gg_bipush dX10_printOne_152 (by decide) ?_
        refine gg_callVv (own := RX10) (yt := gm_X10_sign) rfl gl_RX10_264 gk_X10_sign gr_X10_sign dX10_printOne_154 (c_X10_sign (d := d - 1) (x := 43) g9 (by first | omega | (simp only [List.length_append, List.length_cons, List.length_nil]; omega))) sh_145 pl_145 (by decide) rfl rfl rfl (Nat.le_of_ble_eq_true rfl) (by show _ ≤ d; omega) ⟨Nat.le_refl _, Nat.le_refl _⟩ (fun μ' hc => ?_)
        obtain ⟨I12, rfl, g12, f12, h12⟩ := hc
        refine gg_aload_n dX10_printOne_157 3 rfl ?_
        refine gg_iload_n dX10_printOne_158 4 rfl ?_
        refine gg_iload dX10_printOne_159 0 rfl ?_
        refine gg_if_eq_t (tgt := 171) dX10_printOne_161 (by decide) (by decide) (by decide) ?_
        refine gg_iload dX10_printOne_171 1 rfl ?_
        refine gg_iconst dX10_printOne_173 ?_
        refine gg_callVv (own := RX10) (yt := gm_X10_printAs) rfl gl_RX10_281 gk_X10_printAs gr_X10_printAs dX10_printOne_174 ((c_X10_printAs hf hn (i := gPt Z i 1) (as := 2) (ac := 2) (d := d - 1) q2 (hW.2.2 _ q2).1 (by omega) (by omega) (ih (gPt Z i 1) q2 (by omega) (d - 1 - 1) (by omega))) I12 _ (gMt_p hf hM (fun p a b => (f12 p a b).trans ((f9 p a b).trans (rfl)))) g12 (by first | omega | (simp only [List.length_append, List.length_cons, List.length_nil]; omega))) sh_145 pl_145 (by decide) rfl rfl rfl (Nat.le_of_ble_eq_true rfl) (by show _ ≤ d; omega) ⟨Nat.le_refl _, Nat.le_refl _⟩ (fun μ' hc => ?_)
        obtain ⟨I14, rfl, g14, f14, h14⟩ := hc
        refine gg_goto (tgt := 305) dX10_printOne_177 (by decide) ?_
        refine gg_vretv dX10_printOne_305 rfl ⟨rfl, rfl⟩ ?_
        exact ⟨I14, rfl, (by simpa using g14), fun p a b => (f14 p a b).trans ((f12 p a b).trans ((f9 p a b).trans (rfl))), fun q a => (h14 q a).trans ((h12 q a).trans ((h9 q a).trans (rfl)))⟩
      · have hx : K (gPt Z i 1) = 2 := by omega
        rw [if_pos hx] at hl3
        rw [hl3] at hB ⊢
        simp only [List.length_append, List.length_cons, List.length_nil] at hB
        obtain ⟨-, -, -, -, e1, -, -, d1, -⟩ := hW.2.2 _ q2
        rw [hx] at e1 d1
        have e1 := e1 rfl
        have d1 := d1 (by decide)
        refine gg_iconst dX10_printOne_134 ?_
        refine gg_goto (tgt := 139) dX10_printOne_135 (by decide) ?_
        refine gg_istore (ls' := [(5, .int (iv 1)), (4, .int (iv (gPt Z i 1 : Int))), (3, .int (iv ((i + 1 : Nat) : Int))), (0, .ref (gad (gSS ad) 145)), (1, .int (iv (f : Int))), (2, .int (iv (i : Int)))]) dX10_printOne_139 (by decide) rfl ?_
        refine gg_aload_n dX10_printOne_141 3 rfl ?_
        refine gg_iload dX10_printOne_142 0 rfl ?_
        refine gg_if_eq_f (tgt := 152) dX10_printOne_144 (by decide) (by decide) (by decide) ?_
        refine gg_bipush dX10_printOne_147 (by decide) ?_
        refine gg_goto (tgt := 154) dX10_printOne_149 (by decide) ?_
        refine gg_callVv (own := RX10) (yt := gm_X10_sign) rfl gl_RX10_264 gk_X10_sign gr_X10_sign dX10_printOne_154 (c_X10_sign (d := d - 1) (x := 45) g9 (by first | omega | (simp only [List.length_append, List.length_cons, List.length_nil]; omega))) sh_145 pl_145 (by decide) rfl rfl rfl (Nat.le_of_ble_eq_true rfl) (by show _ ≤ d; omega) ⟨Nat.le_refl _, Nat.le_refl _⟩ (fun μ' hc => ?_)
        obtain ⟨I16, rfl, g16, f16, h16⟩ := hc
        refine gg_aload_n dX10_printOne_157 3 rfl ?_
        refine gg_iload_n dX10_printOne_158 4 rfl ?_
        refine gg_iload dX10_printOne_159 0 rfl ?_
        refine gg_if_eq_f (tgt := 171) dX10_printOne_161 (by decide) (by decide) (by decide) ?_
        refine gg_iload dX10_printOne_164 1 rfl ?_
        refine gg_iconst dX10_printOne_166 ?_
        refine gg_iadd dX10_printOne_167 ?_
        refine gg_goto (tgt := 173) dX10_printOne_168 (by decide) ?_
        refine gg_iconst dX10_printOne_173 ?_
        refine gg_callVv (own := RX10) (yt := gm_X10_printAs) rfl gl_RX10_281 gk_X10_printAs gr_X10_printAs dX10_printOne_174 ((c_X10_printAs hf hn (i := gPt Z i 1 + 1) (as := 2) (ac := 2) (d := d - 1) d1 (hW.2.2 _ d1).1 (by omega) (by omega) (ih (gPt Z i 1 + 1) d1 (by omega) (d - 1 - 1) (by omega))) I16 _ (gMt_p hf hM (fun p a b => (f16 p a b).trans ((f9 p a b).trans (rfl)))) g16 (by first | omega | (simp only [List.length_append, List.length_cons, List.length_nil]; omega))) sh_145 pl_145 (by decide) rfl rfl rfl (Nat.le_of_ble_eq_true rfl) (by show _ ≤ d; omega) ⟨Nat.le_refl _, Nat.le_refl _⟩ (fun μ' hc => ?_)
        obtain ⟨I18, rfl, g18, f18, h18⟩ := hc
        refine gg_goto (tgt := 305) dX10_printOne_177 (by decide) ?_
        refine gg_vretv dX10_printOne_305 rfl ⟨rfl, rfl⟩ ?_
        exact ⟨I18, rfl, (by simpa using g18), fun p a b => (f18 p a b).trans ((f16 p a b).trans ((f9 p a b).trans (rfl))), fun q a => (h18 q a).trans ((h16 q a).trans ((h9 q a).trans (rfl)))⟩
    · refine gg_toI (b := 4) (by omega) ?_
      refine gg_tsw (off := 168) (tgt := 180) dX10_printOne_12 (by decide) (by decide) rfl (by decide) ?_
      have q1 := hc1 (by rw [hk]; decide)
      have q2 := hc2 (by rw [hk]; decide)
      have hz := he2 (by rw [hk]; decide)
      have hT : gTx n K N Z i = gBr 2 (K (i + 1)) (gTx n K N Z (i + 1)) ++ 42 :: gBr 1 (K (gPt Z i 1)) (gTx n K N Z (gPt Z i 1)) := by rw [gTx_is n K N Z i hi]; unfold gpF; rw [hk]; simp
      rw [hT] at hB ⊢
      simp only [List.length_append, List.length_cons, List.length_nil] at hB
      refine gg_aload_n dX10_printOne_180 1 rfl ?_
      refine gg_iload_n dX10_printOne_181 2 rfl ?_
      refine gg_iload_n dX10_printOne_182 0 rfl ?_
      refine gg_iconst dX10_printOne_183 ?_
      refine gg_callVv (own := RX10) (yt := gm_X10_printAs) rfl gl_RX10_281 gk_X10_printAs gr_X10_printAs dX10_printOne_184 ((c_X10_printAs hf hn (i := i + 1) (as := 2) (ac := 2) (d := d - 1) q1 (hW.2.2 _ q1).1 (by omega) (by omega) (ih (i + 1) q1 (by omega) (d - 1 - 1) (by omega))) I _ hM hg (by first | omega | (simp only [List.length_append, List.length_cons, List.length_nil]; omega))) sh_145 pl_145 (by decide) rfl rfl rfl (Nat.le_of_ble_eq_true rfl) (by show _ ≤ d; omega) ⟨Nat.le_refl _, Nat.le_refl _⟩ (fun μ' hc => ?_)
      obtain ⟨I20, rfl, g20, f20, h20⟩ := hc
      refine gg_aload_n dX10_printOne_187 1 rfl ?_
      refine gg_bipush dX10_printOne_188 (by decide) ?_
      refine gg_callVv (own := RX10) (yt := gm_X10_sign) rfl gl_RX10_264 gk_X10_sign gr_X10_sign dX10_printOne_190 (c_X10_sign (d := d - 1) (x := 42) g20 (by first | omega | (simp only [List.length_append, List.length_cons, List.length_nil]; omega))) sh_145 pl_145 (by decide) rfl rfl rfl (Nat.le_of_ble_eq_true rfl) (by show _ ≤ d; omega) ⟨Nat.le_refl _, Nat.le_refl _⟩ (fun μ' hc => ?_)
      obtain ⟨I22, rfl, g22, f22, h22⟩ := hc
      refine gg_aload_n dX10_printOne_193 1 rfl ?_
      refine gg_iload_n dX10_printOne_194 2 rfl ?_
      refine gg_aload_n dX10_printOne_195 1 rfl ?_
      refine gg_iload_n dX10_printOne_196 2 rfl ?_
      refine gg_iload_n dX10_printOne_197 3 rfl ?_
      refine gg_callVi (own := RX10) (yt := gm_X10_second) rfl gl_RX10_109 gk_X10_second gr_X10_second dX10_printOne_198 (c_X10_second (d := d - 1) hf (gMt_p hf hM (fun p a b => (f22 p a b).trans ((f20 p a b).trans (rfl)))) hW (i := i) q1) sh_145 pl_145 (by decide) rfl rfl rfl (Nat.le_of_ble_eq_true rfl) (by show _ ≤ d; omega) ⟨Nat.le_refl _, Nat.le_refl _⟩ (fun e24 μ' hc => ?_)
      obtain ⟨rfl, rfl⟩ := hc
      refine gg_iconst dX10_printOne_201 ?_
      refine gg_callVv (own := RX10) (yt := gm_X10_printAs) rfl gl_RX10_281 gk_X10_printAs gr_X10_printAs dX10_printOne_202 ((c_X10_printAs hf hn (i := gPt Z i 1) (as := 3) (ac := 1) (d := d - 1) q2 (hW.2.2 _ q2).1 (by omega) (by omega) (ih (gPt Z i 1) q2 (by omega) (d - 1 - 1) (by omega))) I22 _ (gMt_p hf hM (fun p a b => (f22 p a b).trans ((f20 p a b).trans (rfl)))) g22 (by first | omega | (simp only [List.length_append, List.length_cons, List.length_nil]; omega))) sh_145 pl_145 (by decide) rfl rfl rfl (Nat.le_of_ble_eq_true rfl) (by show _ ≤ d; omega) ⟨Nat.le_refl _, Nat.le_refl _⟩ (fun μ' hc => ?_)
      obtain ⟨I25, rfl, g25, f25, h25⟩ := hc
      refine gg_goto (tgt := 305) dX10_printOne_205 (by decide) ?_
      refine gg_vretv dX10_printOne_305 rfl ⟨rfl, rfl⟩ ?_
      exact ⟨I25, rfl, (by simpa using g25), fun p a b => (f25 p a b).trans ((f22 p a b).trans ((f20 p a b).trans (rfl))), fun q a => (h25 q a).trans ((h22 q a).trans ((h20 q a).trans (rfl)))⟩
    · refine gg_toI (b := 5) (by omega) ?_
      refine gg_tsw (off := 196) (tgt := 208) dX10_printOne_12 (by decide) (by decide) rfl (by decide) ?_
      have q1 := hc1 (by rw [hk]; decide)
      have hz := he1 (by rw [hk]; decide)
      have hT : gTx n K N Z i = gBr 1 (K (i + 1)) (gTx n K N Z (i + 1)) ++ [94, 48 + gl2i (N i)] := by rw [gTx_is n K N Z i hi]; unfold gpF; rw [hk]; simp
      rw [hT] at hB ⊢
      simp only [List.length_append, List.length_cons, List.length_nil] at hB
      refine gg_aload_n dX10_printOne_208 1 rfl ?_
      refine gg_iload_n dX10_printOne_209 2 rfl ?_
      refine gg_iload_n dX10_printOne_210 0 rfl ?_
      refine gg_iconst dX10_printOne_211 ?_
      refine gg_callVv (own := RX10) (yt := gm_X10_printAs) rfl gl_RX10_281 gk_X10_printAs gr_X10_printAs dX10_printOne_212 ((c_X10_printAs hf hn (i := i + 1) (as := 3) (ac := 1) (d := d - 1) q1 (hW.2.2 _ q1).1 (by omega) (by omega) (ih (i + 1) q1 (by omega) (d - 1 - 1) (by omega))) I _ hM hg (by first | omega | (simp only [List.length_append, List.length_cons, List.length_nil]; omega))) sh_145 pl_145 (by decide) rfl rfl rfl (Nat.le_of_ble_eq_true rfl) (by show _ ≤ d; omega) ⟨Nat.le_refl _, Nat.le_refl _⟩ (fun μ' hc => ?_)
      obtain ⟨I27, rfl, g27, f27, h27⟩ := hc
      refine gg_aload_n dX10_printOne_215 1 rfl ?_
      refine gg_bipush dX10_printOne_216 (by decide) ?_
      refine gg_callVv (own := RX10) (yt := gm_X10_sign) rfl gl_RX10_264 gk_X10_sign gr_X10_sign dX10_printOne_218 (c_X10_sign (d := d - 1) (x := 94) g27 (by first | omega | (simp only [List.length_append, List.length_cons, List.length_nil]; omega))) sh_145 pl_145 (by decide) rfl rfl rfl (Nat.le_of_ble_eq_true rfl) (by show _ ≤ d; omega) ⟨Nat.le_refl _, Nat.le_refl _⟩ (fun μ' hc => ?_)
      obtain ⟨I29, rfl, g29, f29, h29⟩ := hc
      refine gg_aload_n dX10_printOne_221 1 rfl ?_
      refine gg_bipush dX10_printOne_222 (by decide) ?_
      refine gg_aload_n dX10_printOne_224 1 rfl ?_
      refine gg_getR (k' := 160) rfl gf_RX10_20 dX10_printOne_225 sh_145 pl_145 (by decide) (by decide) rr_145_2 ?_
      refine gg_iload_n dX10_printOne_228 2 rfl ?_
      refine gg_aaldj (t := 7) f (k' := (161 + f)) dX10_printOne_229 sh_160 (by decide) pl_160 (by decide) rfl hf (rr_160 hf) ?_
      refine gg_iload_n dX10_printOne_230 3 rfl ?_
      refine gg_laldj i dX10_printOne_231 (rs_160 hf) (rl_160 hf) (by decide) rfl (by omega) ?_
      refine gg_toL (b := N i) ((gMt_p hf hM (fun p a b => (f29 p a b).trans ((f27 p a b).trans (rfl)))).2 i hi).2.1 ?_
      refine gg_l2i dX10_printOne_232 ?_
      refine gg_iadd dX10_printOne_233 ?_
      refine gg_callVv (own := RX10) (yt := gm_X10_sign) rfl gl_RX10_264 gk_X10_sign gr_X10_sign dX10_printOne_234 (c_X10_sign (d := d - 1) (x := (48 + (gl2i (N i)))) g29 (by first | omega | (simp only [List.length_append, List.length_cons, List.length_nil]; omega))) sh_145 pl_145 (by decide) rfl rfl rfl (Nat.le_of_ble_eq_true rfl) (by show _ ≤ d; omega) ⟨Nat.le_refl _, Nat.le_refl _⟩ (fun μ' hc => ?_)
      obtain ⟨I31, rfl, g31, f31, h31⟩ := hc
      refine gg_goto (tgt := 305) dX10_printOne_237 (by decide) ?_
      refine gg_vretv dX10_printOne_305 rfl ⟨rfl, rfl⟩ ?_
      exact ⟨I31, rfl, (by simpa using g31), fun p a b => (f31 p a b).trans ((f29 p a b).trans ((f27 p a b).trans (rfl))), fun q a => (h31 q a).trans ((h29 q a).trans ((h27 q a).trans (rfl)))⟩
    · refine gg_toI (b := 6) (by omega) ?_
      refine gg_tsw (off := 228) (tgt := 240) dX10_printOne_12 (by decide) (by decide) rfl (by decide) ?_
      have q1 := hc1 (by rw [hk]; decide)
      have q2 := hc2 (by rw [hk]; decide)
      have q3 := hc3 (by rw [hk]; decide)
      have hz := he3 (by rw [hk]; decide)
      have hT : gTx n K N Z i = gBr 3 (K (i + 1)) (gTx n K N Z (i + 1)) ++ 63 :: (gBr 3 (K (gPt Z i 1)) (gTx n K N Z (gPt Z i 1)) ++ 58 :: gBr 3 (K (gPt Z i 2)) (gTx n K N Z (gPt Z i 2))) := by rw [gTx_is n K N Z i hi]; unfold gpF; rw [hk]; simp
      rw [hT] at hB ⊢
      simp only [List.length_append, List.length_cons, List.length_nil] at hB
      refine gg_aload_n dX10_printOne_240 1 rfl ?_
      refine gg_iload_n dX10_printOne_241 2 rfl ?_
      refine gg_iload_n dX10_printOne_242 0 rfl ?_
      refine gg_iconst dX10_printOne_243 ?_
      refine gg_callVv (own := RX10) (yt := gm_X10_printAs) rfl gl_RX10_281 gk_X10_printAs gr_X10_printAs dX10_printOne_244 ((c_X10_printAs hf hn (i := i + 1) (as := 1) (ac := 3) (d := d - 1) q1 (hW.2.2 _ q1).1 (by omega) (by omega) (ih (i + 1) q1 (by omega) (d - 1 - 1) (by omega))) I _ hM hg (by first | omega | (simp only [List.length_append, List.length_cons, List.length_nil]; omega))) sh_145 pl_145 (by decide) rfl rfl rfl (Nat.le_of_ble_eq_true rfl) (by show _ ≤ d; omega) ⟨Nat.le_refl _, Nat.le_refl _⟩ (fun μ' hc => ?_)
      obtain ⟨I33, rfl, g33, f33, h33⟩ := hc
      refine gg_aload_n dX10_printOne_247 1 rfl ?_
      refine gg_bipush dX10_printOne_248 (by decide) ?_
      refine gg_callVv (own := RX10) (yt := gm_X10_sign) rfl gl_RX10_264 gk_X10_sign gr_X10_sign dX10_printOne_250 (c_X10_sign (d := d - 1) (x := 63) g33 (by first | omega | (simp only [List.length_append, List.length_cons, List.length_nil]; omega))) sh_145 pl_145 (by decide) rfl rfl rfl (Nat.le_of_ble_eq_true rfl) (by show _ ≤ d; omega) ⟨Nat.le_refl _, Nat.le_refl _⟩ (fun μ' hc => ?_)
      obtain ⟨I35, rfl, g35, f35, h35⟩ := hc
      refine gg_aload_n dX10_printOne_253 1 rfl ?_
      refine gg_iload_n dX10_printOne_254 2 rfl ?_
      refine gg_aload_n dX10_printOne_255 1 rfl ?_
      refine gg_iload_n dX10_printOne_256 2 rfl ?_
      refine gg_iload_n dX10_printOne_257 3 rfl ?_
      refine gg_callVi (own := RX10) (yt := gm_X10_second) rfl gl_RX10_109 gk_X10_second gr_X10_second dX10_printOne_258 (c_X10_second (d := d - 1) hf (gMt_p hf hM (fun p a b => (f35 p a b).trans ((f33 p a b).trans (rfl)))) hW (i := i) q1) sh_145 pl_145 (by decide) rfl rfl rfl (Nat.le_of_ble_eq_true rfl) (by show _ ≤ d; omega) ⟨Nat.le_refl _, Nat.le_refl _⟩ (fun e37 μ' hc => ?_)
      obtain ⟨rfl, rfl⟩ := hc
      refine gg_iconst dX10_printOne_261 ?_
      refine gg_callVv (own := RX10) (yt := gm_X10_printAs) rfl gl_RX10_281 gk_X10_printAs gr_X10_printAs dX10_printOne_262 ((c_X10_printAs hf hn (i := gPt Z i 1) (as := 1) (ac := 3) (d := d - 1) q2 (hW.2.2 _ q2).1 (by omega) (by omega) (ih (gPt Z i 1) q2 (by omega) (d - 1 - 1) (by omega))) I35 _ (gMt_p hf hM (fun p a b => (f35 p a b).trans ((f33 p a b).trans (rfl)))) g35 (by first | omega | (simp only [List.length_append, List.length_cons, List.length_nil]; omega))) sh_145 pl_145 (by decide) rfl rfl rfl (Nat.le_of_ble_eq_true rfl) (by show _ ≤ d; omega) ⟨Nat.le_refl _, Nat.le_refl _⟩ (fun μ' hc => ?_)
      obtain ⟨I38, rfl, g38, f38, h38⟩ := hc
      refine gg_aload_n dX10_printOne_265 1 rfl ?_
      refine gg_bipush dX10_printOne_266 (by decide) ?_
      refine gg_callVv (own := RX10) (yt := gm_X10_sign) rfl gl_RX10_264 gk_X10_sign gr_X10_sign dX10_printOne_268 (c_X10_sign (d := d - 1) (x := 58) g38 (by first | omega | (simp only [List.length_append, List.length_cons, List.length_nil]; omega))) sh_145 pl_145 (by decide) rfl rfl rfl (Nat.le_of_ble_eq_true rfl) (by show _ ≤ d; omega) ⟨Nat.le_refl _, Nat.le_refl _⟩ (fun μ' hc => ?_)
      obtain ⟨I40, rfl, g40, f40, h40⟩ := hc
      refine gg_aload_n dX10_printOne_271 1 rfl ?_
      refine gg_iload_n dX10_printOne_272 2 rfl ?_
      refine gg_aload_n dX10_printOne_273 1 rfl ?_
      refine gg_iload_n dX10_printOne_274 2 rfl ?_
      refine gg_iload_n dX10_printOne_275 3 rfl ?_
      refine gg_callVi (own := RX10) (yt := gm_X10_third) rfl gl_RX10_233 gk_X10_third gr_X10_third dX10_printOne_276 (c_X10_third (d := d - 1) hf (gMt_p hf hM (fun p a b => (f40 p a b).trans ((f38 p a b).trans ((f35 p a b).trans ((f33 p a b).trans (rfl)))))) hW (i := i) q1 q2 (by omega)) sh_145 pl_145 (by decide) rfl rfl rfl (Nat.le_of_ble_eq_true rfl) (by show _ ≤ d; omega) ⟨Nat.le_refl _, Nat.le_refl _⟩ (fun e42 μ' hc => ?_)
      obtain ⟨rfl, rfl⟩ := hc
      refine gg_iconst dX10_printOne_279 ?_
      refine gg_callVv (own := RX10) (yt := gm_X10_printAs) rfl gl_RX10_281 gk_X10_printAs gr_X10_printAs dX10_printOne_280 ((c_X10_printAs hf hn (i := gPt Z i 2) (as := 1) (ac := 3) (d := d - 1) q3 (hW.2.2 _ q3).1 (by omega) (by omega) (ih (gPt Z i 2) q3 (by omega) (d - 1 - 1) (by omega))) I40 _ (gMt_p hf hM (fun p a b => (f40 p a b).trans ((f38 p a b).trans ((f35 p a b).trans ((f33 p a b).trans (rfl)))))) g40 (by first | omega | (simp only [List.length_append, List.length_cons, List.length_nil]; omega))) sh_145 pl_145 (by decide) rfl rfl rfl (Nat.le_of_ble_eq_true rfl) (by show _ ≤ d; omega) ⟨Nat.le_refl _, Nat.le_refl _⟩ (fun μ' hc => ?_)
      obtain ⟨I43, rfl, g43, f43, h43⟩ := hc
      refine gg_goto (tgt := 305) dX10_printOne_283 (by decide) ?_
      refine gg_vretv dX10_printOne_305 rfl ⟨rfl, rfl⟩ ?_
      exact ⟨I43, rfl, (by simpa using g43), fun p a b => (f43 p a b).trans ((f40 p a b).trans ((f38 p a b).trans ((f35 p a b).trans ((f33 p a b).trans (rfl))))), fun q a => (h43 q a).trans ((h40 q a).trans ((h38 q a).trans ((h35 q a).trans ((h33 q a).trans (rfl)))))⟩
    · refine gg_toI (b := 7) (by omega) ?_
      refine gg_tsw_out (tgt := 286) dX10_printOne_12 (by decide) (by decide) (by decide) ?_
      have q1 := hc1 (by rw [hk]; decide)
      have hz := he1 (by rw [hk]; decide)
      have hT : gTx n K N Z i = 91 :: (gBr 4 (K (i + 1)) (gTx n K N Z (i + 1)) ++ [93]) := by rw [gTx_is n K N Z i hi]; unfold gpF; rw [hk]; simp
      rw [hT] at hB ⊢
      simp only [List.length_append, List.length_cons, List.length_nil] at hB
      refine gg_aload_n dX10_printOne_286 1 rfl ?_
      refine gg_bipush dX10_printOne_287 (by decide) ?_
      refine gg_callVv (own := RX10) (yt := gm_X10_sign) rfl gl_RX10_264 gk_X10_sign gr_X10_sign dX10_printOne_289 (c_X10_sign (d := d - 1) (x := 91) hg (by first | omega | (simp only [List.length_append, List.length_cons, List.length_nil]; omega))) sh_145 pl_145 (by decide) rfl rfl rfl (Nat.le_of_ble_eq_true rfl) (by show _ ≤ d; omega) ⟨Nat.le_refl _, Nat.le_refl _⟩ (fun μ' hc => ?_)
      obtain ⟨I45, rfl, g45, f45, h45⟩ := hc
      refine gg_aload_n dX10_printOne_292 1 rfl ?_
      refine gg_iload_n dX10_printOne_293 2 rfl ?_
      refine gg_iload_n dX10_printOne_294 0 rfl ?_
      refine gg_iconst dX10_printOne_295 ?_
      refine gg_callVv (own := RX10) (yt := gm_X10_printAs) rfl gl_RX10_281 gk_X10_printAs gr_X10_printAs dX10_printOne_296 ((c_X10_printAs hf hn (i := i + 1) (as := 0) (ac := 4) (d := d - 1) q1 (hW.2.2 _ q1).1 (by omega) (by omega) (ih (i + 1) q1 (by omega) (d - 1 - 1) (by omega))) I45 _ (gMt_p hf hM (fun p a b => (f45 p a b).trans (rfl))) g45 (by first | omega | (simp only [List.length_append, List.length_cons, List.length_nil]; omega))) sh_145 pl_145 (by decide) rfl rfl rfl (Nat.le_of_ble_eq_true rfl) (by show _ ≤ d; omega) ⟨Nat.le_refl _, Nat.le_refl _⟩ (fun μ' hc => ?_)
      obtain ⟨I47, rfl, g47, f47, h47⟩ := hc
      refine gg_aload_n dX10_printOne_299 1 rfl ?_
      refine gg_bipush dX10_printOne_300 (by decide) ?_
      refine gg_callVv (own := RX10) (yt := gm_X10_sign) rfl gl_RX10_264 gk_X10_sign gr_X10_sign dX10_printOne_302 (c_X10_sign (d := d - 1) (x := 93) g47 (by first | omega | (simp only [List.length_append, List.length_cons, List.length_nil]; omega))) sh_145 pl_145 (by decide) rfl rfl rfl (Nat.le_of_ble_eq_true rfl) (by show _ ≤ d; omega) ⟨Nat.le_refl _, Nat.le_refl _⟩ (fun μ' hc => ?_)
      obtain ⟨I49, rfl, g49, f49, h49⟩ := hc
      refine gg_vretv dX10_printOne_305 rfl ⟨rfl, rfl⟩ ?_
      exact ⟨I49, rfl, (by simpa using g49), fun p a b => (f49 p a b).trans ((f47 p a b).trans ((f45 p a b).trans (rfl))), fun q a => (h49 q a).trans ((h47 q a).trans ((h45 q a).trans (rfl)))⟩

set_option maxRecDepth 10000 in
theorem c_X10_print {l : Launch} {Γ : gC} {ad : Nat → Nat} {I : Nat → Nat → Int} {J : Nat → Nat → Int64} {d : Nat} {f n : Nat} {K : Nat → Nat} {N : Nat → Int64} {Z : Nat → Nat} (hf : f < 12) (hM : gMt I J f n K N Z) (hW : gWf n K N Z) {k : Int} (hk : -2147483648 ≤ k ∧ k ≤ 2147483647) (hd : 2 * n + 5 ≤ d) : gKi l Γ gm_X10_print d [.ref (gad (gSS ad) 145), .int (iv (f : Int)), .int (iv k)] (gSS ad, I, J) (fun e μ => ∃ I', μ = (gSS ad, I', J) ∧ (∀ p, p ≠ 145 → p ≠ 191 → I' p = I p) ∧ (∀ q, q ≠ 19 → I' 145 q = I 145 q) ∧ e = gPrt n K N Z k) := by
  refine gKi_of gk_X10_print.1 (Nat.le_of_ble_eq_true rfl) ?_
  show gG l Γ gm_X10_print (d, 0, 0, 0, 0) 0 [(0, .ref (gad (gSS ad) 145)), (1, .int (iv (f : Int))), (2, .int (iv k))] [] _ _
  refine gg_aload_n dX10_print_0 0 rfl ?_
  refine gg_iload_n dX10_print_1 1 rfl ?_
  refine gg_callVi (own := RX10) (yt := gm_X10_refusal) rfl gl_RX10_247 gk_X10_refusal gr_X10_refusal dX10_print_2 (c_X10_refusal (d := d - 1) hf hM hW (by omega)) sh_145 pl_145 (by decide) rfl rfl rfl (Nat.le_of_ble_eq_true rfl) (by show _ ≤ d; omega) ⟨Nat.le_refl _, Nat.le_refl _⟩ (fun e1 μ' hc => ?_)
  obtain ⟨rfl, ⟨rfl, hn0⟩ | ⟨rfl, hn0⟩⟩ := hc
  · refine gg_istore_n (ls' := [(3, .int (iv (-3))), (0, .ref (gad (gSS ad) 145)), (1, .int (iv (f : Int))), (2, .int (iv k))]) dX10_print_5 rfl (by decide) rfl ?_
    refine gg_iload_n dX10_print_6 0 rfl ?_
    refine gg_if_eq_f (tgt := 12) dX10_print_7 (by decide) (by decide) (by decide) ?_
    refine gg_iload_n dX10_print_10 0 rfl ?_
    refine gg_ireti dX10_print_11 rfl ⟨rfl, rfl⟩ ?_
    exact ⟨I, rfl, fun _ _ _ => rfl, fun _ _ => rfl, by unfold gPrt; rw [if_pos hn0]⟩
  · refine gg_istore_n (ls' := [(3, .int (iv 0)), (0, .ref (gad (gSS ad) 145)), (1, .int (iv (f : Int))), (2, .int (iv k))]) dX10_print_5 rfl (by decide) rfl ?_
    refine gg_iload_n dX10_print_6 0 rfl ?_
    refine gg_if_eq_t (tgt := 12) dX10_print_7 (by decide) (by decide) (by decide) ?_
    refine gg_aload_n dX10_print_12 1 rfl ?_
    refine gg_iconst dX10_print_13 ?_
    refine gg_putI rfl gf_RX10_261 dX10_print_14 sh_145 pl_145 (by decide) (by decide) (by decide) (gfit_i _) ?_
    refine gg_aload_n dX10_print_17 1 rfl ?_
    refine gg_iload_n dX10_print_18 2 rfl ?_
    refine gg_iconst dX10_print_19 ?_
    refine gg_callVv (own := RX10) (yt := gm_X10_printOne) rfl gl_RX10_274 gk_X10_printOne gr_X10_printOne dX10_print_20 (r_X10_printOne hf hW n 0 (by omega) (by rw [hW.2.1 (by omega)]; exact Nat.le_refl _) (d - 1) (by omega) (gu I 145 19 0) [] (gMt_c hf hM) ⟨gu_s, gLst_nil⟩ (by simp only [List.length_nil]; have := (gP_len hW 0 (by omega)).2; have := hW.2.1 (by omega); have := hW.1; omega)) sh_145 pl_145 (by decide) rfl rfl rfl (Nat.le_of_ble_eq_true rfl) (by show _ ≤ d; omega) ⟨Nat.le_refl _, Nat.le_refl _⟩ (fun μ' hc => ?_)
    obtain ⟨I2, rfl, g2, hI2, hI3⟩ := hc
    rw [List.nil_append] at g2
    have hlen : (gTx n K N Z 0).length ≤ 4796 := by have := (gP_len hW 0 (by omega)).2; have := hW.2.1 (by omega); have := hW.1; omega
    refine gg_iload_n dX10_print_23 3 rfl ?_
    refine gg_iconst dX10_print_24 ?_
    refine gg_icmp_ne (tgt := 33) dX10_print_25 (by decide) (by omega) (fun hb1 => ?_) (fun hb1 => ?_)
    · refine gg_iload_n dX10_print_33 3 rfl ?_
      refine gg_iconst dX10_print_34 ?_
      refine gg_aload_n dX10_print_35 1 rfl ?_
      refine gg_getI rfl gf_RX10_261 dX10_print_36 sh_145 pl_145 (by decide) (by decide) ?_
      refine gg_toI (b := ((gTx n K N Z 0).length : Int)) g2.1 ?_
      refine gg_iconst dX10_print_39 ?_
      refine gg_isub dX10_print_40 ?_
      refine gg_callSi (own := RX10) (yt := gm_X10_in) rfl gl_RX10_84 gk_X10_in gr_X10_in dX10_print_41 (c_X10_in (d := d - 1) (by omega)) rfl rfl (Nat.le_of_ble_eq_true rfl) (by show _ ≤ d; omega) ⟨Nat.le_refl _, Nat.le_refl _⟩ (fun e3 μ' hc => ?_)
      obtain ⟨rfl, ⟨rfl, hb4⟩ | ⟨rfl, hb4⟩⟩ := hc
      · refine gg_if_eq_f (tgt := 56) dX10_print_44 (by decide) (by decide) (by decide) ?_
        refine gg_aload_n dX10_print_47 1 rfl ?_
        refine gg_getR (k' := 191) rfl gf_RX10_42 dX10_print_48 sh_145 pl_145 (by decide) (by decide) rr_145_18 ?_
        refine gg_iload_n dX10_print_51 3 rfl ?_
        refine gg_ialdj k.toNat dX10_print_52 sh_191 pl_191 (by decide) (by omega) (by omega) ?_
        refine gg_goto (tgt := 58) dX10_print_53 (by decide) ?_
        refine gg_ireti dX10_print_58 rfl ⟨rfl, rfl⟩ ?_
        exact ⟨I2, rfl, fun p a b => (hI2 p a b).trans (gu_other a), fun q a => (hI3 q a).trans (gu_n (by omega)), by unfold gPrt; rw [if_neg hn0, if_neg (by omega), if_neg (by omega)]; exact gLst_getD g2.2 (by omega)⟩
      · refine gg_if_eq_t (tgt := 56) dX10_print_44 (by decide) (by decide) (by decide) ?_
        refine gg_bipush dX10_print_56 (by decide) ?_
        refine gg_ireti dX10_print_58 rfl ⟨rfl, rfl⟩ ?_
        exact ⟨I2, rfl, fun p a b => (hI2 p a b).trans (gu_other a), fun q a => (hI3 q a).trans (gu_n (by omega)), by unfold gPrt; rw [if_neg hn0, if_pos (by omega)]⟩
    · refine gg_aload_n dX10_print_28 1 rfl ?_
      refine gg_getI rfl gf_RX10_261 dX10_print_29 sh_145 pl_145 (by decide) (by decide) ?_
      refine gg_toI (b := ((gTx n K N Z 0).length : Int)) g2.1 ?_
      refine gg_ireti dX10_print_32 rfl ⟨rfl, rfl⟩ ?_
      exact ⟨I2, rfl, fun p a b => (hI2 p a b).trans (gu_other a), fun q a => (hI3 q a).trans (gu_n (by omega)), by unfold gPrt; rw [if_neg hn0, if_neg (by omega), if_pos (by omega)]⟩

set_option maxRecDepth 10000 in
theorem c_X10_print_out {l : Launch} {Γ : gC} {ad : Nat → Nat} {I : Nat → Nat → Int} {J : Nat → Nat → Int64} {d : Nat} {i k : Int} (hi : -2147483648 ≤ i ∧ i ≤ 2147483647) (ho : ¬ (0 ≤ i ∧ i ≤ 11)) (hd : 3 ≤ d) : gKi l Γ gm_X10_print d [.ref (gad (gSS ad) 145), .int (iv i), .int (iv k)] (gSS ad, I, J) (fun e μ => μ = (gSS ad, I, J) ∧ e = -2) := by
  refine gKi_of gk_X10_print.1 (Nat.le_of_ble_eq_true rfl) ?_
  show gG l Γ gm_X10_print (d, 0, 0, 0, 0) 0 [(0, .ref (gad (gSS ad) 145)), (1, .int (iv i)), (2, .int (iv k))] [] _ _
  refine gg_aload_n dX10_print_0 0 rfl ?_
  refine gg_iload_n dX10_print_1 1 rfl ?_
  refine gg_callVi (own := RX10) (yt := gm_X10_refusal) rfl gl_RX10_247 gk_X10_refusal gr_X10_refusal dX10_print_2 (c_X10_refusal_out (d := d - 1) hi ho (by omega)) sh_145 pl_145 (by decide) rfl rfl rfl (Nat.le_of_ble_eq_true rfl) (by show _ ≤ d; omega) ⟨Nat.le_refl _, Nat.le_refl _⟩ (fun e1 μ' hc => ?_)
  obtain ⟨rfl, rfl⟩ := hc
  refine gg_istore_n (ls' := [(3, .int (iv (-2))), (0, .ref (gad (gSS ad) 145)), (1, .int (iv i)), (2, .int (iv k))]) dX10_print_5 rfl (by decide) rfl ?_
  refine gg_iload_n dX10_print_6 0 rfl ?_
  refine gg_if_eq_f (tgt := 12) dX10_print_7 (by decide) (by decide) (by decide) ?_
  refine gg_iload_n dX10_print_10 0 rfl ?_
  refine gg_ireti dX10_print_11 rfl ⟨rfl, rfl⟩ ?_
  exact ⟨rfl, rfl⟩

