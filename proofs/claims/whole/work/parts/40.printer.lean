/-! the class's printer -/
theorem gLs_split : ∀ (R : List Int), R = [] ∨ ∃ R1 t, R = R1 ++ [t]
  | [] => Or.inl rfl
  | x :: R => by
    rcases gLs_split R with rfl | ⟨R1, t, rfl⟩
    · exact Or.inr ⟨[], x, rfl⟩
    · exact Or.inr ⟨x :: R1, t, rfl⟩
theorem gLst_getD {I : Nat → Nat → Int} {p : Nat} {l : List Int} (h : gLst I p l) {q : Nat} (hq : q < l.length) : I p q = l.getD q 0 := by
  refine h q _ ?_
  rw [List.getD_eq_getElem?_getD, List.getElem?_eq_getElem hq]
  rfl
theorem g64r {a : Int} (h : -9223372036854775808 ≤ a ∧ a ≤ 9223372036854775807) : a.bmod (2 ^ 64) = a := by
  apply Int.bmod_eq_of_le <;> omega
theorem g64div (x : Int64) : (x / 10).toInt = x.toInt.tdiv 10 := by
  have h := g64 x
  have e : (10 : Int64).toInt = 10 := by decide
  rw [Int64.toInt_div, e]
  apply g64r
  rcases Int.le_total 0 x.toInt with h0 | h0
  · rw [Int.tdiv_eq_ediv_of_nonneg h0]
    omega
  · have e2 : x.toInt.tdiv 10 = -((-x.toInt) / 10) := by
      rw [← Int.tdiv_eq_ediv_of_nonneg (show 0 ≤ -x.toInt by omega), Int.neg_tdiv, Int.neg_neg]
    rw [e2]
    omega
theorem gdivAbs (x : Int64) : (x / 10).toInt.natAbs = x.toInt.natAbs / 10 := by
  rw [g64div]
  rcases Int.le_total 0 x.toInt with h0 | h0
  · rw [Int.tdiv_eq_ediv_of_nonneg h0]
    omega
  · have e2 : x.toInt.tdiv 10 = -((-x.toInt) / 10) := by
      rw [← Int.tdiv_eq_ediv_of_nonneg (show 0 ≤ -x.toInt by omega), Int.neg_tdiv, Int.neg_neg]
    rw [e2]
    omega
theorem gremInt (x : Int64) : (x - x / 10 * 10).toInt = x.toInt - x.toInt.tdiv 10 * 10 ∧ (x - x / 10 * 10).toInt.natAbs = x.toInt.natAbs % 10 ∧ (0 ≤ x.toInt → 0 ≤ (x - x / 10 * 10).toInt) ∧ (x.toInt ≤ 0 → (x - x / 10 * 10).toInt ≤ 0) := by
  have h := g64 x
  have e : (10 : Int64).toInt = 10 := by decide
  have e1 : (x / 10 * 10).toInt = x.toInt.tdiv 10 * 10 := by
    rw [Int64.toInt_mul, g64div, e]
    apply g64r
    rcases Int.le_total 0 x.toInt with h0 | h0
    · rw [Int.tdiv_eq_ediv_of_nonneg h0]
      omega
    · have e2 : x.toInt.tdiv 10 = -((-x.toInt) / 10) := by
        rw [← Int.tdiv_eq_ediv_of_nonneg (show 0 ≤ -x.toInt by omega), Int.neg_tdiv, Int.neg_neg]
      rw [e2]
      omega
  have e3 : (x - x / 10 * 10).toInt = x.toInt - x.toInt.tdiv 10 * 10 := by
    rw [Int64.toInt_sub, e1]
    apply g64r
    rcases Int.le_total 0 x.toInt with h0 | h0
    · rw [Int.tdiv_eq_ediv_of_nonneg h0]
      omega
    · have e2 : x.toInt.tdiv 10 = -((-x.toInt) / 10) := by
        rw [← Int.tdiv_eq_ediv_of_nonneg (show 0 ≤ -x.toInt by omega), Int.neg_tdiv, Int.neg_neg]
      rw [e2]
      omega
  refine ⟨e3, ?_⟩
  rw [e3]
  rcases Int.le_total 0 x.toInt with h0 | h0
  · rw [Int.tdiv_eq_ediv_of_nonneg h0]
    omega
  · have e2 : x.toInt.tdiv 10 = -((-x.toInt) / 10) := by
      rw [← Int.tdiv_eq_ediv_of_nonneg (show 0 ≤ -x.toInt by omega), Int.neg_tdiv, Int.neg_neg]
    rw [e2]
    omega
theorem gl2i_toInt {x : Int64} (h : -2147483648 ≤ x.toInt ∧ x.toInt ≤ 2147483647) : gl2i x = x.toInt := by
  unfold gl2i
  rw [Int64.toInt_toInt32]
  apply Int.bmod_eq_of_le <;> omega
theorem gabs10 (x : Int64) : gl2i (if 0 < (x - x / 10 * 10) then (x - x / 10 * 10) else -(x - x / 10 * 10)) = ((x.toInt.natAbs % 10 : Nat) : Int) := by
  obtain ⟨-, h2, -, -⟩ := gremInt x
  generalize x - x / 10 * 10 = y at *
  have hy : y.toInt.natAbs ≤ 9 := by omega
  have z : (0 : Int64).toInt = 0 := by decide
  split
  · rename_i h
    have h0 : 0 < y.toInt := by
      have := Int64.lt_iff_toInt_lt.mp h
      rwa [z] at this
    rw [gl2i_toInt (by omega)]
    omega
  · rename_i h
    have h0 : y.toInt ≤ 0 := by
      have h3 : ¬ (0 : Int64).toInt < y.toInt := fun g => h (Int64.lt_iff_toInt_lt.mpr g)
      rw [z] at h3
      omega
    have e : (-y).toInt = -y.toInt := by
      rw [Int64.toInt_neg]
      apply g64r
      omega
    rw [gl2i_toInt (by rw [e]; omega), e]
    omega
/-- what is left of the digits -/
def gDr (m : Nat) : Nat → List Int
  | 0 => []
  | k + 1 => gDgs m k
theorem gDr_s (m k : Nat) : gDr m (k + 1) = (48 + ((m / 10 ^ k % 10 : Nat) : Int)) :: gDr m k := by
  show gDgs m k = _
  rw [gDgs_c]
  cases k <;> rfl
theorem g0_le (x : Int64) : (0 : Int64) ≤ x ↔ 0 ≤ x.toInt := by
  rw [Int64.le_iff_toInt_le]
  have z : (0 : Int64).toInt = 0 := by decide
  rw [z]
theorem g0_lt (x : Int64) : x < (0 : Int64) ↔ x.toInt < 0 := by
  rw [Int64.lt_iff_toInt_lt]
  have z : (0 : Int64).toInt = 0 := by decide
  rw [z]
theorem g0_eq (x : Int64) : x = (0 : Int64) ↔ x.toInt = 0 := by
  rw [← Int64.toInt_inj]
  have z : (0 : Int64).toInt = 0 := by decide
  rw [z]
set_option maxRecDepth 10000 in
theorem w_X4_putNumber2 {l : Launch} {Γ : gC} {ad : Nat → Nat} {I0 : Nat → Nat → Int} {J : Nat → Nat → Int64} {d : Nat} {mm : Nat} {F R : List Int} {v rest : Int64} {len : Int} (hF : F.length ≤ 4800) (hd : 2 ≤ d) : ∀ (m : Nat) (k : Nat) (B : List Int) (I : Nat → Nat → Int), k < m → (k ≤ 20) → (gPrn I B R) → (B ++ gDr mm k = F) → (∀ t, t < k → I 31 t = ((mm / 10 ^ t % 10 : Nat) : Int)) → (∀ p, p ≠ 28 → p ≠ 29 → p ≠ 30 → p ≠ 31 → I p = I0 p) → gG l Γ gm_X4_putNumber (d, 0, 0, 0, 0) 78 [(6, .int (iv ((k : Int) - 1))), (0, .ref (gad (gSS ad) 28)), (1, .long v), (3, .long rest), (5, .int (iv len))] [] (gSS ad, I, J) (gDv (fun μ => ∃ I1, μ = (gSS ad, I1, J) ∧ gPrn I1 F R ∧ (∀ p, p ≠ 28 → p ≠ 29 → p ≠ 30 → p ≠ 31 → I1 p = I0 p))) := by
  intro m
  induction m with
  | zero => intros; omega
  | succ m ih =>
    intro k B I hm hk hg hB hq hI
    refine gg_iload dX4_putNumber_78 0 rfl ?_
    refine gg_if_lt (tgt := 103) dX4_putNumber_80 (by decide) (by omega) (fun hb => ?_) (fun hb => ?_)
    · have hk0 : k = 0 := by omega
      subst hk0
      refine gg_vretv dX4_putNumber_103 rfl ⟨rfl, rfl⟩ ?_
      have hBF : B = F := by simpa [gDr] using hB
      exact ⟨I, rfl, by rw [← hBF]; exact hg, hI⟩
    · obtain ⟨j, rfl⟩ : ∃ j : Nat, k = j + 1 := ⟨k - 1, by omega⟩
      rw [show (((j + 1 : Nat) : Int) - 1) = (j : Int) by omega]
      rw [gDr_s] at hB
      have hBl : B.length < 4800 := by
        rw [← hB] at hF
        simp at hF
        omega
      refine gg_aload_n dX4_putNumber_83 1 rfl ?_
      refine gg_bipush dX4_putNumber_84 (by decide) ?_
      refine gg_aload_n dX4_putNumber_86 1 rfl ?_
      refine gg_getR (k' := 31) rfl gf_RX4_19 dX4_putNumber_87 sh_28 pl_28 (by decide) (by decide) rr_28_4 ?_
      refine gg_iload dX4_putNumber_90 0 rfl ?_
      refine gg_ialdj j dX4_putNumber_92 sh_31 pl_31 (by decide) rfl (by omega) ?_
      refine gg_toI (b := ((mm / 10 ^ j % 10 : Nat) : Int)) (hq j (by omega)) ?_
      refine gg_iadd dX4_putNumber_93 ?_
      refine gg_callVv (own := RX4) (yt := gm_X4_put) rfl gl_RX4_33 gk_X4_put gr_X4_put dX4_putNumber_94 (c_X4_put (d := d - 1) (B := B) hg hBl (by omega)) sh_28 pl_28 (by decide) rfl rfl rfl (Nat.le_of_ble_eq_true rfl) (by show _ ≤ d; omega) ⟨Nat.le_refl _, Nat.le_refl _⟩ (fun μ' hc => ?_)
      obtain ⟨I2, rfl, g2, f2⟩ := hc
      refine gg_iincv (ls' := [(6, .int (iv ((j : Int) - 1))), (0, .ref (gad (gSS ad) 28)), (1, .long v), (3, .long rest), (5, .int (iv len))]) dX4_putNumber_97 0 rfl (by omega) (by decide) rfl ?_
      refine gg_goto (tgt := 78) dX4_putNumber_100 (by decide) ?_
      refine ih j (B ++ [48 + ((mm / 10 ^ j % 10 : Nat) : Int)]) I2 (by omega) (by omega) g2 (by rw [← hB]; simp) (fun t ht => by rw [f2 31 (by omega) (by omega)]; exact hq t (by omega)) (fun p h1 h2 h3 h4 => by rw [f2 p h1 h2]; exact hI p h1 h2 h3 h4)

set_option maxRecDepth 10000 in
theorem w_X4_putNumber {l : Launch} {Γ : gC} {ad : Nat → Nat} {I0 : Nat → Nat → Int} {J : Nat → Nat → Int64} {d : Nat} {mm : Nat} {B R : List Int} {v : Int64} (hm64 : mm ≤ 9223372036854775808) (hF : (B ++ gDgs mm (gTop mm)).length ≤ 4800) (hd : 2 ≤ d) : ∀ (m : Nat) (i : Nat) (x : Int64) (I : Nat → Nat → Int), 20 - i < m → (x.toInt.natAbs = mm / 10 ^ i) → (i ≤ 1 ∨ 10 ^ (i - 1) ≤ mm) → (gPrn I B R) → (∀ t, t < i → I 31 t = ((mm / 10 ^ t % 10 : Nat) : Int)) → (∀ p, p ≠ 28 → p ≠ 29 → p ≠ 30 → p ≠ 31 → I p = I0 p) → gG l Γ gm_X4_putNumber (d, 0, 0, 0, 0) 20 [(6, .int (iv (i : Int))), (5, .int (iv (i : Int))), (3, .long x), (0, .ref (gad (gSS ad) 28)), (1, .long v)] [] (gSS ad, I, J) (gDv (fun μ => ∃ I1, μ = (gSS ad, I1, J) ∧ gPrn I1 (B ++ gDgs mm (gTop mm)) R ∧ (∀ p, p ≠ 28 → p ≠ 29 → p ≠ 30 → p ≠ 31 → I1 p = I0 p))) := by
  intro m
  induction m with
  | zero => intros; omega
  | succ m ih =>
    intro i x I hm hx hi hg hq hI
    have hi19 : i ≤ 19 := by
      rcases hi with h | h
      · omega
      · by_cases h2 : i ≤ 19
        · exact h2
        · have h3 : 10 ^ 19 ≤ 10 ^ (i - 1) := Nat.pow_le_pow_right (by omega) (by omega)
          have h4 : (10 : Nat) ^ 19 = 10000000000000000000 := by decide
          omega
    refine gg_iload dX4_putNumber_20 0 rfl ?_
    refine gg_bipush dX4_putNumber_22 (by decide) ?_
    refine gg_icmp_ge_f (tgt := 72) dX4_putNumber_24 (by decide) (by omega) (by omega) ?_
    refine gg_iload dX4_putNumber_27 0 rfl ?_
    refine gg_if_eq (tgt := 38) dX4_putNumber_29 (by decide) (by omega) (fun hi0 => ?_) (fun hi0 => ?_)
    · refine gg_aload_n dX4_putNumber_38 3 rfl ?_
      refine gg_getR (k' := 31) rfl gf_RX4_19 dX4_putNumber_39 sh_28 pl_28 (by decide) (by decide) rr_28_4 ?_
      refine gg_iload dX4_putNumber_42 0 rfl ?_
      refine gg_lload_n dX4_putNumber_44 2 rfl ?_
      refine gg_ldc2 rfl gq_RX4_79 dX4_putNumber_45 ?_
      refine gg_lrem dX4_putNumber_48 (by decide) ?_
      refine gg_mabs rfl gl_RX4_81 dX4_putNumber_49 (Nat.le_of_ble_eq_true rfl) (by omega) ⟨Nat.le_refl _, Nat.le_refl _⟩ ?_
      refine gg_l2i dX4_putNumber_52 ?_
      refine gg_toI (b := ((mm / 10 ^ i % 10 : Nat) : Int)) (by rw [gabs10, hx]) ?_
      refine gg_iastj i dX4_putNumber_53 sh_31 pl_31 (by decide) rfl (by omega) ?_
      refine gg_memI (fun I2 hI2 => ?_)
      refine gg_lload_n dX4_putNumber_54 2 rfl ?_
      refine gg_ldc2 rfl gq_RX4_79 dX4_putNumber_55 ?_
      refine gg_ldiv dX4_putNumber_58 (by decide) ?_
      refine gg_lstore_n (ls' := [(3, .long (x / 10)), (6, .int (iv (i : Int))), (5, .int (iv (i : Int))), (0, .ref (gad (gSS ad) 28)), (1, .long v)]) dX4_putNumber_59 rfl (by decide) rfl ?_
      refine gg_iload dX4_putNumber_60 1 rfl ?_
      refine gg_iconst dX4_putNumber_62 ?_
      refine gg_iadd dX4_putNumber_63 ?_
      refine gg_istore (ls' := [(5, .int (iv ((i : Int) + 1))), (3, .long (x / 10)), (6, .int (iv (i : Int))), (0, .ref (gad (gSS ad) 28)), (1, .long v)]) dX4_putNumber_64 (by decide) rfl ?_
      refine gg_iincv (ls' := [(6, .int (iv ((i + 1 : Nat) : Int))), (5, .int (iv ((i : Int) + 1))), (3, .long (x / 10)), (0, .ref (gad (gSS ad) 28)), (1, .long v)]) dX4_putNumber_66 2 rfl (by omega) (by decide) rfl ?_
      refine gg_goto (tgt := 20) dX4_putNumber_69 (by decide) ?_
      refine ih (i + 1) (x / 10) I2 (by omega) (by rw [gdivAbs, hx, Nat.pow_succ, Nat.div_div_eq_div_mul]) ?_ ⟨by rw [hI2, gu_other (by omega)]; exact hg.1, gLst_same hg.2.1 (by rw [hI2, gu_other (by omega)]), by rw [hI2, gu_other (by omega)]; exact hg.2.2.1, gLst_same hg.2.2.2 (by rw [hI2, gu_other (by omega)])⟩ (fun t ht => ?_) (fun p h1 h2 h3 h4 => by rw [hI2, gu_other h4]; exact hI p h1 h2 h3 h4)
      · rw [Nat.add_sub_cancel]
        by_cases h0 : i = 0
        · left; omega
        · right
          have h1 : ¬ mm / 10 ^ i = 0 := by
            intro h
            rw [h] at hx
            first | exact h0 (by omega) | exact absurd ((g0_eq x).mpr (by omega)) hx0
          by_cases h2 : mm < 10 ^ i
          · exact absurd (Nat.div_eq_of_lt h2) h1
          · omega
      · rw [hI2]
        by_cases htj : t = i
        · rw [htj, gu_s]
        · rw [gu_n (by omega)]
          exact hq t (by omega)
    · refine gg_lload_n dX4_putNumber_32 2 rfl ?_
      refine gg_lconstv (x := 0) dX4_putNumber_33 rfl ?_
      refine gg_lcmp_eq (tgt := 72) dX4_putNumber_34 dX4_putNumber_35 (by decide) (fun hx0 => ?_) (fun hx0 => ?_)
      · have hxz := (g0_eq x).mp hx0
        have hmt : mm < 10 ^ i := by
          have h1 : mm / 10 ^ i = 0 := by omega
          have h2 := Nat.div_eq_zero_iff.mp h1
          have h3 : 0 < 10 ^ i := Nat.pow_pos (by omega)
          omega
        have htop : gTop mm = i - 1 := gTop_of ⟨by rw [show i - 1 + 1 = i by omega]; exact hmt, hi.imp (fun h => by omega) (fun h => h)⟩
        refine gg_iload dX4_putNumber_72 1 rfl ?_
        refine gg_iconst dX4_putNumber_74 ?_
        refine gg_isub dX4_putNumber_75 ?_
        refine gg_toI (b := ((i : Int) - 1)) rfl ?_
        refine gg_istore (ls' := [(6, .int (iv ((i : Int) - 1))), (5, .int (iv (i : Int))), (3, .long x), (0, .ref (gad (gSS ad) 28)), (1, .long v)]) dX4_putNumber_76 (by decide) rfl ?_
        refine gg_sub [0, 3, 4, 2, 1] rfl ?_
        refine w_X4_putNumber2 (mm := mm) (v := v) (rest := x) (len := (i : Int)) hF hd (i + 1) i B I (by omega) (by omega) hg (by rw [htop]; obtain ⟨j, rfl⟩ : ∃ j : Nat, i = j + 1 := ⟨i - 1, by omega⟩; rfl) hq hI
      · refine gg_aload_n dX4_putNumber_38 3 rfl ?_
        refine gg_getR (k' := 31) rfl gf_RX4_19 dX4_putNumber_39 sh_28 pl_28 (by decide) (by decide) rr_28_4 ?_
        refine gg_iload dX4_putNumber_42 0 rfl ?_
        refine gg_lload_n dX4_putNumber_44 2 rfl ?_
        refine gg_ldc2 rfl gq_RX4_79 dX4_putNumber_45 ?_
        refine gg_lrem dX4_putNumber_48 (by decide) ?_
        refine gg_mabs rfl gl_RX4_81 dX4_putNumber_49 (Nat.le_of_ble_eq_true rfl) (by omega) ⟨Nat.le_refl _, Nat.le_refl _⟩ ?_
        refine gg_l2i dX4_putNumber_52 ?_
        refine gg_toI (b := ((mm / 10 ^ i % 10 : Nat) : Int)) (by rw [gabs10, hx]) ?_
        refine gg_iastj i dX4_putNumber_53 sh_31 pl_31 (by decide) rfl (by omega) ?_
        refine gg_memI (fun I2 hI2 => ?_)
        refine gg_lload_n dX4_putNumber_54 2 rfl ?_
        refine gg_ldc2 rfl gq_RX4_79 dX4_putNumber_55 ?_
        refine gg_ldiv dX4_putNumber_58 (by decide) ?_
        refine gg_lstore_n (ls' := [(3, .long (x / 10)), (6, .int (iv (i : Int))), (5, .int (iv (i : Int))), (0, .ref (gad (gSS ad) 28)), (1, .long v)]) dX4_putNumber_59 rfl (by decide) rfl ?_
        refine gg_iload dX4_putNumber_60 1 rfl ?_
        refine gg_iconst dX4_putNumber_62 ?_
        refine gg_iadd dX4_putNumber_63 ?_
        refine gg_istore (ls' := [(5, .int (iv ((i : Int) + 1))), (3, .long (x / 10)), (6, .int (iv (i : Int))), (0, .ref (gad (gSS ad) 28)), (1, .long v)]) dX4_putNumber_64 (by decide) rfl ?_
        refine gg_iincv (ls' := [(6, .int (iv ((i + 1 : Nat) : Int))), (5, .int (iv ((i : Int) + 1))), (3, .long (x / 10)), (0, .ref (gad (gSS ad) 28)), (1, .long v)]) dX4_putNumber_66 2 rfl (by omega) (by decide) rfl ?_
        refine gg_goto (tgt := 20) dX4_putNumber_69 (by decide) ?_
        refine ih (i + 1) (x / 10) I2 (by omega) (by rw [gdivAbs, hx, Nat.pow_succ, Nat.div_div_eq_div_mul]) ?_ ⟨by rw [hI2, gu_other (by omega)]; exact hg.1, gLst_same hg.2.1 (by rw [hI2, gu_other (by omega)]), by rw [hI2, gu_other (by omega)]; exact hg.2.2.1, gLst_same hg.2.2.2 (by rw [hI2, gu_other (by omega)])⟩ (fun t ht => ?_) (fun p h1 h2 h3 h4 => by rw [hI2, gu_other h4]; exact hI p h1 h2 h3 h4)
        · rw [Nat.add_sub_cancel]
          by_cases h0 : i = 0
          · left; omega
          · right
            have h1 : ¬ mm / 10 ^ i = 0 := by
              intro h
              rw [h] at hx
              first | exact h0 (by omega) | exact absurd ((g0_eq x).mpr (by omega)) hx0
            by_cases h2 : mm < 10 ^ i
            · exact absurd (Nat.div_eq_of_lt h2) h1
            · omega
        · rw [hI2]
          by_cases htj : t = i
          · rw [htj, gu_s]
          · rw [gu_n (by omega)]
            exact hq t (by omega)

set_option maxRecDepth 10000 in
theorem c_X4_putNumber {l : Launch} {Γ : gC} {ad : Nat → Nat} {I : Nat → Nat → Int} {J : Nat → Nat → Int64} {d : Nat} {B R : List Int} {v : Int64} (hg : gPrn I B R) (hB : B.length + (gNm v).length ≤ 4800) (hd : 2 ≤ d) : gKv l Γ gm_X4_putNumber d [.ref (gad (gSS ad) 28), .long v] (gSS ad, I, J) (fun μ => ∃ I1, μ = (gSS ad, I1, J) ∧ gPrn I1 (B ++ gNm v) R ∧ (∀ p, p ≠ 28 → p ≠ 29 → p ≠ 30 → p ≠ 31 → I1 p = I p)) := by
  refine gKv_of gk_X4_putNumber.1 (Nat.le_of_ble_eq_true rfl) ?_
  show gG l Γ gm_X4_putNumber (d, 0, 0, 0, 0) 0 [(0, .ref (gad (gSS ad) 28)), (1, .long v)] [] _ _
  refine gg_lload_n dX4_putNumber_0 1 rfl ?_
  refine gg_lconstv (x := 0) dX4_putNumber_1 rfl ?_
  refine gg_lcmp_ge (tgt := 12) dX4_putNumber_2 dX4_putNumber_3 (by decide) (fun hv => ?_) (fun hv => ?_)
  · have hv0 := (g0_le v).mp hv
    have hN : gNm v = gDgs v.toInt.natAbs (gTop v.toInt.natAbs) := by unfold gNm; rw [if_neg (by omega)]; rfl
    refine gg_lload_n dX4_putNumber_12 1 rfl ?_
    refine gg_lstore_n (ls' := [(3, .long v), (0, .ref (gad (gSS ad) 28)), (1, .long v)]) dX4_putNumber_13 rfl (by decide) rfl ?_
    refine gg_iconst dX4_putNumber_14 ?_
    refine gg_istore (ls' := [(5, .int (iv 0)), (3, .long v), (0, .ref (gad (gSS ad) 28)), (1, .long v)]) dX4_putNumber_15 (by decide) rfl ?_
    refine gg_iconst dX4_putNumber_17 ?_
    refine gg_istore (ls' := [(6, .int (iv 0)), (5, .int (iv 0)), (3, .long v), (0, .ref (gad (gSS ad) 28)), (1, .long v)]) dX4_putNumber_18 (by decide) rfl ?_
    refine gg_sub [0, 1, 2, 3, 4] rfl ?_
    refine gG_post (w_X4_putNumber (mm := v.toInt.natAbs) (B := B) (R := R) (v := v) (by have := g64 v; omega) (by rw [List.length_append, ← hN]; omega) hd 21 0 v _ (by omega) (by simp) (by omega) hg (fun t ht => absurd ht (Nat.not_lt_zero _)) (fun p h1 h2 h3 h4 => rfl)) (fun r μ h => ?_)
    obtain ⟨rfl, I1, rfl, h2, h3⟩ := h
    exact ⟨rfl, I1, rfl, by rw [hN]; exact h2, h3⟩
  · have hv0 := (g0_lt v).mp hv
    have hN : gNm v = 45 :: gDgs v.toInt.natAbs (gTop v.toInt.natAbs) := by unfold gNm; rw [if_pos hv0]; rfl
    rw [hN] at hB
    simp only [List.length_cons] at hB
    refine gg_aload_n dX4_putNumber_6 0 rfl ?_
    refine gg_bipush dX4_putNumber_7 (by decide) ?_
    refine gg_callVv (own := RX4) (yt := gm_X4_put) rfl gl_RX4_33 gk_X4_put gr_X4_put dX4_putNumber_9 (c_X4_put (d := d - 1) (B := B) hg (by omega) (by omega)) sh_28 pl_28 (by decide) rfl rfl rfl (Nat.le_of_ble_eq_true rfl) (by show _ ≤ d; omega) ⟨Nat.le_refl _, Nat.le_refl _⟩ (fun μ' hc => ?_)
    obtain ⟨I2, rfl, g2, f2⟩ := hc
    refine gg_lload_n dX4_putNumber_12 1 rfl ?_
    refine gg_lstore_n (ls' := [(3, .long v), (0, .ref (gad (gSS ad) 28)), (1, .long v)]) dX4_putNumber_13 rfl (by decide) rfl ?_
    refine gg_iconst dX4_putNumber_14 ?_
    refine gg_istore (ls' := [(5, .int (iv 0)), (3, .long v), (0, .ref (gad (gSS ad) 28)), (1, .long v)]) dX4_putNumber_15 (by decide) rfl ?_
    refine gg_iconst dX4_putNumber_17 ?_
    refine gg_istore (ls' := [(6, .int (iv 0)), (5, .int (iv 0)), (3, .long v), (0, .ref (gad (gSS ad) 28)), (1, .long v)]) dX4_putNumber_18 (by decide) rfl ?_
    refine gg_sub [0, 1, 2, 3, 4] rfl ?_
    refine gG_post (w_X4_putNumber (mm := v.toInt.natAbs) (B := (B ++ [45])) (R := R) (v := v) (by have := g64 v; omega) (by simp only [List.length_append, List.length_cons, List.length_nil]; omega) hd 21 0 v _ (by omega) (by simp) (by omega) g2 (fun t ht => absurd ht (Nat.not_lt_zero _)) (fun p h1 h2 h3 h4 => rfl)) (fun r μ h => ?_)
    obtain ⟨rfl, I1, rfl, h2, h3⟩ := h
    exact ⟨rfl, I1, rfl, by rw [hN]; simpa using h2, fun p h4 h5 h6 h7 => (h3 p h4 h5 h6 h7).trans (f2 p h4 h5)⟩

/-- the tasks of a sum's second part -/
def gSc (K : Nat → Nat) (p : Nat) : List Int := if K p = 2 then [(((p + 1) * 5 + 2 : Nat) : Int), -45] else [((p * 5 + 2 : Nat) : Int), -43]
theorem gAt_4 {I I' : Nat → Nat → Int} {J : Nat → Nat → Int64} {a n : Nat} {K : Nat → Nat} {N : Nat → Int64} {Z : Nat → Nat} (hF : gF a) (h : gAt I J a n K N Z) (hI : ∀ p, p ≠ 28 → p ≠ 29 → p ≠ 30 → p ≠ 31 → I' p = I p) : gAt I' J a n K N Z := by
  have hr := gF_rng hF
  exact gAt_same h (hI _ (by omega) (by omega) (by omega) (by omega)) (hI _ (by omega) (by omega) (by omega) (by omega)) rfl (hI _ (by omega) (by omega) (by omega) (by omega))
set_option maxRecDepth 10000 in
theorem c_X4_laterSecondOfSum {l : Launch} {Γ : gC} {ad : Nat → Nat} {I : Nat → Nat → Int} {J : Nat → Nat → Int64} {d : Nat} {a n : Nat} {K : Nat → Nat} {N : Nat → Int64} {Z : Nat → Nat} (hF : gF a) (hA : gAt I J a n K N Z) (hW : gWf n K N Z) {B R : List Int} {p : Nat} (hp : p < n) (hg : gPrn I B R) (hR : R.length + 2 ≤ 1600) (hd : 3 ≤ d) : gKv l Γ gm_X4_laterSecondOfSum d [.ref (gad (gSS ad) 28), .ref (gad (gSS ad) a), .int (iv (p : Int))] (gSS ad, I, J) (fun μ => ∃ I1, μ = (gSS ad, I1, J) ∧ gPrn I1 B (R ++ gSc K p) ∧ (∀ p, p ≠ 28 → p ≠ 29 → p ≠ 30 → p ≠ 31 → I1 p = I p)) := by
  refine gKv_of gk_X4_laterSecondOfSum.1 (Nat.le_of_ble_eq_true rfl) ?_
  show gG l Γ gm_X4_laterSecondOfSum (d, 0, 0, 0, 0) 0 [(0, .ref (gad (gSS ad) 28)), (1, .ref (gad (gSS ad) a)), (2, .int (iv (p : Int)))] [] _ _
  refine gg_aload_n dX4_laterSecondOfSum_0 1 rfl ?_
  refine gg_iload_n dX4_laterSecondOfSum_1 2 rfl ?_
  refine gg_callVi (own := RX4) (yt := gm_X1_kind) rfl gl_RX4_44 gk_X1_kind gr_X1_kind dX4_laterSecondOfSum_2 (c_X1_kind (d := d - 1) hF hA hW.1 (j := p) hp (by omega)) (gFsh hF) (gFlt hF) (by decide) rfl rfl rfl (Nat.le_of_ble_eq_true rfl) (by show _ ≤ d; omega) ⟨Nat.le_refl _, Nat.le_refl _⟩ (fun e1 μ' hc => ?_)
  obtain ⟨rfl, rfl⟩ := hc
  refine gg_iconst dX4_laterSecondOfSum_5 ?_
  refine gg_icmp_ne (tgt := 26) dX4_laterSecondOfSum_6 (by decide) (by have := (hW.2.2 p hp).1; omega) (fun hk2 => ?_) (fun hk2 => ?_)
  · refine gg_aload_n dX4_laterSecondOfSum_26 0 rfl ?_
    refine gg_iload_n dX4_laterSecondOfSum_27 2 rfl ?_
    refine gg_iconst dX4_laterSecondOfSum_28 ?_
    refine gg_callVv (own := RX4) (yt := gm_X4_laterTree) rfl gl_RX4_29 gk_X4_laterTree gr_X4_laterTree dX4_laterSecondOfSum_29 (c_X4_laterTree (d := d - 1) (j := p) (as := 2) hg (by first | omega | (simp only [List.length_append, List.length_cons, List.length_nil]; omega)) (by omega)) sh_28 pl_28 (by decide) rfl rfl rfl (Nat.le_of_ble_eq_true rfl) (by show _ ≤ d; omega) ⟨Nat.le_refl _, Nat.le_refl _⟩ (fun μ' hc => ?_)
    obtain ⟨I2, rfl, g2, f2⟩ := hc
    refine gg_aload_n dX4_laterSecondOfSum_32 0 rfl ?_
    refine gg_bipush dX4_laterSecondOfSum_33 (by decide) ?_
    refine gg_callVv (own := RX4) (yt := gm_X4_laterSign) rfl gl_RX4_57 gk_X4_laterSign gr_X4_laterSign dX4_laterSecondOfSum_35 (c_X4_laterSign (d := d - 1) (x := 43) g2 (by first | omega | (simp only [List.length_append, List.length_cons, List.length_nil]; omega)) (by omega)) sh_28 pl_28 (by decide) rfl rfl rfl (Nat.le_of_ble_eq_true rfl) (by show _ ≤ d; omega) ⟨Nat.le_refl _, Nat.le_refl _⟩ (fun μ' hc => ?_)
    obtain ⟨I4, rfl, g4, f4⟩ := hc
    refine gg_vretv dX4_laterSecondOfSum_38 rfl ⟨rfl, rfl⟩ ?_
    refine ⟨I4, rfl, ?_, fun p h1 h2 h3 h4 => (f4 p h1 h2 h3 h4).trans ((f2 p h1 h2 h3 h4).trans (rfl))⟩
    unfold gSc
    first | rw [if_pos (show K p = 2 by omega)] | rw [if_neg (show ¬ K p = 2 by omega)]
    exact (by simpa using g4)
  · refine gg_aload_n dX4_laterSecondOfSum_9 0 rfl ?_
    refine gg_iload_n dX4_laterSecondOfSum_10 2 rfl ?_
    refine gg_iconst dX4_laterSecondOfSum_11 ?_
    refine gg_iadd dX4_laterSecondOfSum_12 ?_
    refine gg_iconst dX4_laterSecondOfSum_13 ?_
    refine gg_callVv (own := RX4) (yt := gm_X4_laterTree) rfl gl_RX4_29 gk_X4_laterTree gr_X4_laterTree dX4_laterSecondOfSum_14 (c_X4_laterTree (d := d - 1) (j := (p + 1)) (as := 2) hg (by first | omega | (simp only [List.length_append, List.length_cons, List.length_nil]; omega)) (by omega)) sh_28 pl_28 (by decide) rfl rfl rfl (Nat.le_of_ble_eq_true rfl) (by show _ ≤ d; omega) ⟨Nat.le_refl _, Nat.le_refl _⟩ (fun μ' hc => ?_)
    obtain ⟨I6, rfl, g6, f6⟩ := hc
    refine gg_aload_n dX4_laterSecondOfSum_17 0 rfl ?_
    refine gg_bipush dX4_laterSecondOfSum_18 (by decide) ?_
    refine gg_callVv (own := RX4) (yt := gm_X4_laterSign) rfl gl_RX4_57 gk_X4_laterSign gr_X4_laterSign dX4_laterSecondOfSum_20 (c_X4_laterSign (d := d - 1) (x := 45) g6 (by first | omega | (simp only [List.length_append, List.length_cons, List.length_nil]; omega)) (by omega)) sh_28 pl_28 (by decide) rfl rfl rfl (Nat.le_of_ble_eq_true rfl) (by show _ ≤ d; omega) ⟨Nat.le_refl _, Nat.le_refl _⟩ (fun μ' hc => ?_)
    obtain ⟨I8, rfl, g8, f8⟩ := hc
    refine gg_goto (tgt := 38) dX4_laterSecondOfSum_23 (by decide) ?_
    refine gg_vretv dX4_laterSecondOfSum_38 rfl ⟨rfl, rfl⟩ ?_
    refine ⟨I8, rfl, ?_, fun p h1 h2 h3 h4 => (f8 p h1 h2 h3 h4).trans ((f6 p h1 h2 h3 h4).trans (rfl))⟩
    unfold gSc
    first | rw [if_pos (show K p = 2 by omega)] | rw [if_neg (show ¬ K p = 2 by omega)]
    exact (by simpa using g8)

theorem gSc_len (K : Nat → Nat) (p : Nat) : (gSc K p).length = 2 := by unfold gSc; split <;> rfl
set_option maxRecDepth 10000 in
theorem c_X4_putOpenTree {l : Launch} {Γ : gC} {ad : Nat → Nat} {I : Nat → Nat → Int} {J : Nat → Nat → Int64} {d : Nat} {a n : Nat} {K : Nat → Nat} {N : Nat → Int64} {Z : Nat → Nat} (hF : gF a) (hA : gAt I J a n K N Z) (hW : gWf n K N Z) {B R : List Int} {i : Nat} (hi : i < n) (hg : gPrn I B R) (hB : B.length + (gTx n K N Z i).length ≤ 4800) (hR : R.length + 6 ≤ 1600) (hd : 4 ≤ d) : gKv l Γ gm_X4_putOpenTree d [.ref (gad (gSS ad) 28), .ref (gad (gSS ad) a), .int (iv (i : Int)), .int (iv (K i : Int))] (gSS ad, I, J) (fun μ => ∃ I1 B1 R1, μ = (gSS ad, I1, J) ∧ gPrn I1 (B ++ B1) (R ++ R1) ∧ (∀ p, p ≠ 28 → p ≠ 29 → p ≠ 30 → p ≠ 31 → I1 p = I p) ∧ B1 ++ gOtl n K N Z R1 = gTx n K N Z i ∧ gWg Z R1 + 2 ≤ 4 * Z i ∧ gTall n R1) := by
  refine gKv_of gk_X4_putOpenTree.1 (Nat.le_of_ble_eq_true rfl) ?_
  show gG l Γ gm_X4_putOpenTree (d, 0, 0, 0, 0) 0 [(0, .ref (gad (gSS ad) 28)), (1, .ref (gad (gSS ad) a)), (2, .int (iv (i : Int))), (3, .int (iv (K i : Int)))] [] _ _
  obtain ⟨hK, hZ1, hZ2, he0, he1, he2, he3, hc1, hc2, hc3, -⟩ := hW.2.2 i hi
  have hn := hW.1
  have hl1 := (gP_len hW i hi).1
  refine gg_iload_n dX4_putOpenTree_0 3 rfl ?_
  obtain hk | hk | hk | hk | hk | hk | hk | hk := (by omega : K i = 0 ∨ K i = 1 ∨ K i = 2 ∨ K i = 3 ∨ K i = 4 ∨ K i = 5 ∨ K i = 6 ∨ K i = 7)
  · refine gg_toI (b := 0) (by omega) ?_
    refine gg_tsw (off := 43) (tgt := 44) dX4_putOpenTree_1 (by decide) (by decide) rfl (by decide) ?_
    have hz := he0 (by rw [hk]; decide)
    have hT : gTx n K N Z i = gNm (N i) := by rw [gTx_is n K N Z i hi]; unfold gpF; rw [if_pos hk]
    refine gg_aload_n dX4_putOpenTree_44 0 rfl ?_
    refine gg_aload_n dX4_putOpenTree_45 1 rfl ?_
    refine gg_iload_n dX4_putOpenTree_46 2 rfl ?_
    refine gg_callVl (own := RX4) (yt := gm_X1_number) rfl gl_RX4_63 gk_X1_number gr_X1_number dX4_putOpenTree_47 (c_X1_number (d := d - 1) hF hA hW.1 (j := i) hi (by omega)) (gFsh hF) (gFlt hF) (by decide) rfl rfl rfl (Nat.le_of_ble_eq_true rfl) (by show _ ≤ d; omega) ⟨Nat.le_refl _, Nat.le_refl _⟩ (fun e1 μ' hc => ?_)
    obtain ⟨rfl, rfl⟩ := hc
    refine gg_callVv (own := RX4) (yt := gm_X4_putNumber) rfl gl_RX4_67 gk_X4_putNumber gr_X4_putNumber dX4_putOpenTree_50 (c_X4_putNumber (d := d - 1) (v := N i) hg (by rw [← hT]; exact hB) (by omega)) sh_28 pl_28 (by decide) rfl rfl rfl (Nat.le_of_ble_eq_true rfl) (by show _ ≤ d; omega) ⟨Nat.le_refl _, Nat.le_refl _⟩ (fun μ' hc => ?_)
    obtain ⟨I2, rfl, g2, f2⟩ := hc
    refine gg_goto (tgt := 234) dX4_putOpenTree_53 (by decide) ?_
    refine gg_vretv dX4_putOpenTree_234 rfl ⟨rfl, rfl⟩ ?_
    refine ⟨I2, (gNm (N i)), [], rfl, ?_, fun p h1 h2 h3 h4 => (f2 p h1 h2 h3 h4).trans (rfl), ?_, ?_, ?_⟩
    · simpa using g2
    · rw [gTx_is n K N Z i hi]
      unfold gpF
      rw [hk]
      simp [gOtl]
    · simp only [gWg]
      omega
    · intro t ht
      simp at ht
  · refine gg_toI (b := 1) (by omega) ?_
    refine gg_tsw (off := 55) (tgt := 56) dX4_putOpenTree_1 (by decide) (by decide) rfl (by decide) ?_
    have hdg := gdg hW hi hk
    have hz := he0 (by rw [hk]; decide)
    refine gg_aload_n dX4_putOpenTree_56 0 rfl ?_
    refine gg_bipush dX4_putOpenTree_57 (by decide) ?_
    refine gg_aload_n dX4_putOpenTree_59 1 rfl ?_
    refine gg_iload_n dX4_putOpenTree_60 2 rfl ?_
    refine gg_callVl (own := RX4) (yt := gm_X1_number) rfl gl_RX4_63 gk_X1_number gr_X1_number dX4_putOpenTree_61 (c_X1_number (d := d - 1) hF hA hW.1 (j := i) hi (by omega)) (gFsh hF) (gFlt hF) (by decide) rfl rfl rfl (Nat.le_of_ble_eq_true rfl) (by show _ ≤ d; omega) ⟨Nat.le_refl _, Nat.le_refl _⟩ (fun e4 μ' hc => ?_)
    obtain ⟨rfl, rfl⟩ := hc
    refine gg_l2i dX4_putOpenTree_64 ?_
    refine gg_iadd dX4_putOpenTree_65 ?_
    refine gg_callVv (own := RX4) (yt := gm_X4_put) rfl gl_RX4_33 gk_X4_put gr_X4_put dX4_putOpenTree_66 (c_X4_put (d := d - 1) (x := (97 + (gl2i (N i)))) hg (by first | omega | (simp only [List.length_append, List.length_cons, List.length_nil]; omega)) (by omega)) sh_28 pl_28 (by decide) rfl rfl rfl (Nat.le_of_ble_eq_true rfl) (by show _ ≤ d; omega) ⟨Nat.le_refl _, Nat.le_refl _⟩ (fun μ' hc => ?_)
    obtain ⟨I5, rfl, g5, p5⟩ := hc
    refine gg_goto (tgt := 234) dX4_putOpenTree_69 (by decide) ?_
    refine gg_vretv dX4_putOpenTree_234 rfl ⟨rfl, rfl⟩ ?_
    refine ⟨I5, [97 + gl2i (N i)], [], rfl, ?_, fun p h1 h2 h3 h4 => (p5 p h1 h2).trans (rfl), ?_, ?_, ?_⟩
    · simpa using g5
    · rw [gTx_is n K N Z i hi]
      unfold gpF
      rw [hk]
      simp [gOtl]
    · simp only [gWg]
      omega
    · intro t ht
      simp at ht
  · refine gg_toI (b := 2) (by omega) ?_
    refine gg_tsw (off := 71) (tgt := 72) dX4_putOpenTree_1 (by decide) (by decide) rfl (by decide) ?_
    have h1 := hc1 (by rw [hk]; decide)
    have hz := he1 (by rw [hk]; decide)
    refine gg_aload_n dX4_putOpenTree_72 0 rfl ?_
    refine gg_bipush dX4_putOpenTree_73 (by decide) ?_
    refine gg_callVv (own := RX4) (yt := gm_X4_put) rfl gl_RX4_33 gk_X4_put gr_X4_put dX4_putOpenTree_75 (c_X4_put (d := d - 1) (x := 45) hg (by first | omega | (simp only [List.length_append, List.length_cons, List.length_nil]; omega)) (by omega)) sh_28 pl_28 (by decide) rfl rfl rfl (Nat.le_of_ble_eq_true rfl) (by show _ ≤ d; omega) ⟨Nat.le_refl _, Nat.le_refl _⟩ (fun μ' hc => ?_)
    obtain ⟨I7, rfl, g7, p7⟩ := hc
    refine gg_aload_n dX4_putOpenTree_78 0 rfl ?_
    refine gg_iload_n dX4_putOpenTree_79 2 rfl ?_
    refine gg_iconst dX4_putOpenTree_80 ?_
    refine gg_iadd dX4_putOpenTree_81 ?_
    refine gg_iconst dX4_putOpenTree_82 ?_
    refine gg_callVv (own := RX4) (yt := gm_X4_laterTree) rfl gl_RX4_29 gk_X4_laterTree gr_X4_laterTree dX4_putOpenTree_83 (c_X4_laterTree (d := d - 1) (j := (i + 1)) (as := 0) g7 (by first | omega | (simp only [List.length_append, List.length_cons, List.length_nil]; omega)) (by omega)) sh_28 pl_28 (by decide) rfl rfl rfl (Nat.le_of_ble_eq_true rfl) (by show _ ≤ d; omega) ⟨Nat.le_refl _, Nat.le_refl _⟩ (fun μ' hc => ?_)
    obtain ⟨I9, rfl, g9, f9⟩ := hc
    refine gg_goto (tgt := 234) dX4_putOpenTree_86 (by decide) ?_
    refine gg_vretv dX4_putOpenTree_234 rfl ⟨rfl, rfl⟩ ?_
    refine ⟨I9, [45], [(((i + 1) * 5 + 0 : Nat) : Int)], rfl, ?_, fun p h1 h2 h3 h4 => (f9 p h1 h2 h3 h4).trans ((p7 p h1 h2).trans (rfl)), ?_, ?_, ?_⟩
    · simpa using g9
    · rw [gTx_is n K N Z i hi]
      unfold gpF
      rw [hk]
      simp only [gOtl, List.nil_append]
      rw [gOt1_t (j := (i + 1)) (as := 0) (by omega)]
      simp
    · simp only [gWg]
      rw [gWg1_t (j := (i + 1)) (as := 0) (by omega)]
      omega
    · intro t ht
      simp only [List.mem_cons, List.not_mem_nil, or_false] at ht
      subst ht
      exact Or.inr ⟨by omega, by omega⟩
  · refine gg_toI (b := 3) (by omega) ?_
    refine gg_tsw (off := 88) (tgt := 89) dX4_putOpenTree_1 (by decide) (by decide) rfl (by decide) ?_
    have h1 := hc1 (by rw [hk]; decide)
    have h2 := hc2 (by rw [hk]; decide)
    have hz := he2 (by rw [hk]; decide)
    refine gg_aload_n dX4_putOpenTree_89 0 rfl ?_
    refine gg_aload_n dX4_putOpenTree_90 1 rfl ?_
    refine gg_aload_n dX4_putOpenTree_91 1 rfl ?_
    refine gg_iload_n dX4_putOpenTree_92 2 rfl ?_
    refine gg_iconst dX4_putOpenTree_93 ?_
    refine gg_callVi (own := RX4) (yt := gm_X1_part) rfl gl_RX4_71 gk_X1_part gr_X1_part dX4_putOpenTree_94 (c_X1_part1 (d := d - 1) hF hA hW.1 (j := i) h1 hi (by omega)) (gFsh hF) (gFlt hF) (by decide) rfl rfl rfl (Nat.le_of_ble_eq_true rfl) (by show _ ≤ d; omega) ⟨Nat.le_refl _, Nat.le_refl _⟩ (fun e11 μ' hc => ?_)
    obtain ⟨rfl, rfl⟩ := hc
    refine gg_callVv (own := RX4) (yt := gm_X4_laterSecondOfSum) rfl gl_RX4_75 gk_X4_laterSecondOfSum gr_X4_laterSecondOfSum dX4_putOpenTree_97 (c_X4_laterSecondOfSum (d := d - 1) hF hA hW (p := gPt Z i 1) h2 hg (by omega) (by omega)) sh_28 pl_28 (by decide) rfl rfl rfl (Nat.le_of_ble_eq_true rfl) (by show _ ≤ d; omega) ⟨Nat.le_refl _, Nat.le_refl _⟩ (fun μ' hc => ?_)
    obtain ⟨I12, rfl, g12, f12⟩ := hc
    refine gg_aload_n dX4_putOpenTree_100 0 rfl ?_
    refine gg_iload_n dX4_putOpenTree_101 2 rfl ?_
    refine gg_iconst dX4_putOpenTree_102 ?_
    refine gg_iadd dX4_putOpenTree_103 ?_
    refine gg_iconst dX4_putOpenTree_104 ?_
    refine gg_callVv (own := RX4) (yt := gm_X4_laterTree) rfl gl_RX4_29 gk_X4_laterTree gr_X4_laterTree dX4_putOpenTree_105 (c_X4_laterTree (d := d - 1) (j := (i + 1)) (as := 3) g12 (by rw [List.length_append, gSc_len]; omega) (by omega)) sh_28 pl_28 (by decide) rfl rfl rfl (Nat.le_of_ble_eq_true rfl) (by show _ ≤ d; omega) ⟨Nat.le_refl _, Nat.le_refl _⟩ (fun μ' hc => ?_)
    obtain ⟨I14, rfl, g14, f14⟩ := hc
    refine gg_goto (tgt := 234) dX4_putOpenTree_108 (by decide) ?_
    refine gg_vretv dX4_putOpenTree_234 rfl ⟨rfl, rfl⟩ ?_
    by_cases hx : K (gPt Z i 1) = 2
    · obtain ⟨-, -, -, -, e1, -, -, d1, -⟩ := hW.2.2 _ h2
      rw [hx] at e1 d1
      have e1 := e1 rfl
      have d1 := d1 (by decide)
      refine ⟨I14, [], [(((gPt Z i 1 + 1) * 5 + 2 : Nat) : Int), -45, (((i + 1) * 5 + 3 : Nat) : Int)], rfl, ?_, fun p h1 h2 h3 h4 => (f14 p h1 h2 h3 h4).trans ((f12 p h1 h2 h3 h4).trans (rfl)), ?_, ?_, ?_⟩
      · have z := g14
        unfold gSc at z
        rw [if_pos hx] at z
        simpa using z
      · rw [gTx_is n K N Z i hi]
        unfold gpF
        rw [hk]
        simp only [gOtl, List.nil_append]
        rw [gOt1_t (j := (i + 1)) (as := 3) (by omega)]
        rw [gOt1_s (c := 45) (by omega)]
        rw [gOt1_t (j := (gPt Z i 1 + 1)) (as := 2) (by omega)]
        simp [hx]
      · simp only [gWg]
        rw [gWg1_t (j := (gPt Z i 1 + 1)) (as := 2) (by omega)]
        rw [gWg1_s (c := 45) (by omega)]
        rw [gWg1_t (j := (i + 1)) (as := 3) (by omega)]
        omega
      · intro t ht
        simp only [List.mem_cons, List.not_mem_nil, or_false] at ht
        rcases ht with rfl | rfl | rfl
        · exact Or.inr ⟨by omega, by omega⟩
        · exact Or.inl ⟨by omega, by omega⟩
        · exact Or.inr ⟨by omega, by omega⟩
    · refine ⟨I14, [], [((gPt Z i 1 * 5 + 2 : Nat) : Int), -43, (((i + 1) * 5 + 3 : Nat) : Int)], rfl, ?_, fun p h1 h2 h3 h4 => (f14 p h1 h2 h3 h4).trans ((f12 p h1 h2 h3 h4).trans (rfl)), ?_, ?_, ?_⟩
      · have z := g14
        unfold gSc at z
        rw [if_neg hx] at z
        simpa using z
      · rw [gTx_is n K N Z i hi]
        unfold gpF
        rw [hk]
        simp only [gOtl, List.nil_append]
        rw [gOt1_t (j := (i + 1)) (as := 3) (by omega)]
        rw [gOt1_s (c := 43) (by omega)]
        rw [gOt1_t (j := gPt Z i 1) (as := 2) (by omega)]
        simp [hx]
      · simp only [gWg]
        rw [gWg1_t (j := gPt Z i 1) (as := 2) (by omega)]
        rw [gWg1_s (c := 43) (by omega)]
        rw [gWg1_t (j := (i + 1)) (as := 3) (by omega)]
        omega
      · intro t ht
        simp only [List.mem_cons, List.not_mem_nil, or_false] at ht
        rcases ht with rfl | rfl | rfl
        · exact Or.inr ⟨by omega, by omega⟩
        · exact Or.inl ⟨by omega, by omega⟩
        · exact Or.inr ⟨by omega, by omega⟩
  · refine gg_toI (b := 4) (by omega) ?_
    refine gg_tsw (off := 110) (tgt := 111) dX4_putOpenTree_1 (by decide) (by decide) rfl (by decide) ?_
    have h1 := hc1 (by rw [hk]; decide)
    have h2 := hc2 (by rw [hk]; decide)
    have hz := he2 (by rw [hk]; decide)
    refine gg_aload_n dX4_putOpenTree_111 0 rfl ?_
    refine gg_aload_n dX4_putOpenTree_112 1 rfl ?_
    refine gg_iload_n dX4_putOpenTree_113 2 rfl ?_
    refine gg_iconst dX4_putOpenTree_114 ?_
    refine gg_callVi (own := RX4) (yt := gm_X1_part) rfl gl_RX4_71 gk_X1_part gr_X1_part dX4_putOpenTree_115 (c_X1_part1 (d := d - 1) hF hA hW.1 (j := i) h1 hi (by omega)) (gFsh hF) (gFlt hF) (by decide) rfl rfl rfl (Nat.le_of_ble_eq_true rfl) (by show _ ≤ d; omega) ⟨Nat.le_refl _, Nat.le_refl _⟩ (fun e16 μ' hc => ?_)
    obtain ⟨rfl, rfl⟩ := hc
    refine gg_iconst dX4_putOpenTree_118 ?_
    refine gg_callVv (own := RX4) (yt := gm_X4_laterTree) rfl gl_RX4_29 gk_X4_laterTree gr_X4_laterTree dX4_putOpenTree_119 (c_X4_laterTree (d := d - 1) (j := ((gPt Z i 1 : Int)).toNat) (as := 1) hg (by first | omega | (simp only [List.length_append, List.length_cons, List.length_nil]; omega)) (by omega)) sh_28 pl_28 (by decide) rfl rfl rfl (Nat.le_of_ble_eq_true rfl) (by show _ ≤ d; omega) ⟨Nat.le_refl _, Nat.le_refl _⟩ (fun μ' hc => ?_)
    obtain ⟨I17, rfl, g17, f17⟩ := hc
    refine gg_aload_n dX4_putOpenTree_122 0 rfl ?_
    refine gg_bipush dX4_putOpenTree_123 (by decide) ?_
    refine gg_callVv (own := RX4) (yt := gm_X4_laterSign) rfl gl_RX4_57 gk_X4_laterSign gr_X4_laterSign dX4_putOpenTree_125 (c_X4_laterSign (d := d - 1) (x := 42) g17 (by first | omega | (simp only [List.length_append, List.length_cons, List.length_nil]; omega)) (by omega)) sh_28 pl_28 (by decide) rfl rfl rfl (Nat.le_of_ble_eq_true rfl) (by show _ ≤ d; omega) ⟨Nat.le_refl _, Nat.le_refl _⟩ (fun μ' hc => ?_)
    obtain ⟨I19, rfl, g19, f19⟩ := hc
    refine gg_aload_n dX4_putOpenTree_128 0 rfl ?_
    refine gg_iload_n dX4_putOpenTree_129 2 rfl ?_
    refine gg_iconst dX4_putOpenTree_130 ?_
    refine gg_iadd dX4_putOpenTree_131 ?_
    refine gg_iconst dX4_putOpenTree_132 ?_
    refine gg_callVv (own := RX4) (yt := gm_X4_laterTree) rfl gl_RX4_29 gk_X4_laterTree gr_X4_laterTree dX4_putOpenTree_133 (c_X4_laterTree (d := d - 1) (j := (i + 1)) (as := 2) g19 (by first | omega | (simp only [List.length_append, List.length_cons, List.length_nil]; omega)) (by omega)) sh_28 pl_28 (by decide) rfl rfl rfl (Nat.le_of_ble_eq_true rfl) (by show _ ≤ d; omega) ⟨Nat.le_refl _, Nat.le_refl _⟩ (fun μ' hc => ?_)
    obtain ⟨I21, rfl, g21, f21⟩ := hc
    refine gg_goto (tgt := 234) dX4_putOpenTree_136 (by decide) ?_
    refine gg_vretv dX4_putOpenTree_234 rfl ⟨rfl, rfl⟩ ?_
    refine ⟨I21, [], [((gPt Z i 1 * 5 + 1 : Nat) : Int), -42, (((i + 1) * 5 + 2 : Nat) : Int)], rfl, ?_, fun p h1 h2 h3 h4 => (f21 p h1 h2 h3 h4).trans ((f19 p h1 h2 h3 h4).trans ((f17 p h1 h2 h3 h4).trans (rfl))), ?_, ?_, ?_⟩
    · simpa using g21
    · rw [gTx_is n K N Z i hi]
      unfold gpF
      rw [hk]
      simp only [gOtl, List.nil_append]
      rw [gOt1_t (j := (i + 1)) (as := 2) (by omega)]
      rw [gOt1_s (c := 42) (by omega)]
      rw [gOt1_t (j := gPt Z i 1) (as := 1) (by omega)]
      simp
    · simp only [gWg]
      rw [gWg1_t (j := gPt Z i 1) (as := 1) (by omega)]
      rw [gWg1_s (c := 42) (by omega)]
      rw [gWg1_t (j := (i + 1)) (as := 2) (by omega)]
      omega
    · intro t ht
      simp only [List.mem_cons, List.not_mem_nil, or_false] at ht
      rcases ht with rfl | rfl | rfl
      · exact Or.inr ⟨by omega, by omega⟩
      · exact Or.inl ⟨by omega, by omega⟩
      · exact Or.inr ⟨by omega, by omega⟩
  · refine gg_toI (b := 5) (by omega) ?_
    refine gg_tsw (off := 138) (tgt := 139) dX4_putOpenTree_1 (by decide) (by decide) rfl (by decide) ?_
    have h1 := hc1 (by rw [hk]; decide)
    have hdg := gdig hW hi hk
    have hz := he1 (by rw [hk]; decide)
    refine gg_aload_n dX4_putOpenTree_139 0 rfl ?_
    refine gg_bipush dX4_putOpenTree_140 (by decide) ?_
    refine gg_aload_n dX4_putOpenTree_142 1 rfl ?_
    refine gg_iload_n dX4_putOpenTree_143 2 rfl ?_
    refine gg_callVl (own := RX4) (yt := gm_X1_number) rfl gl_RX4_63 gk_X1_number gr_X1_number dX4_putOpenTree_144 (c_X1_number (d := d - 1) hF hA hW.1 (j := i) hi (by omega)) (gFsh hF) (gFlt hF) (by decide) rfl rfl rfl (Nat.le_of_ble_eq_true rfl) (by show _ ≤ d; omega) ⟨Nat.le_refl _, Nat.le_refl _⟩ (fun e23 μ' hc => ?_)
    obtain ⟨rfl, rfl⟩ := hc
    refine gg_l2i dX4_putOpenTree_147 ?_
    refine gg_iadd dX4_putOpenTree_148 ?_
    refine gg_callVv (own := RX4) (yt := gm_X4_laterSign) rfl gl_RX4_57 gk_X4_laterSign gr_X4_laterSign dX4_putOpenTree_149 (c_X4_laterSign (d := d - 1) (x := (48 + (gl2i (N i)))) hg (by first | omega | (simp only [List.length_append, List.length_cons, List.length_nil]; omega)) (by omega)) sh_28 pl_28 (by decide) rfl rfl rfl (Nat.le_of_ble_eq_true rfl) (by show _ ≤ d; omega) ⟨Nat.le_refl _, Nat.le_refl _⟩ (fun μ' hc => ?_)
    obtain ⟨I24, rfl, g24, f24⟩ := hc
    refine gg_aload_n dX4_putOpenTree_152 0 rfl ?_
    refine gg_bipush dX4_putOpenTree_153 (by decide) ?_
    refine gg_callVv (own := RX4) (yt := gm_X4_laterSign) rfl gl_RX4_57 gk_X4_laterSign gr_X4_laterSign dX4_putOpenTree_155 (c_X4_laterSign (d := d - 1) (x := 94) g24 (by first | omega | (simp only [List.length_append, List.length_cons, List.length_nil]; omega)) (by omega)) sh_28 pl_28 (by decide) rfl rfl rfl (Nat.le_of_ble_eq_true rfl) (by show _ ≤ d; omega) ⟨Nat.le_refl _, Nat.le_refl _⟩ (fun μ' hc => ?_)
    obtain ⟨I26, rfl, g26, f26⟩ := hc
    refine gg_aload_n dX4_putOpenTree_158 0 rfl ?_
    refine gg_iload_n dX4_putOpenTree_159 2 rfl ?_
    refine gg_iconst dX4_putOpenTree_160 ?_
    refine gg_iadd dX4_putOpenTree_161 ?_
    refine gg_iconst dX4_putOpenTree_162 ?_
    refine gg_callVv (own := RX4) (yt := gm_X4_laterTree) rfl gl_RX4_29 gk_X4_laterTree gr_X4_laterTree dX4_putOpenTree_163 (c_X4_laterTree (d := d - 1) (j := (i + 1)) (as := 1) g26 (by first | omega | (simp only [List.length_append, List.length_cons, List.length_nil]; omega)) (by omega)) sh_28 pl_28 (by decide) rfl rfl rfl (Nat.le_of_ble_eq_true rfl) (by show _ ≤ d; omega) ⟨Nat.le_refl _, Nat.le_refl _⟩ (fun μ' hc => ?_)
    obtain ⟨I28, rfl, g28, f28⟩ := hc
    refine gg_goto (tgt := 234) dX4_putOpenTree_166 (by decide) ?_
    refine gg_vretv dX4_putOpenTree_234 rfl ⟨rfl, rfl⟩ ?_
    refine ⟨I28, [], [-(48 + gl2i (N i)), -94, (((i + 1) * 5 + 1 : Nat) : Int)], rfl, ?_, fun p h1 h2 h3 h4 => (f28 p h1 h2 h3 h4).trans ((f26 p h1 h2 h3 h4).trans ((f24 p h1 h2 h3 h4).trans (rfl))), ?_, ?_, ?_⟩
    · simpa using g28
    · rw [gTx_is n K N Z i hi]
      unfold gpF
      rw [hk]
      simp only [gOtl, List.nil_append]
      rw [gOt1_t (j := (i + 1)) (as := 1) (by omega)]
      rw [gOt1_s (c := 94) (by omega)]
      rw [gOt1_s (c := (48 + gl2i (N i))) (by omega)]
      simp
    · simp only [gWg]
      rw [gWg1_s (c := (48 + gl2i (N i))) (by omega)]
      rw [gWg1_s (c := 94) (by omega)]
      rw [gWg1_t (j := (i + 1)) (as := 1) (by omega)]
      omega
    · intro t ht
      simp only [List.mem_cons, List.not_mem_nil, or_false] at ht
      rcases ht with rfl | rfl | rfl
      · exact Or.inl ⟨by omega, by omega⟩
      · exact Or.inl ⟨by omega, by omega⟩
      · exact Or.inr ⟨by omega, by omega⟩
  · refine gg_toI (b := 6) (by omega) ?_
    refine gg_tsw (off := 168) (tgt := 169) dX4_putOpenTree_1 (by decide) (by decide) rfl (by decide) ?_
    have h1 := hc1 (by rw [hk]; decide)
    have h2 := hc2 (by rw [hk]; decide)
    have h3 := hc3 (by rw [hk]; decide)
    have hz := he3 (by rw [hk]; decide)
    refine gg_aload_n dX4_putOpenTree_169 0 rfl ?_
    refine gg_aload_n dX4_putOpenTree_170 1 rfl ?_
    refine gg_iload_n dX4_putOpenTree_171 2 rfl ?_
    refine gg_iconst dX4_putOpenTree_172 ?_
    refine gg_callVi (own := RX4) (yt := gm_X1_part) rfl gl_RX4_71 gk_X1_part gr_X1_part dX4_putOpenTree_173 (c_X1_part2 (d := d - 1) hF hA hW.1 (j := i) h1 h2 hi (by omega)) (gFsh hF) (gFlt hF) (by decide) rfl rfl rfl (Nat.le_of_ble_eq_true rfl) (by show _ ≤ d; omega) ⟨Nat.le_refl _, Nat.le_refl _⟩ (fun e30 μ' hc => ?_)
    obtain ⟨rfl, rfl⟩ := hc
    refine gg_iconst dX4_putOpenTree_176 ?_
    refine gg_callVv (own := RX4) (yt := gm_X4_laterTree) rfl gl_RX4_29 gk_X4_laterTree gr_X4_laterTree dX4_putOpenTree_177 (c_X4_laterTree (d := d - 1) (j := ((gPt Z i 2 : Int)).toNat) (as := 3) hg (by first | omega | (simp only [List.length_append, List.length_cons, List.length_nil]; omega)) (by omega)) sh_28 pl_28 (by decide) rfl rfl rfl (Nat.le_of_ble_eq_true rfl) (by show _ ≤ d; omega) ⟨Nat.le_refl _, Nat.le_refl _⟩ (fun μ' hc => ?_)
    obtain ⟨I31, rfl, g31, f31⟩ := hc
    refine gg_aload_n dX4_putOpenTree_180 0 rfl ?_
    refine gg_bipush dX4_putOpenTree_181 (by decide) ?_
    refine gg_callVv (own := RX4) (yt := gm_X4_laterSign) rfl gl_RX4_57 gk_X4_laterSign gr_X4_laterSign dX4_putOpenTree_183 (c_X4_laterSign (d := d - 1) (x := 58) g31 (by first | omega | (simp only [List.length_append, List.length_cons, List.length_nil]; omega)) (by omega)) sh_28 pl_28 (by decide) rfl rfl rfl (Nat.le_of_ble_eq_true rfl) (by show _ ≤ d; omega) ⟨Nat.le_refl _, Nat.le_refl _⟩ (fun μ' hc => ?_)
    obtain ⟨I33, rfl, g33, f33⟩ := hc
    refine gg_aload_n dX4_putOpenTree_186 0 rfl ?_
    refine gg_aload_n dX4_putOpenTree_187 1 rfl ?_
    refine gg_iload_n dX4_putOpenTree_188 2 rfl ?_
    refine gg_iconst dX4_putOpenTree_189 ?_
    refine gg_callVi (own := RX4) (yt := gm_X1_part) rfl gl_RX4_71 gk_X1_part gr_X1_part dX4_putOpenTree_190 (c_X1_part1 (d := d - 1) hF (gAt_4 hF hA (fun p h1 h2 h3 h4 => (f33 p h1 h2 h3 h4).trans ((f31 p h1 h2 h3 h4).trans (rfl)))) hW.1 (j := i) h1 hi (by omega)) (gFsh hF) (gFlt hF) (by decide) rfl rfl rfl (Nat.le_of_ble_eq_true rfl) (by show _ ≤ d; omega) ⟨Nat.le_refl _, Nat.le_refl _⟩ (fun e35 μ' hc => ?_)
    obtain ⟨rfl, rfl⟩ := hc
    refine gg_iconst dX4_putOpenTree_193 ?_
    refine gg_callVv (own := RX4) (yt := gm_X4_laterTree) rfl gl_RX4_29 gk_X4_laterTree gr_X4_laterTree dX4_putOpenTree_194 (c_X4_laterTree (d := d - 1) (j := ((gPt Z i 1 : Int)).toNat) (as := 3) g33 (by first | omega | (simp only [List.length_append, List.length_cons, List.length_nil]; omega)) (by omega)) sh_28 pl_28 (by decide) rfl rfl rfl (Nat.le_of_ble_eq_true rfl) (by show _ ≤ d; omega) ⟨Nat.le_refl _, Nat.le_refl _⟩ (fun μ' hc => ?_)
    obtain ⟨I36, rfl, g36, f36⟩ := hc
    refine gg_aload_n dX4_putOpenTree_197 0 rfl ?_
    refine gg_bipush dX4_putOpenTree_198 (by decide) ?_
    refine gg_callVv (own := RX4) (yt := gm_X4_laterSign) rfl gl_RX4_57 gk_X4_laterSign gr_X4_laterSign dX4_putOpenTree_200 (c_X4_laterSign (d := d - 1) (x := 63) g36 (by first | omega | (simp only [List.length_append, List.length_cons, List.length_nil]; omega)) (by omega)) sh_28 pl_28 (by decide) rfl rfl rfl (Nat.le_of_ble_eq_true rfl) (by show _ ≤ d; omega) ⟨Nat.le_refl _, Nat.le_refl _⟩ (fun μ' hc => ?_)
    obtain ⟨I38, rfl, g38, f38⟩ := hc
    refine gg_aload_n dX4_putOpenTree_203 0 rfl ?_
    refine gg_iload_n dX4_putOpenTree_204 2 rfl ?_
    refine gg_iconst dX4_putOpenTree_205 ?_
    refine gg_iadd dX4_putOpenTree_206 ?_
    refine gg_iconst dX4_putOpenTree_207 ?_
    refine gg_callVv (own := RX4) (yt := gm_X4_laterTree) rfl gl_RX4_29 gk_X4_laterTree gr_X4_laterTree dX4_putOpenTree_208 (c_X4_laterTree (d := d - 1) (j := (i + 1)) (as := 3) g38 (by first | omega | (simp only [List.length_append, List.length_cons, List.length_nil]; omega)) (by omega)) sh_28 pl_28 (by decide) rfl rfl rfl (Nat.le_of_ble_eq_true rfl) (by show _ ≤ d; omega) ⟨Nat.le_refl _, Nat.le_refl _⟩ (fun μ' hc => ?_)
    obtain ⟨I40, rfl, g40, f40⟩ := hc
    refine gg_goto (tgt := 234) dX4_putOpenTree_211 (by decide) ?_
    refine gg_vretv dX4_putOpenTree_234 rfl ⟨rfl, rfl⟩ ?_
    refine ⟨I40, [], [((gPt Z i 2 * 5 + 3 : Nat) : Int), -58, ((gPt Z i 1 * 5 + 3 : Nat) : Int), -63, (((i + 1) * 5 + 3 : Nat) : Int)], rfl, ?_, fun p h1 h2 h3 h4 => (f40 p h1 h2 h3 h4).trans ((f38 p h1 h2 h3 h4).trans ((f36 p h1 h2 h3 h4).trans ((f33 p h1 h2 h3 h4).trans ((f31 p h1 h2 h3 h4).trans (rfl))))), ?_, ?_, ?_⟩
    · simpa using g40
    · rw [gTx_is n K N Z i hi]
      unfold gpF
      rw [hk]
      simp only [gOtl, List.nil_append]
      rw [gOt1_t (j := (i + 1)) (as := 3) (by omega)]
      rw [gOt1_s (c := 63) (by omega)]
      rw [gOt1_t (j := gPt Z i 1) (as := 3) (by omega)]
      rw [gOt1_s (c := 58) (by omega)]
      rw [gOt1_t (j := gPt Z i 2) (as := 3) (by omega)]
      simp
    · simp only [gWg]
      rw [gWg1_t (j := gPt Z i 2) (as := 3) (by omega)]
      rw [gWg1_s (c := 58) (by omega)]
      rw [gWg1_t (j := gPt Z i 1) (as := 3) (by omega)]
      rw [gWg1_s (c := 63) (by omega)]
      rw [gWg1_t (j := (i + 1)) (as := 3) (by omega)]
      omega
    · intro t ht
      simp only [List.mem_cons, List.not_mem_nil, or_false] at ht
      rcases ht with rfl | rfl | rfl | rfl | rfl
      · exact Or.inr ⟨by omega, by omega⟩
      · exact Or.inl ⟨by omega, by omega⟩
      · exact Or.inr ⟨by omega, by omega⟩
      · exact Or.inl ⟨by omega, by omega⟩
      · exact Or.inr ⟨by omega, by omega⟩
  · refine gg_toI (b := 7) (by omega) ?_
    refine gg_tsw_out (tgt := 214) dX4_putOpenTree_1 (by decide) (by decide) (by decide) ?_
    have h1 := hc1 (by rw [hk]; decide)
    have hz := he1 (by rw [hk]; decide)
    refine gg_aload_n dX4_putOpenTree_214 0 rfl ?_
    refine gg_bipush dX4_putOpenTree_215 (by decide) ?_
    refine gg_callVv (own := RX4) (yt := gm_X4_put) rfl gl_RX4_33 gk_X4_put gr_X4_put dX4_putOpenTree_217 (c_X4_put (d := d - 1) (x := 91) hg (by first | omega | (simp only [List.length_append, List.length_cons, List.length_nil]; omega)) (by omega)) sh_28 pl_28 (by decide) rfl rfl rfl (Nat.le_of_ble_eq_true rfl) (by show _ ≤ d; omega) ⟨Nat.le_refl _, Nat.le_refl _⟩ (fun μ' hc => ?_)
    obtain ⟨I42, rfl, g42, p42⟩ := hc
    refine gg_aload_n dX4_putOpenTree_220 0 rfl ?_
    refine gg_bipush dX4_putOpenTree_221 (by decide) ?_
    refine gg_callVv (own := RX4) (yt := gm_X4_laterSign) rfl gl_RX4_57 gk_X4_laterSign gr_X4_laterSign dX4_putOpenTree_223 (c_X4_laterSign (d := d - 1) (x := 93) g42 (by first | omega | (simp only [List.length_append, List.length_cons, List.length_nil]; omega)) (by omega)) sh_28 pl_28 (by decide) rfl rfl rfl (Nat.le_of_ble_eq_true rfl) (by show _ ≤ d; omega) ⟨Nat.le_refl _, Nat.le_refl _⟩ (fun μ' hc => ?_)
    obtain ⟨I44, rfl, g44, f44⟩ := hc
    refine gg_aload_n dX4_putOpenTree_226 0 rfl ?_
    refine gg_iload_n dX4_putOpenTree_227 2 rfl ?_
    refine gg_iconst dX4_putOpenTree_228 ?_
    refine gg_iadd dX4_putOpenTree_229 ?_
    refine gg_iconst dX4_putOpenTree_230 ?_
    refine gg_callVv (own := RX4) (yt := gm_X4_laterTree) rfl gl_RX4_29 gk_X4_laterTree gr_X4_laterTree dX4_putOpenTree_231 (c_X4_laterTree (d := d - 1) (j := (i + 1)) (as := 4) g44 (by first | omega | (simp only [List.length_append, List.length_cons, List.length_nil]; omega)) (by omega)) sh_28 pl_28 (by decide) rfl rfl rfl (Nat.le_of_ble_eq_true rfl) (by show _ ≤ d; omega) ⟨Nat.le_refl _, Nat.le_refl _⟩ (fun μ' hc => ?_)
    obtain ⟨I46, rfl, g46, f46⟩ := hc
    refine gg_vretv dX4_putOpenTree_234 rfl ⟨rfl, rfl⟩ ?_
    refine ⟨I46, [91], [-93, (((i + 1) * 5 + 4 : Nat) : Int)], rfl, ?_, fun p h1 h2 h3 h4 => (f46 p h1 h2 h3 h4).trans ((f44 p h1 h2 h3 h4).trans ((p42 p h1 h2).trans (rfl))), ?_, ?_, ?_⟩
    · simpa using g46
    · rw [gTx_is n K N Z i hi]
      unfold gpF
      rw [hk]
      simp only [gOtl, List.nil_append]
      rw [gOt1_t (j := (i + 1)) (as := 4) (by omega)]
      rw [gOt1_s (c := 93) (by omega)]
      simp
    · simp only [gWg]
      rw [gWg1_s (c := 93) (by omega)]
      rw [gWg1_t (j := (i + 1)) (as := 4) (by omega)]
      omega
    · intro t ht
      simp only [List.mem_cons, List.not_mem_nil, or_false] at ht
      rcases ht with rfl | rfl
      · exact Or.inl ⟨by omega, by omega⟩
      · exact Or.inr ⟨by omega, by omega⟩

theorem gStands_rng : ∀ k, k < 8 → 0 ≤ gStands k ∧ gStands k ≤ 4 := by decide
set_option maxRecDepth 10000 in
theorem c_X4_putTree {l : Launch} {Γ : gC} {ad : Nat → Nat} {I : Nat → Nat → Int} {J : Nat → Nat → Int64} {d : Nat} {a n : Nat} {K : Nat → Nat} {N : Nat → Int64} {Z : Nat → Nat} (hF : gF a) (hA : gAt I J a n K N Z) (hW : gWf n K N Z) {B R : List Int} {i as : Nat} (hi : i < n) (hg : gPrn I B R) (ha : as < 5) (hB : B.length + (gBr as (K i) (gTx n K N Z i)).length ≤ 4800) (hR : R.length + 8 ≤ 1600) (hd : 5 ≤ d) : gKv l Γ gm_X4_putTree d [.ref (gad (gSS ad) 28), .ref (gad (gSS ad) a), .int (iv (i : Int)), .int (iv (as : Int))] (gSS ad, I, J) (fun μ => ∃ I1 B1 R1, μ = (gSS ad, I1, J) ∧ gPrn I1 (B ++ B1) (R ++ R1) ∧ (∀ p, p ≠ 28 → p ≠ 29 → p ≠ 30 → p ≠ 31 → I1 p = I p) ∧ B1 ++ gOtl n K N Z R1 = gBr as (K i) (gTx n K N Z i) ∧ gWg Z R1 + 1 ≤ 4 * Z i ∧ gTall n R1) := by
  refine gKv_of gk_X4_putTree.1 (Nat.le_of_ble_eq_true rfl) ?_
  show gG l Γ gm_X4_putTree (d, 0, 0, 0, 0) 0 [(0, .ref (gad (gSS ad) 28)), (1, .ref (gad (gSS ad) a)), (2, .int (iv (i : Int))), (3, .int (iv (as : Int)))] [] _ _
  have hK := (hW.2.2 i hi).1
  refine gg_aload_n dX4_putTree_0 1 rfl ?_
  refine gg_iload_n dX4_putTree_1 2 rfl ?_
  refine gg_callVi (own := RX4) (yt := gm_X1_kind) rfl gl_RX4_44 gk_X1_kind gr_X1_kind dX4_putTree_2 (c_X1_kind (d := d - 1) hF hA hW.1 (j := i) hi (by omega)) (gFsh hF) (gFlt hF) (by decide) rfl rfl rfl (Nat.le_of_ble_eq_true rfl) (by show _ ≤ d; omega) ⟨Nat.le_refl _, Nat.le_refl _⟩ (fun e1 μ' hc => ?_)
  obtain ⟨rfl, rfl⟩ := hc
  refine gg_istore (ls' := [(4, .int (iv (K i : Int))), (0, .ref (gad (gSS ad) 28)), (1, .ref (gad (gSS ad) a)), (2, .int (iv (i : Int))), (3, .int (iv (as : Int)))]) dX4_putTree_5 (by decide) rfl ?_
  refine gg_iload dX4_putTree_7 0 rfl ?_
  refine gg_callSNi (own := RX4) (host := RX9) (yt := gm_X9_isKind) rfl (by decide +kernel) gk_X9_isKind gr_X9_isKind dX4_putTree_9 (c_X9_isKind (d := d - 1) (by omega)) rfl rfl (Nat.le_of_ble_eq_true rfl) (by show _ ≤ d; omega) ⟨Nat.le_refl _, Nat.le_refl _⟩ (fun e2 μ' hc => ?_)
  obtain ⟨rfl, ⟨rfl, hb3⟩ | ⟨rfl, hb3⟩⟩ := hc
  rotate_left
  · omega
  refine gg_if_eq_f (tgt := 37) dX4_putTree_12 (by decide) (by decide) (by decide) ?_
  refine gg_stands gStandsW rfl dX4_putTree_15 ?_
  refine gg_iload dX4_putTree_18 0 rfl ?_
  refine gg_stands_atj (K i) dX4_putTree_20 rfl hK ?_
  refine gg_iload_n dX4_putTree_21 4 rfl ?_
  refine gg_icmp_le (tgt := 37) dX4_putTree_22 (by decide) (by have := gStands_rng _ hK; omega) (fun hs => ?_) (fun hs => ?_)
  · have hbr : gBr as (K i) (gTx n K N Z i) = gTx n K N Z i := by unfold gBr; rw [if_neg (by omega)]
    rw [hbr] at hB
    refine gg_aload_n dX4_putTree_37 1 rfl ?_
    refine gg_aload_n dX4_putTree_38 2 rfl ?_
    refine gg_iload_n dX4_putTree_39 3 rfl ?_
    refine gg_iload dX4_putTree_40 0 rfl ?_
    refine gg_callVv (own := RX4) (yt := gm_X4_putOpenTree) rfl gl_RX4_60 gk_X4_putOpenTree gr_X4_putOpenTree dX4_putTree_42 (c_X4_putOpenTree (d := d - 1) hF hA hW (B := B) (R := R) hi hg (by omega) (by omega) (by omega)) sh_28 pl_28 (by decide) rfl rfl rfl (Nat.le_of_ble_eq_true rfl) (by show _ ≤ d; omega) ⟨Nat.le_refl _, Nat.le_refl _⟩ (fun μ' hc => ?_)
    obtain ⟨I4, B1, R1, rfl, g4, f4, hT, hWg, hal⟩ := hc
    refine gg_vretv dX4_putTree_45 rfl ⟨rfl, rfl⟩ ?_
    exact ⟨I4, B1, R1, rfl, g4, fun p h1 h2 h3 h4 => (f4 p h1 h2 h3 h4).trans (rfl), by rw [hbr]; exact hT, by omega, hal⟩
  · have hbr : gBr as (K i) (gTx n K N Z i) = 40 :: (gTx n K N Z i ++ [41]) := by unfold gBr; rw [if_pos (by omega)]
    rw [hbr] at hB
    simp only [List.length_cons, List.length_append, List.length_nil] at hB
    refine gg_aload_n dX4_putTree_25 1 rfl ?_
    refine gg_bipush dX4_putTree_26 (by decide) ?_
    refine gg_callVv (own := RX4) (yt := gm_X4_put) rfl gl_RX4_33 gk_X4_put gr_X4_put dX4_putTree_28 (c_X4_put (d := d - 1) (x := 40) hg (by omega) (by omega)) sh_28 pl_28 (by decide) rfl rfl rfl (Nat.le_of_ble_eq_true rfl) (by show _ ≤ d; omega) ⟨Nat.le_refl _, Nat.le_refl _⟩ (fun μ' hc => ?_)
    obtain ⟨I6, rfl, g6, p6⟩ := hc
    refine gg_aload_n dX4_putTree_31 1 rfl ?_
    refine gg_bipush dX4_putTree_32 (by decide) ?_
    refine gg_callVv (own := RX4) (yt := gm_X4_laterSign) rfl gl_RX4_57 gk_X4_laterSign gr_X4_laterSign dX4_putTree_34 (c_X4_laterSign (d := d - 1) (x := 41) g6 (by first | omega | (simp only [List.length_append, List.length_cons, List.length_nil]; omega)) (by omega)) sh_28 pl_28 (by decide) rfl rfl rfl (Nat.le_of_ble_eq_true rfl) (by show _ ≤ d; omega) ⟨Nat.le_refl _, Nat.le_refl _⟩ (fun μ' hc => ?_)
    obtain ⟨I8, rfl, g8, f8⟩ := hc
    refine gg_aload_n dX4_putTree_37 1 rfl ?_
    refine gg_aload_n dX4_putTree_38 2 rfl ?_
    refine gg_iload_n dX4_putTree_39 3 rfl ?_
    refine gg_iload dX4_putTree_40 0 rfl ?_
    refine gg_callVv (own := RX4) (yt := gm_X4_putOpenTree) rfl gl_RX4_60 gk_X4_putOpenTree gr_X4_putOpenTree dX4_putTree_42 (c_X4_putOpenTree (d := d - 1) hF (gAt_4 hF hA (fun p h1 h2 h3 h4 => (f8 p h1 h2 h3 h4).trans ((p6 p h1 h2).trans (rfl)))) hW (B := (B ++ [40])) (R := (R ++ [-41])) hi g8 (by simp only [List.length_append, List.length_cons, List.length_nil]; omega) (by simp only [List.length_append, List.length_cons, List.length_nil]; omega) (by omega)) sh_28 pl_28 (by decide) rfl rfl rfl (Nat.le_of_ble_eq_true rfl) (by show _ ≤ d; omega) ⟨Nat.le_refl _, Nat.le_refl _⟩ (fun μ' hc => ?_)
    obtain ⟨I10, B1, R1, rfl, g10, f10, hT, hWg, hal⟩ := hc
    refine gg_vretv dX4_putTree_45 rfl ⟨rfl, rfl⟩ ?_
    refine ⟨I10, 40 :: B1, -41 :: R1, rfl, by simpa using g10, fun p h1 h2 h3 h4 => (f10 p h1 h2 h3 h4).trans ((f8 p h1 h2 h3 h4).trans ((p6 p h1 h2).trans (rfl))), ?_, ?_, ?_⟩
    · rw [hbr]
      simp only [gOtl]
      rw [gOt1_s (c := 41) (by omega), ← hT]
      simp
    · simp only [gWg]
      rw [gWg1_s (c := 41) (by omega)]
      omega
    · intro t ht
      rcases List.mem_cons.mp ht with rfl | ht
      · exact Or.inl ⟨by omega, by omega⟩
      · exact hal t ht

set_option maxRecDepth 10000 in
theorem w_X4_printed {l : Launch} {Γ : gC} {ad : Nat → Nat} {I0 : Nat → Nat → Int} {J : Nat → Nat → Int64} {d : Nat} {a n : Nat} {K : Nat → Nat} {N : Nat → Int64} {Z : Nat → Nat} (hF : gF a) (hA : gAt I0 J a n K N Z) (hW : gWf n K N Z) (hn0 : 0 < n) (hd : 6 ≤ d) : ∀ (m : Nat) (i : Nat) (B R : List Int) (I : Nat → Nat → Int), 800 - i < m → (i + gWg Z R ≤ 800) → (gPrn I B R) → (gTall n R) → (B ++ gOtl n K N Z R = gTx n K N Z 0) → (∀ p, p ≠ 28 → p ≠ 29 → p ≠ 30 → p ≠ 31 → I p = I0 p) → gG l Γ gm_X4_printed (d, 0, 0, 0, 0) 18 [(2, .int (iv (i : Int))), (0, .ref (gad (gSS ad) 28)), (1, .ref (gad (gSS ad) a))] [] (gSS ad, I, J) (gDi (fun e μ => ∃ I1, μ = (gSS ad, I1, J) ∧ I1 28 1 = ((gTx n K N Z 0).length : Int) ∧ gLst I1 29 (gTx n K N Z 0) ∧ (∀ p, p ≠ 28 → p ≠ 29 → p ≠ 30 → p ≠ 31 → I1 p = I0 p) ∧ e = ((gTx n K N Z 0).length : Int))) := by
  intro m
  induction m with
  | zero => intros; omega
  | succ m ih =>
    intro i B R I hm hi hg hal hT hI
    have hlen : (gTx n K N Z 0).length ≤ 4796 := by have := (gP_len hW 0 hn0).2; have := hW.2.1 hn0; have := hW.1; omega
    have hwl := gWg_len hW R hal
    have hnn := hW.1
    refine gg_iload_n dX4_printed_18 0 rfl ?_
    refine gg_sipush dX4_printed_19 (by decide) ?_
    refine gg_icmp_ge_f (tgt := 82) dX4_printed_22 (by decide) (by omega) (by omega) ?_
    refine gg_aload_n dX4_printed_25 1 rfl ?_
    refine gg_getI rfl gf_RX4_26 dX4_printed_26 sh_28 pl_28 (by decide) (by decide) ?_
    refine gg_toI (b := (R.length : Int)) hg.2.2.1 ?_
    refine gg_if_le (tgt := 82) dX4_printed_29 (by decide) (by omega) (fun hb => ?_) (fun hb => ?_)
    · have hR0 : R = [] := List.length_eq_zero_iff.mp (by omega)
      subst hR0
      have hBT : B = gTx n K N Z 0 := by simpa [gOtl] using hT
      refine gg_aload_n dX4_printed_82 1 rfl ?_
      refine gg_getI rfl gf_RX4_22 dX4_printed_83 sh_28 pl_28 (by decide) (by decide) ?_
      refine gg_toI (b := ((gTx n K N Z 0).length : Int)) (by rw [← hBT]; exact hg.1) ?_
      refine gg_ireti dX4_printed_86 rfl ⟨rfl, rfl⟩ ?_
      exact ⟨I, rfl, by rw [← hBT]; exact hg.1, by rw [← hBT]; exact hg.2.1, hI, rfl⟩
    · rcases gLs_split R with hR0 | ⟨R1, t, hR1⟩
      · rw [hR0] at hb; exact absurd hb (by simp)
      subst hR1
      have hRl : (R1 ++ [t]).length = R1.length + 1 := by simp
      have ht : gTok n t := hal t (by simp)
      have hal1 : gTall n R1 := fun x hx => hal x (by simp [hx])
      rw [gWg_app] at hi
      rw [gOtl_app] at hT
      have hTl := congrArg List.length hT
      simp only [List.length_append, gOtl, List.nil_append] at hTl
      refine gg_aload_n dX4_printed_32 1 rfl ?_
      refine gg_dup dX4_printed_33 rfl ?_
      refine gg_getI rfl gf_RX4_26 dX4_printed_34 sh_28 pl_28 (by decide) (by decide) ?_
      refine gg_toI (b := ((R1.length + 1 : Nat) : Int)) (by rw [hg.2.2.1, hRl]) ?_
      refine gg_iconst dX4_printed_37 ?_
      refine gg_isub dX4_printed_38 ?_
      refine gg_toI (b := (R1.length : Int)) (by omega) ?_
      refine gg_putI rfl gf_RX4_26 dX4_printed_39 sh_28 pl_28 (by decide) (by decide) (by decide) (gfit_i _) ?_
      refine gg_memI (fun I2 hI2 => ?_)
      have hg2 : gPrn I2 B R1 := ⟨by rw [hI2, gu_n (by omega)]; exact hg.1, gLst_same hg.2.1 (by rw [hI2, gu_other (by omega)]), by rw [hI2, gu_s], gLst_same (gLst_init hg.2.2.2) (by rw [hI2, gu_other (by omega)])⟩
      refine gg_aload_n dX4_printed_42 1 rfl ?_
      refine gg_getR (k' := 30) rfl gf_RX4_15 dX4_printed_43 sh_28 pl_28 (by decide) (by decide) rr_28_2 ?_
      refine gg_aload_n dX4_printed_46 1 rfl ?_
      refine gg_getI rfl gf_RX4_26 dX4_printed_47 sh_28 pl_28 (by decide) (by decide) ?_
      refine gg_toI (b := (R1.length : Int)) hg2.2.2.1 ?_
      refine gg_ialdj R1.length dX4_printed_50 sh_30 pl_30 (by decide) rfl (by have := gWg_len hW _ hal; rw [gWg_app] at this; omega) ?_
      refine gg_toI (b := t) (by rw [hI2, gu_other (by omega)]; exact gLst_last hg.2.2.2) ?_
      refine gg_istore_n (ls' := [(3, .int (iv t)), (2, .int (iv (i : Int))), (0, .ref (gad (gSS ad) 28)), (1, .ref (gad (gSS ad) a))]) dX4_printed_51 rfl (by decide) rfl ?_
      refine gg_iload_n dX4_printed_52 0 rfl ?_
      refine gg_if_ge (tgt := 65) dX4_printed_53 (by decide) (by rcases ht with h | h <;> omega) (fun hts => ?_) (fun hts => ?_)
      · have ht2 : t / 5 < (n : Int) := by rcases ht with h | h <;> omega
        obtain ⟨j, hj⟩ : ∃ j : Nat, t / 5 = (j : Int) := ⟨(t / 5).toNat, by omega⟩
        obtain ⟨as, has⟩ : ∃ as : Nat, t % 5 = (as : Int) := ⟨(t % 5).toNat, by omega⟩
        have hte : t = ((j * 5 + as : Nat) : Int) := by omega
        have ho1 : gOt1 n K N Z t = gBr as (K j) (gTx n K N Z j) := by rw [hte]; exact gOt1_t (by omega)
        have hw1 : gWg1 Z t = 4 * Z j := by rw [hte]; exact gWg1_t (by omega)
        simp only [gWg] at hi
        simp only [gOtl, List.nil_append] at hT
        rw [ho1] at hTl hT
        rw [hw1] at hi
        have hjn : j < n := by omega
        have hlr := gWg_len hW _ hal1
        refine gg_aload_n dX4_printed_65 2 rfl ?_
        refine gg_aload_n dX4_printed_66 3 rfl ?_
        refine gg_iload_n dX4_printed_67 0 rfl ?_
        refine gg_iconst dX4_printed_68 ?_
        refine gg_idiv dX4_printed_69 (by omega) ?_
        refine gg_toI (b := (j : Int)) hj ?_
        refine gg_iload_n dX4_printed_70 0 rfl ?_
        refine gg_iconst dX4_printed_71 ?_
        refine gg_irem dX4_printed_72 (by omega) ?_
        refine gg_toI (b := (as : Int)) has ?_
        refine gg_callVv (own := RX4) (yt := gm_X4_putTree) rfl gl_RX4_37 gk_X4_putTree gr_X4_putTree dX4_printed_73 (c_X4_putTree (d := d - 1) hF (gAt_4 hF hA (fun p h1 h2 h3 h4 => by rw [hI2, gu_other h1]; exact hI p h1 h2 h3 h4)) hW (B := B) (R := R1) (i := j) (as := as) hjn hg2 (by omega) (by omega) (by omega) (by omega)) sh_28 pl_28 (by decide) rfl rfl rfl (Nat.le_of_ble_eq_true rfl) (by show _ ≤ d; omega) ⟨Nat.le_refl _, Nat.le_refl _⟩ (fun μ' hc => ?_)
        obtain ⟨I3, B3, R3, rfl, g3, f3, hT3, hW3, hal3⟩ := hc
        refine gg_iincv (ls' := [(2, .int (iv ((i + 1 : Nat) : Int))), (3, .int (iv t)), (0, .ref (gad (gSS ad) 28)), (1, .ref (gad (gSS ad) a))]) dX4_printed_76 1 rfl (by omega) (by decide) rfl ?_
        refine gg_goto (tgt := 18) dX4_printed_79 (by decide) ?_
        refine gg_sub [0, 2, 3] rfl ?_
        first
        | exact ih (i + 1) (B ++ [-t]) R1 I3 (by omega) (by omega) g3 hal1 (by rw [← hT]; simp) (fun p h1 h2 h3 h4 => by rw [f3 p h1 h2, hI2, gu_other h1]; exact hI p h1 h2 h3 h4)
        | exact ih (i + 1) (B ++ B3) (R1 ++ R3) I3 (by omega) (by rw [gWg_app]; omega) g3 (fun x hx => (List.mem_append.mp hx).elim (hal1 x) (hal3 x)) (by rw [← hT, ← hT3, gOtl_app]; simp) (fun p h1 h2 h3 h4 => by rw [f3 p h1 h2 h3 h4, hI2, gu_other h1]; exact hI p h1 h2 h3 h4)
      · have hts2 : -127 ≤ t ∧ t < 0 := by rcases ht with h | h <;> omega
        have ho1 : gOt1 n K N Z t = [-t] := by unfold gOt1; rw [if_pos hts2.2]
        have hw1 : gWg1 Z t = 1 := by unfold gWg1; rw [if_pos hts2.2]
        simp only [gWg] at hi
        rw [hw1] at hi
        simp only [gOtl, List.nil_append] at hT
        rw [ho1] at hTl hT
        simp only [List.length_cons, List.length_nil] at hTl
        have hlr := gWg_len hW _ hal1
        refine gg_aload_n dX4_printed_56 2 rfl ?_
        refine gg_iload_n dX4_printed_57 0 rfl ?_
        refine gg_ineg dX4_printed_58 ?_
        refine gg_callVv (own := RX4) (yt := gm_X4_put) rfl gl_RX4_33 gk_X4_put gr_X4_put dX4_printed_59 (c_X4_put (d := d - 1) (x := (-t)) hg2 (by omega) (by omega)) sh_28 pl_28 (by decide) rfl rfl rfl (Nat.le_of_ble_eq_true rfl) (by show _ ≤ d; omega) ⟨Nat.le_refl _, Nat.le_refl _⟩ (fun μ' hc => ?_)
        obtain ⟨I3, rfl, g3, f3⟩ := hc
        refine gg_goto (tgt := 76) dX4_printed_62 (by decide) ?_
        refine gg_iincv (ls' := [(2, .int (iv ((i + 1 : Nat) : Int))), (3, .int (iv t)), (0, .ref (gad (gSS ad) 28)), (1, .ref (gad (gSS ad) a))]) dX4_printed_76 1 rfl (by omega) (by decide) rfl ?_
        refine gg_goto (tgt := 18) dX4_printed_79 (by decide) ?_
        refine gg_sub [0, 2, 3] rfl ?_
        first
        | exact ih (i + 1) (B ++ [-t]) R1 I3 (by omega) (by omega) g3 hal1 (by rw [← hT]; simp) (fun p h1 h2 h3 h4 => by rw [f3 p h1 h2, hI2, gu_other h1]; exact hI p h1 h2 h3 h4)
        | exact ih (i + 1) (B ++ B3) (R1 ++ R3) I3 (by omega) (by rw [gWg_app]; omega) g3 (fun x hx => (List.mem_append.mp hx).elim (hal1 x) (hal3 x)) (by rw [← hT, ← hT3, gOtl_app]; simp) (fun p h1 h2 h3 h4 => by rw [f3 p h1 h2 h3 h4, hI2, gu_other h1]; exact hI p h1 h2 h3 h4)

set_option maxRecDepth 10000 in
theorem c_X4_printed {l : Launch} {Γ : gC} {ad : Nat → Nat} {I : Nat → Nat → Int} {J : Nat → Nat → Int64} {d : Nat} {a n : Nat} {K : Nat → Nat} {N : Nat → Int64} {Z : Nat → Nat} (hF : gF a) (hA : gAt I J a n K N Z) (hW : gWf n K N Z) (hn0 : 0 < n) (hd : 6 ≤ d) : gKi l Γ gm_X4_printed d [.ref (gad (gSS ad) 28), .ref (gad (gSS ad) a)] (gSS ad, I, J) (fun e μ => ∃ I1, μ = (gSS ad, I1, J) ∧ I1 28 1 = ((gTx n K N Z 0).length : Int) ∧ gLst I1 29 (gTx n K N Z 0) ∧ (∀ p, p ≠ 28 → p ≠ 29 → p ≠ 30 → p ≠ 31 → I1 p = I p) ∧ e = ((gTx n K N Z 0).length : Int)) := by
  refine gKi_of gk_X4_printed.1 (Nat.le_of_ble_eq_true rfl) ?_
  show gG l Γ gm_X4_printed (d, 0, 0, 0, 0) 0 [(0, .ref (gad (gSS ad) 28)), (1, .ref (gad (gSS ad) a))] [] _ _
  refine gg_aload_n dX4_printed_0 0 rfl ?_
  refine gg_iconst dX4_printed_1 ?_
  refine gg_putI rfl gf_RX4_22 dX4_printed_2 sh_28 pl_28 (by decide) (by decide) (by decide) (gfit_i _) ?_
  refine gg_aload_n dX4_printed_5 0 rfl ?_
  refine gg_iconst dX4_printed_6 ?_
  refine gg_putI rfl gf_RX4_26 dX4_printed_7 sh_28 pl_28 (by decide) (by decide) (by decide) (gfit_i _) ?_
  refine gg_aload_n dX4_printed_10 0 rfl ?_
  refine gg_iconst dX4_printed_11 ?_
  refine gg_iconst dX4_printed_12 ?_
  have hg0 : gPrn (gu (gu I 28 1 0) 28 3 0) [] [] := ⟨(gu_n (by omega)).trans gu_s, gLst_nil, gu_s, gLst_nil⟩
  refine gg_callVv (own := RX4) (yt := gm_X4_laterTree) rfl gl_RX4_29 gk_X4_laterTree gr_X4_laterTree dX4_printed_13 (c_X4_laterTree (d := d - 1) (j := 0) (as := 4) hg0 (by decide) (by omega)) sh_28 pl_28 (by decide) rfl rfl rfl (Nat.le_of_ble_eq_true rfl) (by show _ ≤ d; omega) ⟨Nat.le_refl _, Nat.le_refl _⟩ (fun μ' hc => ?_)
  obtain ⟨I2, rfl, g2, f2⟩ := hc
  refine gg_iconst dX4_printed_16 ?_
  refine gg_istore_n (ls' := [(2, .int (iv 0)), (0, .ref (gad (gSS ad) 28)), (1, .ref (gad (gSS ad) a))]) dX4_printed_17 rfl (by decide) rfl ?_
  have hz := hW.2.1 hn0
  have hn := hW.1
  have hK := (hW.2.2 0 hn0).1
  refine gg_sub [0, 1, 2] rfl ?_
  refine gG_post (w_X4_printed hF (gAt_4 hF hA (fun p h1 h2 h3 h4 => (f2 p h1 h2 h3 h4).trans ((gu_other h1).trans (gu_other h1)))) hW hn0 hd 801 0 [] [((0 * 5 + 4 : Nat) : Int)] I2 (by omega) ?_ g2 ?_ ?_ (fun p h1 h2 h3 h4 => rfl)) (fun r μ h => ?_)
  · simp only [gWg]
    rw [gWg1_t (j := 0) (as := 4) (by omega)]
    omega
  · intro t ht
    simp only [List.mem_cons, List.not_mem_nil, or_false] at ht
    subst ht
    exact Or.inr ⟨by omega, by omega⟩
  · simp only [gOtl, List.nil_append]
    rw [gOt1_t (j := 0) (as := 4) (by omega)]
    unfold gBr
    rw [if_neg (by have := gStands_rng _ hK; omega)]
  · obtain ⟨e, rfl, I1, rfl, h1, h2, h3, h4⟩ := h
    exact ⟨e, rfl, I1, rfl, h1, h2, fun p a b c e => (h3 p a b c e).trans ((f2 p a b c e).trans ((gu_other a).trans (gu_other a))), h4⟩

set_option maxRecDepth 10000 in
theorem c_X4_byteAt {l : Launch} {Γ : gC} {ad : Nat → Nat} {I : Nat → Nat → Int} {J : Nat → Nat → Int64} {d : Nat} {k m : Nat} (hm : I 28 1 = (m : Int)) (hk : k < m) (hm4 : m ≤ 4800) : gKi l Γ gm_X4_byteAt d [.ref (gad (gSS ad) 28), .int (iv (k : Int))] (gSS ad, I, J) (fun e μ => μ = (gSS ad, I, J) ∧ e = I 29 k) := by
  refine gKi_of gk_X4_byteAt.1 (Nat.le_of_ble_eq_true rfl) ?_
  show gG l Γ gm_X4_byteAt (d, 0, 0, 0, 0) 0 [(0, .ref (gad (gSS ad) 28)), (1, .int (iv (k : Int)))] [] _ _
  refine gg_iload_n dX4_byteAt_0 1 rfl ?_
  refine gg_if_lt_f (tgt := 21) dX4_byteAt_1 (by decide) (by omega) (by omega) ?_
  refine gg_iload_n dX4_byteAt_4 1 rfl ?_
  refine gg_aload_n dX4_byteAt_5 0 rfl ?_
  refine gg_getI rfl gf_RX4_22 dX4_byteAt_6 sh_28 pl_28 (by decide) (by decide) ?_
  refine gg_toI (b := (m : Int)) hm ?_
  refine gg_icmp_ge_f (tgt := 21) dX4_byteAt_9 (by decide) (by omega) (by omega) ?_
  refine gg_aload_n dX4_byteAt_12 0 rfl ?_
  refine gg_getR (k' := 29) rfl gf_RX4_11 dX4_byteAt_13 sh_28 pl_28 (by decide) (by decide) rr_28_0 ?_
  refine gg_iload_n dX4_byteAt_16 1 rfl ?_
  refine gg_baldj k dX4_byteAt_17 sh_29 pl_29 (by decide) rfl (by omega) ?_
  refine gg_goto (tgt := 22) dX4_byteAt_18 (by decide) ?_
  refine gg_ireti dX4_byteAt_22 rfl ⟨rfl, rfl⟩ ?_
  exact ⟨rfl, rfl⟩

/-- what print tells -/
noncomputable def gPrt (n : Nat) (K : Nat → Nat) (N : Nat → Int64) (Z : Nat → Nat) (k : Int) : Int := if n = 0 then -3 else if k < -1 ∨ ((gTx n K N Z 0).length : Int) ≤ k then -12 else if k < 0 then ((gTx n K N Z 0).length : Int) else (gTx n K N Z 0).getD k.toNat 0
set_option maxRecDepth 10000 in
theorem c_X9_print {l : Launch} {Γ : gC} {ad : Nat → Nat} {I : Nat → Nat → Int} {J : Nat → Nat → Int64} {d : Nat} {f n : Nat} {K : Nat → Nat} {N : Nat → Int64} {Z : Nat → Nat} (hf : f < 12) (hA : gAt I J (41 + 8 * f) n K N Z) (hW : gWf n K N Z) {k : Int} (hk : -2147483648 ≤ k ∧ k ≤ 2147483647) (hd : 7 ≤ d) : gKi l Γ gm_X9_print d [.ref (gad (gSS ad) 0), .int (iv (f : Int)), .int (iv k)] (gSS ad, I, J) (fun e μ => ∃ I', μ = (gSS ad, I', J) ∧ (∀ p, p ≠ 28 → p ≠ 29 → p ≠ 30 → p ≠ 31 → I' p = I p) ∧ e = gPrt n K N Z k) := by
  refine gKi_of gk_X9_print.1 (Nat.le_of_ble_eq_true rfl) ?_
  show gG l Γ gm_X9_print (d, 0, 0, 0, 0) 0 [(0, .ref (gad (gSS ad) 0)), (1, .int (iv (f : Int))), (2, .int (iv k))] [] _ _
  refine gg_aload_n dX9_print_0 0 rfl ?_
  refine gg_iload_n dX9_print_1 1 rfl ?_
  refine gg_iconst dX9_print_2 ?_
  refine gg_callVi (own := RX9) (yt := gm_X9_refusalOf) rfl gl_RX9_166 gk_X9_refusalOf gr_X9_refusalOf dX9_print_3 (c_X9_refusalOf (d := d - 1) hf hA hW (by omega)) sh_0 pl_0 (by decide) rfl rfl rfl (Nat.le_of_ble_eq_true rfl) (by show _ ≤ d; omega) ⟨Nat.le_refl _, Nat.le_refl _⟩ (fun e1 μ' hc => ?_)
  obtain ⟨rfl, ⟨rfl, hn0⟩ | ⟨rfl, hn0⟩⟩ := hc
  · refine gg_istore_n (ls' := [(3, .int (iv (-3))), (0, .ref (gad (gSS ad) 0)), (1, .int (iv (f : Int))), (2, .int (iv k))]) dX9_print_6 rfl (by decide) rfl ?_
    refine gg_iload_n dX9_print_7 0 rfl ?_
    refine gg_if_eq_f (tgt := 13) dX9_print_8 (by decide) (by decide) (by decide) ?_
    refine gg_iload_n dX9_print_11 0 rfl ?_
    refine gg_ireti dX9_print_12 rfl ⟨rfl, rfl⟩ ?_
    exact ⟨I, rfl, fun _ _ _ _ _ => rfl, by unfold gPrt; rw [if_pos hn0]⟩
  · refine gg_istore_n (ls' := [(3, .int (iv 0)), (0, .ref (gad (gSS ad) 0)), (1, .int (iv (f : Int))), (2, .int (iv k))]) dX9_print_6 rfl (by decide) rfl ?_
    refine gg_iload_n dX9_print_7 0 rfl ?_
    refine gg_if_eq_t (tgt := 13) dX9_print_8 (by decide) (by decide) (by decide) ?_
    refine gg_aload_n dX9_print_13 1 rfl ?_
    refine gg_getR (k' := 28) rfl gf_RX9_75 dX9_print_14 sh_0 pl_0 (by decide) (by decide) rr_0_13 ?_
    refine gg_aload_n dX9_print_17 1 rfl ?_
    refine gg_getR (k' := 1) rfl gf_RX9_11 dX9_print_18 sh_0 pl_0 (by decide) (by decide) rr_0_0 ?_
    refine gg_iload_n dX9_print_21 2 rfl ?_
    refine gg_aaldj (t := 4) f (k' := (41 + 8 * f)) dX9_print_22 sh_1 (by decide) pl_1 (by decide) rfl hf (rr_1 hf) ?_
    refine gg_callVi (own := RX9) (yt := gm_X4_printed) rfl gl_RX9_182 gk_X4_printed gr_X4_printed dX9_print_23 (c_X4_printed (d := d - 1) (gF_fo f hf) hA hW (by omega) (by omega)) sh_28 pl_28 (by decide) rfl rfl rfl (Nat.le_of_ble_eq_true rfl) (by show _ ≤ d; omega) ⟨Nat.le_refl _, Nat.le_refl _⟩ (fun e2 μ' hc => ?_)
    obtain ⟨I2, rfl, hs2, hl2, hI2, rfl⟩ := hc
    have hlen : (gTx n K N Z 0).length ≤ 4796 := by have := (gP_len hW 0 (by omega)).2; have := hW.2.1 (by omega); have := hW.1; omega
    refine gg_istore (ls' := [(4, .int (iv ((gTx n K N Z 0).length : Int))), (3, .int (iv 0)), (0, .ref (gad (gSS ad) 0)), (1, .int (iv (f : Int))), (2, .int (iv k))]) dX9_print_26 (by decide) rfl ?_
    refine gg_iload_n dX9_print_28 4 rfl ?_
    refine gg_iconst dX9_print_29 ?_
    refine gg_icmp_lt (tgt := 39) dX9_print_30 (by decide) (by omega) (fun hb1 => ?_) (fun hb1 => ?_)
    · refine gg_bipush dX9_print_39 (by decide) ?_
      refine gg_ireti dX9_print_41 rfl ⟨rfl, rfl⟩ ?_
      exact ⟨I2, rfl, hI2, by unfold gPrt; rw [if_neg hn0, if_pos (by omega)]⟩
    · refine gg_iload_n dX9_print_33 4 rfl ?_
      refine gg_iload dX9_print_34 0 rfl ?_
      refine gg_icmp_lt (tgt := 42) dX9_print_36 (by decide) (by omega) (fun hb2 => ?_) (fun hb2 => ?_)
      · refine gg_iload_n dX9_print_42 4 rfl ?_
        refine gg_if_ge (tgt := 51) dX9_print_43 (by decide) (by omega) (fun hb3 => ?_) (fun hb3 => ?_)
        · refine gg_aload_n dX9_print_51 2 rfl ?_
          refine gg_getR (k' := 28) rfl gf_RX9_75 dX9_print_52 sh_0 pl_0 (by decide) (by decide) rr_0_13 ?_
          refine gg_iload_n dX9_print_55 4 rfl ?_
          refine gg_toI (b := (k.toNat : Int)) (by omega) ?_
          refine gg_callVi (own := RX9) (yt := gm_X4_byteAt) rfl gl_RX9_186 gk_X4_byteAt gr_X4_byteAt dX9_print_56 (c_X4_byteAt (d := d - 1) (k := k.toNat) hs2 (by omega) (by omega)) sh_28 pl_28 (by decide) rfl rfl rfl (Nat.le_of_ble_eq_true rfl) (by show _ ≤ d; omega) ⟨Nat.le_refl _, Nat.le_refl _⟩ (fun e3 μ' hc => ?_)
          obtain ⟨rfl, rfl⟩ := hc
          refine gg_ireti dX9_print_59 rfl ⟨rfl, rfl⟩ ?_
          exact ⟨I2, rfl, hI2, by unfold gPrt; rw [if_neg hn0, if_neg (by omega), if_neg (by omega)]; exact gLst_getD hl2 (by omega)⟩
        · refine gg_iload dX9_print_46 0 rfl ?_
          refine gg_goto (tgt := 59) dX9_print_48 (by decide) ?_
          refine gg_ireti dX9_print_59 rfl ⟨rfl, rfl⟩ ?_
          exact ⟨I2, rfl, hI2, by unfold gPrt; rw [if_neg hn0, if_neg (by omega), if_pos (by omega)]⟩
      · refine gg_bipush dX9_print_39 (by decide) ?_
        refine gg_ireti dX9_print_41 rfl ⟨rfl, rfl⟩ ?_
        exact ⟨I2, rfl, hI2, by unfold gPrt; rw [if_neg hn0, if_pos (by omega)]⟩

set_option maxRecDepth 10000 in
theorem c_X9_print_out {l : Launch} {Γ : gC} {ad : Nat → Nat} {I : Nat → Nat → Int} {J : Nat → Nat → Int64} {d : Nat} {i k : Int} (hi : -2147483648 ≤ i ∧ i ≤ 2147483647) (ho : ¬ (0 ≤ i ∧ i ≤ 11)) (hd : 3 ≤ d) : gKi l Γ gm_X9_print d [.ref (gad (gSS ad) 0), .int (iv i), .int (iv k)] (gSS ad, I, J) (fun e μ => μ = (gSS ad, I, J) ∧ e = -2) := by
  refine gKi_of gk_X9_print.1 (Nat.le_of_ble_eq_true rfl) ?_
  show gG l Γ gm_X9_print (d, 0, 0, 0, 0) 0 [(0, .ref (gad (gSS ad) 0)), (1, .int (iv i)), (2, .int (iv k))] [] _ _
  refine gg_aload_n dX9_print_0 0 rfl ?_
  refine gg_iload_n dX9_print_1 1 rfl ?_
  refine gg_iconst dX9_print_2 ?_
  refine gg_callVi (own := RX9) (yt := gm_X9_refusalOf) rfl gl_RX9_166 gk_X9_refusalOf gr_X9_refusalOf dX9_print_3 (c_X9_refusalOf_out (d := d - 1) (b := 1) (by omega) (by omega) (by omega) (by omega)) sh_0 pl_0 (by decide) rfl rfl rfl (Nat.le_of_ble_eq_true rfl) (by show _ ≤ d; omega) ⟨Nat.le_refl _, Nat.le_refl _⟩ (fun e1 μ' hc => ?_)
  obtain ⟨rfl, rfl⟩ := hc
  refine gg_istore_n (ls' := [(3, .int (iv (-2))), (0, .ref (gad (gSS ad) 0)), (1, .int (iv i)), (2, .int (iv k))]) dX9_print_6 rfl (by decide) rfl ?_
  refine gg_iload_n dX9_print_7 0 rfl ?_
  refine gg_if_eq_f (tgt := 13) dX9_print_8 (by decide) (by decide) (by decide) ?_
  refine gg_iload_n dX9_print_11 0 rfl ?_
  refine gg_ireti dX9_print_12 rfl ⟨rfl, rfl⟩ ?_
  exact ⟨rfl, rfl⟩

