/-! tokens of a tape of n bytes -/
def gRnB (P : Int → Bool) (T : Nat → Int) (n : Nat) : Nat → Nat → Nat
  | 0, q => q
  | m + 1, q => if q < n ∧ P (T q) = true then gRnB P T n m (q + 1) else q
/-- behind the bytes that are such -/
def gRunE (P : Int → Bool) (T : Nat → Int) (n q : Nat) : Nat := gRnB P T n (n - q) q
theorem gRunE_t {P : Int → Bool} {T : Nat → Int} {n q : Nat} (h : q < n) (hp : P (T q) = true) : gRunE P T n q = gRunE P T n (q + 1) := by
  unfold gRunE
  obtain ⟨m, hm⟩ : ∃ m, n - q = m + 1 := ⟨n - q - 1, by omega⟩
  rw [hm, show n - (q + 1) = m by omega]
  show (if q < n ∧ P (T q) = true then gRnB P T n m (q + 1) else q) = _
  rw [if_pos ⟨h, hp⟩]
theorem gRunE_f {P : Int → Bool} {T : Nat → Int} {n q : Nat} (h : ¬ (q < n ∧ P (T q) = true)) : gRunE P T n q = q := by
  unfold gRunE
  by_cases hq : n - q = 0
  · rw [hq]
    rfl
  · obtain ⟨m, hm⟩ : ∃ m, n - q = m + 1 := ⟨n - q - 1, by omega⟩
    rw [hm]
    show (if q < n ∧ P (T q) = true then gRnB P T n m (q + 1) else q) = _
    rw [if_neg h]
theorem gRnB_le (P : Int → Bool) (T : Nat → Int) (n : Nat) : ∀ (m q : Nat), q ≤ gRnB P T n m q ∧ gRnB P T n m q ≤ q + m
  | 0, q => ⟨Nat.le_refl _, Nat.le_refl _⟩
  | m + 1, q => by
    have h := gRnB_le P T n m (q + 1)
    show q ≤ (if q < n ∧ P (T q) = true then gRnB P T n m (q + 1) else q) ∧ (if q < n ∧ P (T q) = true then gRnB P T n m (q + 1) else q) ≤ q + (m + 1)
    split <;> omega
theorem gRunE_le (P : Int → Bool) (T : Nat → Int) {n q : Nat} (h : q ≤ n) : q ≤ gRunE P T n q ∧ gRunE P T n q ≤ n := by
  have := gRnB_le P T n (n - q) q
  unfold gRunE
  omega
def gBl (v : Int) : Bool := decide (v = 32 ∨ v = 10)
def gLt (v : Int) : Bool := decide (97 ≤ v ∧ v ≤ 122)
def gDgt (v : Int) : Bool := decide (48 ≤ v ∧ v ≤ 57)
def gSg (v : Int) : Prop := v = 40 ∨ v = 41 ∨ v = 42 ∨ v = 43 ∨ v = 45 ∨ v = 58 ∨ v = 63 ∨ v = 91 ∨ v = 93 ∨ v = 94
def gtP (T : Nat → Int) (n q : Nat) : Nat := gRunE gBl T n q
def gtE (T : Nat → Int) (n q : Nat) : Nat := if n ≤ gtP T n q then gtP T n q else if gLt (T (gtP T n q)) = true then gRunE gLt T n (gtP T n q) else if gDgt (T (gtP T n q)) = true then gRunE gDgt T n (gtP T n q) else gtP T n q + 1
noncomputable def gtC (T : Nat → Int) (n q : Nat) : Int := if n ≤ gtP T n q then 0 else if gLt (T (gtP T n q)) = true then (if gtE T n q - gtP T n q = 1 ∧ T (gtP T n q) - 97 < 8 then 2 else 1) else if gDgt (T (gtP T n q)) = true then (if gtE T n q - gtP T n q ≤ 4 then 3 else 1) else @ite Int (gSg (T (gtP T n q))) (Classical.propDecidable _) (T (gtP T n q)) 1
def gVl (T : Nat → Int) (p : Nat) : Nat → Int
  | 0 => 0
  | k + 1 => gVl T p k * 10 + T (p + k) - 48
def gtV (T : Nat → Int) (n q : Nat) : Int := if gLt (T (gtP T n q)) = true then T (gtP T n q) - 97 else gVl T (gtP T n q) (gtE T n q - gtP T n q)
theorem gtE_le (T : Nat → Int) {n q : Nat} (h : q ≤ n) : q ≤ gtP T n q ∧ gtP T n q ≤ gtE T n q ∧ gtE T n q ≤ n ∧ (gtC T n q ≠ 0 → gtP T n q < gtE T n q) := by
  have h1 := gRunE_le gBl T h
  have h1 : q ≤ gtP T n q ∧ gtP T n q ≤ n := h1
  have h2 := gRunE_le gLt T h1.2
  have h3 := gRunE_le gDgt T h1.2
  have e2 : gtP T n q < n → gLt (T (gtP T n q)) = true → gtP T n q < gRunE gLt T n (gtP T n q) := by
    intro a b
    rw [gRunE_t a b]
    have := gRunE_le gLt T (show gtP T n q + 1 ≤ n by omega)
    omega
  have e3 : gtP T n q < n → gDgt (T (gtP T n q)) = true → gtP T n q < gRunE gDgt T n (gtP T n q) := by
    intro a b
    rw [gRunE_t a b]
    have := gRunE_le gDgt T (show gtP T n q + 1 ≤ n by omega)
    omega
  unfold gtC gtE
  by_cases c1 : n ≤ gtP T n q
  · simp only [if_pos c1]
    exact ⟨h1.1, Nat.le_refl _, h1.2, fun h => absurd rfl h⟩
  · simp only [if_neg c1]
    by_cases c2 : gLt (T (gtP T n q)) = true
    · simp only [if_pos c2]
      exact ⟨h1.1, h2.1, h2.2, fun _ => e2 (by omega) c2⟩
    · simp only [if_neg c2]
      by_cases c3 : gDgt (T (gtP T n q)) = true
      · simp only [if_pos c3]
        exact ⟨h1.1, h3.1, h3.2, fun _ => e3 (by omega) c3⟩
      · simp only [if_neg c3]
        exact ⟨h1.1, by omega, by omega, fun _ => by omega⟩
/-- the class's reader looks at the token behind q -/
def gRd (I : Nat → Nat → Int) (T : Nat → Int) (n q : Nat) : Prop := I 20 3 = gtC T n q ∧ I 20 4 = (gtP T n q : Int) ∧ I 20 5 = (gtE T n q : Int) ∧ (gtC T n q = 2 ∨ gtC T n q = 3 → I 20 6 = gtV T n q)
/-- the tape -/
def gTp (I : Nat → Nat → Int) (T : Nat → Int) (n : Nat) : Prop := n ≤ 120 ∧ I 20 2 = (n : Int) ∧ ∀ q, q < n → I 21 q = T q ∧ 0 ≤ T q ∧ T q ≤ 255
def gF20 (I I' : Nat → Nat → Int) : Prop := (∀ p, p ≠ 20 → I' p = I p) ∧ I' 20 2 = I 20 2 ∧ I' 20 7 = I 20 7
theorem gF20_r (I : Nat → Nat → Int) : gF20 I I := ⟨fun _ _ => rfl, rfl, rfl⟩
theorem gF20_t {I I' I2 : Nat → Nat → Int} (h : gF20 I I') (g : gF20 I' I2) : gF20 I I2 := ⟨fun p hp => (g.1 p hp).trans (h.1 p hp), g.2.1.trans h.2.1, g.2.2.trans h.2.2⟩
theorem gF20_u {I : Nat → Nat → Int} {q : Nat} {x : Int} (h : q ≠ 2) (h7 : q ≠ 7) : gF20 I (gu I 20 q x) := ⟨fun p hp => gu_other hp, gu_n (by omega), gu_n (by omega)⟩
theorem gTp_f {I I' : Nat → Nat → Int} {T : Nat → Int} {n : Nat} (h : gTp I T n) (g : gF20 I I') : gTp I' T n := ⟨h.1, g.2.1.trans h.2.1, fun q hq => by rw [g.1 21 (by omega)]; exact h.2.2 q hq⟩
set_option maxRecDepth 10000 in
theorem c_X5_isLetter {l : Launch} {Γ : gC} {ad : Nat → Nat} {I : Nat → Nat → Int} {J : Nat → Nat → Int64} {d : Nat} {i : Int} (hi : -2147483648 ≤ i ∧ i ≤ 2147483647) : gKi l Γ gm_X5_isLetter d [.int (iv i)] (gSS ad, I, J) (fun e μ => μ = (gSS ad, I, J) ∧ ((e = 1 ∧ (gLt i = true)) ∨ (e = 0 ∧ ¬ (gLt i = true)))) := by
  refine gKi_of gk_X5_isLetter.1 (Nat.le_of_ble_eq_true rfl) ?_
  show gG l Γ gm_X5_isLetter (d, 0, 0, 0, 0) 0 [(0, .int (iv i))] [] _ _
  refine gg_iload_n dX5_isLetter_0 0 rfl ?_
  refine gg_bipush dX5_isLetter_1 (by decide) ?_
  refine gg_icmp_lt (tgt := 16) dX5_isLetter_3 (by decide) (by omega) (fun hb1 => ?_) (fun hb1 => ?_)
  · refine gg_iconst dX5_isLetter_16 ?_
    refine gg_iretz dX5_isLetter_17 rfl (by decide) ⟨rfl, rfl⟩ ?_
    exact ⟨rfl, Or.inr ⟨rfl, by simp only [gLt, decide_eq_true_eq]; omega⟩⟩
  · refine gg_iload_n dX5_isLetter_6 0 rfl ?_
    refine gg_bipush dX5_isLetter_7 (by decide) ?_
    refine gg_icmp_gt (tgt := 16) dX5_isLetter_9 (by decide) (by omega) (fun hb2 => ?_) (fun hb2 => ?_)
    · refine gg_iconst dX5_isLetter_16 ?_
      refine gg_iretz dX5_isLetter_17 rfl (by decide) ⟨rfl, rfl⟩ ?_
      exact ⟨rfl, Or.inr ⟨rfl, by simp only [gLt, decide_eq_true_eq]; omega⟩⟩
    · refine gg_iconst dX5_isLetter_12 ?_
      refine gg_goto (tgt := 17) dX5_isLetter_13 (by decide) ?_
      refine gg_iretz dX5_isLetter_17 rfl (by decide) ⟨rfl, rfl⟩ ?_
      exact ⟨rfl, Or.inl ⟨rfl, by simp only [gLt, decide_eq_true_eq]; omega⟩⟩

set_option maxRecDepth 10000 in
theorem c_X5_isDigit {l : Launch} {Γ : gC} {ad : Nat → Nat} {I : Nat → Nat → Int} {J : Nat → Nat → Int64} {d : Nat} {i : Int} (hi : -2147483648 ≤ i ∧ i ≤ 2147483647) : gKi l Γ gm_X5_isDigit d [.int (iv i)] (gSS ad, I, J) (fun e μ => μ = (gSS ad, I, J) ∧ ((e = 1 ∧ (gDgt i = true)) ∨ (e = 0 ∧ ¬ (gDgt i = true)))) := by
  refine gKi_of gk_X5_isDigit.1 (Nat.le_of_ble_eq_true rfl) ?_
  show gG l Γ gm_X5_isDigit (d, 0, 0, 0, 0) 0 [(0, .int (iv i))] [] _ _
  refine gg_iload_n dX5_isDigit_0 0 rfl ?_
  refine gg_bipush dX5_isDigit_1 (by decide) ?_
  refine gg_icmp_lt (tgt := 16) dX5_isDigit_3 (by decide) (by omega) (fun hb1 => ?_) (fun hb1 => ?_)
  · refine gg_iconst dX5_isDigit_16 ?_
    refine gg_iretz dX5_isDigit_17 rfl (by decide) ⟨rfl, rfl⟩ ?_
    exact ⟨rfl, Or.inr ⟨rfl, by simp only [gDgt, decide_eq_true_eq]; omega⟩⟩
  · refine gg_iload_n dX5_isDigit_6 0 rfl ?_
    refine gg_bipush dX5_isDigit_7 (by decide) ?_
    refine gg_icmp_gt (tgt := 16) dX5_isDigit_9 (by decide) (by omega) (fun hb2 => ?_) (fun hb2 => ?_)
    · refine gg_iconst dX5_isDigit_16 ?_
      refine gg_iretz dX5_isDigit_17 rfl (by decide) ⟨rfl, rfl⟩ ?_
      exact ⟨rfl, Or.inr ⟨rfl, by simp only [gDgt, decide_eq_true_eq]; omega⟩⟩
    · refine gg_iconst dX5_isDigit_12 ?_
      refine gg_goto (tgt := 17) dX5_isDigit_13 (by decide) ?_
      refine gg_iretz dX5_isDigit_17 rfl (by decide) ⟨rfl, rfl⟩ ?_
      exact ⟨rfl, Or.inl ⟨rfl, by simp only [gDgt, decide_eq_true_eq]; omega⟩⟩

set_option maxRecDepth 10000 in
theorem c_X5_isBlank {l : Launch} {Γ : gC} {ad : Nat → Nat} {I : Nat → Nat → Int} {J : Nat → Nat → Int64} {d : Nat} {i : Int} (hi : -2147483648 ≤ i ∧ i ≤ 2147483647) : gKi l Γ gm_X5_isBlank d [.int (iv i)] (gSS ad, I, J) (fun e μ => μ = (gSS ad, I, J) ∧ ((e = 1 ∧ (gBl i = true)) ∨ (e = 0 ∧ ¬ (gBl i = true)))) := by
  refine gKi_of gk_X5_isBlank.1 (Nat.le_of_ble_eq_true rfl) ?_
  show gG l Γ gm_X5_isBlank (d, 0, 0, 0, 0) 0 [(0, .int (iv i))] [] _ _
  refine gg_iload_n dX5_isBlank_0 0 rfl ?_
  refine gg_bipush dX5_isBlank_1 (by decide) ?_
  refine gg_icmp_eq (tgt := 12) dX5_isBlank_3 (by decide) (by omega) (fun hb1 => ?_) (fun hb1 => ?_)
  · refine gg_iconst dX5_isBlank_12 ?_
    refine gg_goto (tgt := 17) dX5_isBlank_13 (by decide) ?_
    refine gg_iretz dX5_isBlank_17 rfl (by decide) ⟨rfl, rfl⟩ ?_
    exact ⟨rfl, Or.inl ⟨rfl, by simp only [gBl, decide_eq_true_eq]; omega⟩⟩
  · refine gg_iload_n dX5_isBlank_6 0 rfl ?_
    refine gg_bipush dX5_isBlank_7 (by decide) ?_
    refine gg_icmp_ne (tgt := 16) dX5_isBlank_9 (by decide) (by omega) (fun hb2 => ?_) (fun hb2 => ?_)
    · refine gg_iconst dX5_isBlank_16 ?_
      refine gg_iretz dX5_isBlank_17 rfl (by decide) ⟨rfl, rfl⟩ ?_
      exact ⟨rfl, Or.inr ⟨rfl, by simp only [gBl, decide_eq_true_eq]; omega⟩⟩
    · refine gg_iconst dX5_isBlank_12 ?_
      refine gg_goto (tgt := 17) dX5_isBlank_13 (by decide) ?_
      refine gg_iretz dX5_isBlank_17 rfl (by decide) ⟨rfl, rfl⟩ ?_
      exact ⟨rfl, Or.inl ⟨rfl, by simp only [gBl, decide_eq_true_eq]; omega⟩⟩

set_option maxRecDepth 10000 in
theorem c_X5_byteAt {l : Launch} {Γ : gC} {ad : Nat → Nat} {I : Nat → Nat → Int} {J : Nat → Nat → Int64} {d : Nat} {T : Nat → Int} {n : Nat} {i : Nat} (hT : gTp I T n) (hi : i ≤ 1000) : gKi l Γ gm_X5_byteAt d [.ref (gad (gSS ad) 20), .int (iv (i : Int))] (gSS ad, I, J) (fun e μ => μ = (gSS ad, I, J) ∧ e = (if i < n then T i else 0)) := by
  refine gKi_of gk_X5_byteAt.1 (Nat.le_of_ble_eq_true rfl) ?_
  show gG l Γ gm_X5_byteAt (d, 0, 0, 0, 0) 0 [(0, .ref (gad (gSS ad) 20)), (1, .int (iv (i : Int)))] [] _ _
  refine gg_iload_n dX5_byteAt_0 1 rfl ?_
  refine gg_if_lt_f (tgt := 21) dX5_byteAt_1 (by decide) (by omega) (by omega) ?_
  refine gg_iload_n dX5_byteAt_4 1 rfl ?_
  refine gg_aload_n dX5_byteAt_5 0 rfl ?_
  refine gg_getI rfl gf_RX5_19 dX5_byteAt_6 sh_20 pl_20 (by decide) (by decide) ?_
  refine gg_toI (b := (n : Int)) hT.2.1 ?_
  refine gg_icmp_ge (tgt := 21) dX5_byteAt_9 (by decide) (by have := hT.1; omega) (fun hb => ?_) (fun hb => ?_)
  · refine gg_iconst dX5_byteAt_21 ?_
    refine gg_ireti dX5_byteAt_22 rfl ⟨rfl, rfl⟩ ?_
    exact ⟨rfl, by rw [if_neg (by omega)]⟩
  · refine gg_aload_n dX5_byteAt_12 0 rfl ?_
    refine gg_getR (k' := 21) rfl gf_RX5_9 dX5_byteAt_13 sh_20 pl_20 (by decide) (by decide) rr_20_1 ?_
    refine gg_iload_n dX5_byteAt_16 1 rfl ?_
    refine gg_ialdj i dX5_byteAt_17 sh_21 pl_21 (by decide) rfl (by have := hT.1; omega) ?_
    refine gg_toI (b := T i) (hT.2.2 i (by omega)).1 ?_
    refine gg_goto (tgt := 22) dX5_byteAt_18 (by decide) ?_
    refine gg_ireti dX5_byteAt_22 rfl ⟨rfl, rfl⟩ ?_
    exact ⟨rfl, by rw [if_pos (by omega)]⟩

set_option maxRecDepth 10000 in
theorem w_X5_takeWord {l : Launch} {Γ : gC} {ad : Nat → Nat} {I0 : Nat → Nat → Int} {J : Nat → Nat → Int64} {d : Nat} {T : Nat → Int} {n : Nat} {p : Nat} (hp : p < n) (h4 : I0 20 4 = (p : Int)) (hlp : gLt (T p) = true) (hd : 2 ≤ d) : ∀ (m : Nat) (k : Nat) (I : Nat → Nat → Int), n - k < m → (p ≤ k ∧ k ≤ n) → (gTp I T n) → (I 20 5 = (k : Int)) → (gRunE gLt T n k = gRunE gLt T n p) → (gF20 I0 I) → (I 20 4 = I0 20 4) → gG l Γ gm_X5_takeWord (d, 0, 0, 0, 0) 0 [(0, .ref (gad (gSS ad) 20)), (1, .int (iv (T p)))] [] (gSS ad, I, J) (gDv (fun μ => ∃ I1, μ = (gSS ad, I1, J) ∧ gF20 I0 I1 ∧ I1 20 4 = I0 20 4 ∧ I1 20 5 = ((gRunE gLt T n p : Nat) : Int) ∧ I1 20 6 = T p - 97 ∧ I1 20 3 = (if gRunE gLt T n p - p = 1 ∧ T p - 97 < 8 then 2 else 1))) := by
  intro m
  induction m with
  | zero => intros; omega
  | succ m ih =>
    intro k I hm hk hT h5 hr hF h44
    refine gg_aload_n dX5_takeWord_0 0 rfl ?_
    refine gg_getI rfl gf_RX5_31 dX5_takeWord_1 sh_20 pl_20 (by decide) (by decide) ?_
    refine gg_toI (b := (k : Int)) h5 ?_
    refine gg_aload_n dX5_takeWord_4 0 rfl ?_
    refine gg_getI rfl gf_RX5_19 dX5_takeWord_5 sh_20 pl_20 (by decide) (by decide) ?_
    refine gg_toI (b := (n : Int)) hT.2.1 ?_
    refine gg_icmp_ge (tgt := 38) dX5_takeWord_8 (by decide) (by have := hT.1; omega) (fun hb => ?_) (fun hb => ?_)
    · have hend : gRunE gLt T n p = k := by rw [← hr]; exact gRunE_f (by omega)
      refine gg_aload_n dX5_takeWord_38 0 rfl ?_
      refine gg_iload_n dX5_takeWord_39 1 rfl ?_
      refine gg_bipush dX5_takeWord_40 (by decide) ?_
      refine gg_isub dX5_takeWord_42 ?_
      refine gg_putI rfl gf_RX5_74 dX5_takeWord_43 sh_20 pl_20 (by decide) (by decide) (by decide) (gfit_i _) ?_
      refine gg_aload_n dX5_takeWord_46 0 rfl ?_
      refine gg_aload_n dX5_takeWord_47 0 rfl ?_
      refine gg_getI rfl gf_RX5_31 dX5_takeWord_48 sh_20 pl_20 (by decide) (by decide) ?_
      refine gg_toI (b := (k : Int)) ((gu_n (by omega)).trans h5) ?_
      refine gg_aload_n dX5_takeWord_51 0 rfl ?_
      refine gg_getI rfl gf_RX5_48 dX5_takeWord_52 sh_20 pl_20 (by decide) (by decide) ?_
      refine gg_toI (b := (p : Int)) ((gu_n (by omega)).trans (h44.trans h4)) ?_
      refine gg_isub dX5_takeWord_55 ?_
      refine gg_iconst dX5_takeWord_56 ?_
      refine gg_icmp_ne (tgt := 74) dX5_takeWord_57 (by decide) (by have := hT.1; omega) (fun hb2 => ?_) (fun hb2 => ?_)
      · refine gg_iconst dX5_takeWord_74 ?_
        refine gg_putI rfl gf_RX5_41 dX5_takeWord_75 sh_20 pl_20 (by decide) (by decide) (by decide) (gfit_i _) ?_
        refine gg_vretv dX5_takeWord_78 rfl ⟨rfl, rfl⟩ ?_
        have hlr : 97 ≤ T p ∧ T p ≤ 122 := by simpa only [gLt, decide_eq_true_eq] using hlp
        refine ⟨_, rfl, gF20_t hF (gF20_t (gF20_u (by omega) (by omega)) (gF20_u (by omega) (by omega))), (gu_n (by omega)).trans ((gu_n (by omega)).trans h44), (gu_n (by omega)).trans ((gu_n (by omega)).trans (h5.trans (by rw [hend]))), (gu_n (by omega)).trans gu_s, gu_s.trans ?_⟩
        rw [hend]
        first | rw [if_pos (show k - p = 1 ∧ T p - 97 < 8 by omega)] | rw [if_neg (show ¬ (k - p = 1 ∧ T p - 97 < 8) by omega)]
      · refine gg_aload_n dX5_takeWord_60 0 rfl ?_
        refine gg_getI rfl gf_RX5_74 dX5_takeWord_61 sh_20 pl_20 (by decide) (by decide) ?_
        refine gg_toI (b := (T p - 97)) gu_s ?_
        refine gg_callSNi (own := RX5) (host := RX9) (yt := gm_X9_isName) rfl (by decide +kernel) gk_X9_isName gr_X9_isName dX5_takeWord_64 (c_X9_isName (d := d - 1) (by have := hT.2.2 p hp; omega)) rfl rfl (Nat.le_of_ble_eq_true rfl) (by show _ ≤ d; omega) ⟨Nat.le_refl _, Nat.le_refl _⟩ (fun e1 μ' hc => ?_)
        obtain ⟨rfl, ⟨rfl, hnm⟩ | ⟨rfl, hnm⟩⟩ := hc
        · refine gg_if_eq_f (tgt := 74) dX5_takeWord_67 (by decide) (by decide) (by decide) ?_
          refine gg_iconst dX5_takeWord_70 ?_
          refine gg_goto (tgt := 75) dX5_takeWord_71 (by decide) ?_
          refine gg_putI rfl gf_RX5_41 dX5_takeWord_75 sh_20 pl_20 (by decide) (by decide) (by decide) (gfit_i _) ?_
          refine gg_vretv dX5_takeWord_78 rfl ⟨rfl, rfl⟩ ?_
          have hlr : 97 ≤ T p ∧ T p ≤ 122 := by simpa only [gLt, decide_eq_true_eq] using hlp
          refine ⟨_, rfl, gF20_t hF (gF20_t (gF20_u (by omega) (by omega)) (gF20_u (by omega) (by omega))), (gu_n (by omega)).trans ((gu_n (by omega)).trans h44), (gu_n (by omega)).trans ((gu_n (by omega)).trans (h5.trans (by rw [hend]))), (gu_n (by omega)).trans gu_s, gu_s.trans ?_⟩
          rw [hend]
          first | rw [if_pos (show k - p = 1 ∧ T p - 97 < 8 by omega)] | rw [if_neg (show ¬ (k - p = 1 ∧ T p - 97 < 8) by omega)]
        · refine gg_if_eq_t (tgt := 74) dX5_takeWord_67 (by decide) (by decide) (by decide) ?_
          refine gg_iconst dX5_takeWord_74 ?_
          refine gg_putI rfl gf_RX5_41 dX5_takeWord_75 sh_20 pl_20 (by decide) (by decide) (by decide) (gfit_i _) ?_
          refine gg_vretv dX5_takeWord_78 rfl ⟨rfl, rfl⟩ ?_
          have hlr : 97 ≤ T p ∧ T p ≤ 122 := by simpa only [gLt, decide_eq_true_eq] using hlp
          refine ⟨_, rfl, gF20_t hF (gF20_t (gF20_u (by omega) (by omega)) (gF20_u (by omega) (by omega))), (gu_n (by omega)).trans ((gu_n (by omega)).trans h44), (gu_n (by omega)).trans ((gu_n (by omega)).trans (h5.trans (by rw [hend]))), (gu_n (by omega)).trans gu_s, gu_s.trans ?_⟩
          rw [hend]
          first | rw [if_pos (show k - p = 1 ∧ T p - 97 < 8 by omega)] | rw [if_neg (show ¬ (k - p = 1 ∧ T p - 97 < 8) by omega)]
    · have hlt : k < n := by omega
      refine gg_aload_n dX5_takeWord_11 0 rfl ?_
      refine gg_aload_n dX5_takeWord_12 0 rfl ?_
      refine gg_getI rfl gf_RX5_31 dX5_takeWord_13 sh_20 pl_20 (by decide) (by decide) ?_
      refine gg_toI (b := (k : Int)) h5 ?_
      refine gg_callVi (own := RX5) (yt := gm_X5_byteAt) rfl gl_RX5_51 gk_X5_byteAt gr_X5_byteAt dX5_takeWord_16 (c_X5_byteAt (d := d - 1) (T := T) (n := n) (i := k) hT (by have := hT.1; omega)) sh_20 pl_20 (by decide) rfl rfl rfl (Nat.le_of_ble_eq_true rfl) (by show _ ≤ d; omega) ⟨Nat.le_refl _, Nat.le_refl _⟩ (fun e2 μ' hc => ?_)
      obtain ⟨rfl, rfl⟩ := hc
      refine gg_toI (b := T k) (if_pos hlt) ?_
      refine gg_callSi (own := RX5) (yt := gm_X5_isLetter) rfl gl_RX5_58 gk_X5_isLetter gr_X5_isLetter dX5_takeWord_19 (c_X5_isLetter (d := d - 1) (by have := hT.2.2 k hlt; omega)) rfl rfl (Nat.le_of_ble_eq_true rfl) (by show _ ≤ d; omega) ⟨Nat.le_refl _, Nat.le_refl _⟩ (fun e3 μ' hc => ?_)
      obtain ⟨rfl, ⟨rfl, hl⟩ | ⟨rfl, hl⟩⟩ := hc
      · refine gg_if_eq_f (tgt := 38) dX5_takeWord_22 (by decide) (by decide) (by decide) ?_
        refine gg_aload_n dX5_takeWord_25 0 rfl ?_
        refine gg_dup dX5_takeWord_26 rfl ?_
        refine gg_getI rfl gf_RX5_31 dX5_takeWord_27 sh_20 pl_20 (by decide) (by decide) ?_
        refine gg_toI (b := (k : Int)) h5 ?_
        refine gg_iconst dX5_takeWord_30 ?_
        refine gg_iadd dX5_takeWord_31 ?_
        refine gg_toI (b := ((k + 1 : Nat) : Int)) (by omega) ?_
        refine gg_putI rfl gf_RX5_31 dX5_takeWord_32 sh_20 pl_20 (by decide) (by decide) (by decide) (gfit_i _) ?_
        refine gg_memI (fun I2 hI2 => ?_)
        refine gg_goto (tgt := 0) dX5_takeWord_35 (by decide) ?_
        refine ih (k + 1) I2 (by omega) (by omega) (gTp_f hT (by rw [hI2]; exact gF20_u (by omega) (by omega))) (by rw [hI2, gu_s]) (by rw [← gRunE_t hlt hl]; exact hr) (gF20_t hF (by rw [hI2]; exact gF20_u (by omega) (by omega))) (by rw [hI2, gu_n (by omega)]; exact h44)
      · have hend : gRunE gLt T n p = k := by rw [← hr]; exact gRunE_f (fun h => hl h.2)
        refine gg_if_eq_t (tgt := 38) dX5_takeWord_22 (by decide) (by decide) (by decide) ?_
        refine gg_aload_n dX5_takeWord_38 0 rfl ?_
        refine gg_iload_n dX5_takeWord_39 1 rfl ?_
        refine gg_bipush dX5_takeWord_40 (by decide) ?_
        refine gg_isub dX5_takeWord_42 ?_
        refine gg_putI rfl gf_RX5_74 dX5_takeWord_43 sh_20 pl_20 (by decide) (by decide) (by decide) (gfit_i _) ?_
        refine gg_aload_n dX5_takeWord_46 0 rfl ?_
        refine gg_aload_n dX5_takeWord_47 0 rfl ?_
        refine gg_getI rfl gf_RX5_31 dX5_takeWord_48 sh_20 pl_20 (by decide) (by decide) ?_
        refine gg_toI (b := (k : Int)) ((gu_n (by omega)).trans h5) ?_
        refine gg_aload_n dX5_takeWord_51 0 rfl ?_
        refine gg_getI rfl gf_RX5_48 dX5_takeWord_52 sh_20 pl_20 (by decide) (by decide) ?_
        refine gg_toI (b := (p : Int)) ((gu_n (by omega)).trans (h44.trans h4)) ?_
        refine gg_isub dX5_takeWord_55 ?_
        refine gg_iconst dX5_takeWord_56 ?_
        refine gg_icmp_ne (tgt := 74) dX5_takeWord_57 (by decide) (by have := hT.1; omega) (fun hb2 => ?_) (fun hb2 => ?_)
        · refine gg_iconst dX5_takeWord_74 ?_
          refine gg_putI rfl gf_RX5_41 dX5_takeWord_75 sh_20 pl_20 (by decide) (by decide) (by decide) (gfit_i _) ?_
          refine gg_vretv dX5_takeWord_78 rfl ⟨rfl, rfl⟩ ?_
          have hlr : 97 ≤ T p ∧ T p ≤ 122 := by simpa only [gLt, decide_eq_true_eq] using hlp
          refine ⟨_, rfl, gF20_t hF (gF20_t (gF20_u (by omega) (by omega)) (gF20_u (by omega) (by omega))), (gu_n (by omega)).trans ((gu_n (by omega)).trans h44), (gu_n (by omega)).trans ((gu_n (by omega)).trans (h5.trans (by rw [hend]))), (gu_n (by omega)).trans gu_s, gu_s.trans ?_⟩
          rw [hend]
          first | rw [if_pos (show k - p = 1 ∧ T p - 97 < 8 by omega)] | rw [if_neg (show ¬ (k - p = 1 ∧ T p - 97 < 8) by omega)]
        · refine gg_aload_n dX5_takeWord_60 0 rfl ?_
          refine gg_getI rfl gf_RX5_74 dX5_takeWord_61 sh_20 pl_20 (by decide) (by decide) ?_
          refine gg_toI (b := (T p - 97)) gu_s ?_
          refine gg_callSNi (own := RX5) (host := RX9) (yt := gm_X9_isName) rfl (by decide +kernel) gk_X9_isName gr_X9_isName dX5_takeWord_64 (c_X9_isName (d := d - 1) (by have := hT.2.2 p hp; omega)) rfl rfl (Nat.le_of_ble_eq_true rfl) (by show _ ≤ d; omega) ⟨Nat.le_refl _, Nat.le_refl _⟩ (fun e4 μ' hc => ?_)
          obtain ⟨rfl, ⟨rfl, hnm⟩ | ⟨rfl, hnm⟩⟩ := hc
          · refine gg_if_eq_f (tgt := 74) dX5_takeWord_67 (by decide) (by decide) (by decide) ?_
            refine gg_iconst dX5_takeWord_70 ?_
            refine gg_goto (tgt := 75) dX5_takeWord_71 (by decide) ?_
            refine gg_putI rfl gf_RX5_41 dX5_takeWord_75 sh_20 pl_20 (by decide) (by decide) (by decide) (gfit_i _) ?_
            refine gg_vretv dX5_takeWord_78 rfl ⟨rfl, rfl⟩ ?_
            have hlr : 97 ≤ T p ∧ T p ≤ 122 := by simpa only [gLt, decide_eq_true_eq] using hlp
            refine ⟨_, rfl, gF20_t hF (gF20_t (gF20_u (by omega) (by omega)) (gF20_u (by omega) (by omega))), (gu_n (by omega)).trans ((gu_n (by omega)).trans h44), (gu_n (by omega)).trans ((gu_n (by omega)).trans (h5.trans (by rw [hend]))), (gu_n (by omega)).trans gu_s, gu_s.trans ?_⟩
            rw [hend]
            first | rw [if_pos (show k - p = 1 ∧ T p - 97 < 8 by omega)] | rw [if_neg (show ¬ (k - p = 1 ∧ T p - 97 < 8) by omega)]
          · refine gg_if_eq_t (tgt := 74) dX5_takeWord_67 (by decide) (by decide) (by decide) ?_
            refine gg_iconst dX5_takeWord_74 ?_
            refine gg_putI rfl gf_RX5_41 dX5_takeWord_75 sh_20 pl_20 (by decide) (by decide) (by decide) (gfit_i _) ?_
            refine gg_vretv dX5_takeWord_78 rfl ⟨rfl, rfl⟩ ?_
            have hlr : 97 ≤ T p ∧ T p ≤ 122 := by simpa only [gLt, decide_eq_true_eq] using hlp
            refine ⟨_, rfl, gF20_t hF (gF20_t (gF20_u (by omega) (by omega)) (gF20_u (by omega) (by omega))), (gu_n (by omega)).trans ((gu_n (by omega)).trans h44), (gu_n (by omega)).trans ((gu_n (by omega)).trans (h5.trans (by rw [hend]))), (gu_n (by omega)).trans gu_s, gu_s.trans ?_⟩
            rw [hend]
            first | rw [if_pos (show k - p = 1 ∧ T p - 97 < 8 by omega)] | rw [if_neg (show ¬ (k - p = 1 ∧ T p - 97 < 8) by omega)]

set_option maxRecDepth 10000 in
theorem w_X5_takeNumber {l : Launch} {Γ : gC} {ad : Nat → Nat} {I0 : Nat → Nat → Int} {J : Nat → Nat → Int64} {d : Nat} {T : Nat → Int} {n : Nat} {p : Nat} (hp : p < n) (h4 : I0 20 4 = (p : Int)) (hd : 2 ≤ d) : ∀ (m : Nat) (k : Nat) (I : Nat → Nat → Int), n - k < m → (p ≤ k ∧ k ≤ n) → (gTp I T n) → (I 20 5 = (k : Int)) → (I 20 6 = gVl T p (k - p)) → (gRunE gDgt T n k = gRunE gDgt T n p) → (gF20 I0 I) → (I 20 4 = I0 20 4) → gG l Γ gm_X5_takeNumber (d, 0, 0, 0, 0) 5 [(0, .ref (gad (gSS ad) 20))] [] (gSS ad, I, J) (gDv (fun μ => ∃ I1, μ = (gSS ad, I1, J) ∧ gF20 I0 I1 ∧ I1 20 4 = I0 20 4 ∧ I1 20 5 = ((gRunE gDgt T n p : Nat) : Int) ∧ I1 20 6 = gVl T p (gRunE gDgt T n p - p) ∧ I1 20 3 = (if gRunE gDgt T n p - p ≤ 4 then 3 else 1))) := by
  intro m
  induction m with
  | zero => intros; omega
  | succ m ih =>
    intro k I hm hk hT h5 h6 hr hF h44
    refine gg_aload_n dX5_takeNumber_5 0 rfl ?_
    refine gg_getI rfl gf_RX5_31 dX5_takeNumber_6 sh_20 pl_20 (by decide) (by decide) ?_
    refine gg_toI (b := (k : Int)) h5 ?_
    refine gg_aload_n dX5_takeNumber_9 0 rfl ?_
    refine gg_getI rfl gf_RX5_19 dX5_takeNumber_10 sh_20 pl_20 (by decide) (by decide) ?_
    refine gg_toI (b := (n : Int)) hT.2.1 ?_
    refine gg_icmp_ge (tgt := 66) dX5_takeNumber_13 (by decide) (by have := hT.1; omega) (fun hb => ?_) (fun hb => ?_)
    · have hend : gRunE gDgt T n p = k := by rw [← hr]; exact gRunE_f (by omega)
      refine gg_aload_n dX5_takeNumber_66 0 rfl ?_
      refine gg_aload_n dX5_takeNumber_67 0 rfl ?_
      refine gg_getI rfl gf_RX5_31 dX5_takeNumber_68 sh_20 pl_20 (by decide) (by decide) ?_
      refine gg_toI (b := (k : Int)) h5 ?_
      refine gg_aload_n dX5_takeNumber_71 0 rfl ?_
      refine gg_getI rfl gf_RX5_48 dX5_takeNumber_72 sh_20 pl_20 (by decide) (by decide) ?_
      refine gg_toI (b := (p : Int)) (h44.trans h4) ?_
      refine gg_isub dX5_takeNumber_75 ?_
      refine gg_iconst dX5_takeNumber_76 ?_
      refine gg_icmp_gt (tgt := 84) dX5_takeNumber_77 (by decide) (by have := hT.1; omega) (fun hb2 => ?_) (fun hb2 => ?_)
      · refine gg_iconst dX5_takeNumber_84 ?_
        refine gg_putI rfl gf_RX5_41 dX5_takeNumber_85 sh_20 pl_20 (by decide) (by decide) (by decide) (gfit_i _) ?_
        refine gg_vretv dX5_takeNumber_88 rfl ⟨rfl, rfl⟩ ?_
        refine ⟨_, rfl, gF20_t hF (gF20_u (by omega) (by omega)), (gu_n (by omega)).trans h44, (gu_n (by omega)).trans (h5.trans (by rw [hend])), (gu_n (by omega)).trans (h6.trans (by rw [hend])), gu_s.trans ?_⟩
        rw [hend]
        first | rw [if_pos (show k - p ≤ 4 by omega)] | rw [if_neg (show ¬ (k - p ≤ 4) by omega)]
      · refine gg_iconst dX5_takeNumber_80 ?_
        refine gg_goto (tgt := 85) dX5_takeNumber_81 (by decide) ?_
        refine gg_putI rfl gf_RX5_41 dX5_takeNumber_85 sh_20 pl_20 (by decide) (by decide) (by decide) (gfit_i _) ?_
        refine gg_vretv dX5_takeNumber_88 rfl ⟨rfl, rfl⟩ ?_
        refine ⟨_, rfl, gF20_t hF (gF20_u (by omega) (by omega)), (gu_n (by omega)).trans h44, (gu_n (by omega)).trans (h5.trans (by rw [hend])), (gu_n (by omega)).trans (h6.trans (by rw [hend])), gu_s.trans ?_⟩
        rw [hend]
        first | rw [if_pos (show k - p ≤ 4 by omega)] | rw [if_neg (show ¬ (k - p ≤ 4) by omega)]
    · have hlt : k < n := by omega
      refine gg_aload_n dX5_takeNumber_16 0 rfl ?_
      refine gg_aload_n dX5_takeNumber_17 0 rfl ?_
      refine gg_getI rfl gf_RX5_31 dX5_takeNumber_18 sh_20 pl_20 (by decide) (by decide) ?_
      refine gg_toI (b := (k : Int)) h5 ?_
      refine gg_callVi (own := RX5) (yt := gm_X5_byteAt) rfl gl_RX5_51 gk_X5_byteAt gr_X5_byteAt dX5_takeNumber_21 (c_X5_byteAt (d := d - 1) (T := T) (n := n) (i := k) hT (by have := hT.1; omega)) sh_20 pl_20 (by decide) rfl rfl rfl (Nat.le_of_ble_eq_true rfl) (by show _ ≤ d; omega) ⟨Nat.le_refl _, Nat.le_refl _⟩ (fun e1 μ' hc => ?_)
      obtain ⟨rfl, rfl⟩ := hc
      refine gg_toI (b := T k) (if_pos hlt) ?_
      refine gg_callSi (own := RX5) (yt := gm_X5_isDigit) rfl gl_RX5_65 gk_X5_isDigit gr_X5_isDigit dX5_takeNumber_24 (c_X5_isDigit (d := d - 1) (by have := hT.2.2 k hlt; omega)) rfl rfl (Nat.le_of_ble_eq_true rfl) (by show _ ≤ d; omega) ⟨Nat.le_refl _, Nat.le_refl _⟩ (fun e2 μ' hc => ?_)
      obtain ⟨rfl, ⟨rfl, hl⟩ | ⟨rfl, hl⟩⟩ := hc
      · refine gg_if_eq_f (tgt := 66) dX5_takeNumber_27 (by decide) (by decide) (by decide) ?_
        refine gg_aload_n dX5_takeNumber_30 0 rfl ?_
        refine gg_aload_n dX5_takeNumber_31 0 rfl ?_
        refine gg_getI rfl gf_RX5_74 dX5_takeNumber_32 sh_20 pl_20 (by decide) (by decide) ?_
        refine gg_toI (b := (gVl T p (k - p))) h6 ?_
        refine gg_bipush dX5_takeNumber_35 (by decide) ?_
        refine gg_imul dX5_takeNumber_37 ?_
        refine gg_aload_n dX5_takeNumber_38 0 rfl ?_
        refine gg_aload_n dX5_takeNumber_39 0 rfl ?_
        refine gg_getI rfl gf_RX5_31 dX5_takeNumber_40 sh_20 pl_20 (by decide) (by decide) ?_
        refine gg_toI (b := (k : Int)) h5 ?_
        refine gg_callVi (own := RX5) (yt := gm_X5_byteAt) rfl gl_RX5_51 gk_X5_byteAt gr_X5_byteAt dX5_takeNumber_43 (c_X5_byteAt (d := d - 1) (T := T) (n := n) (i := k) hT (by have := hT.1; omega)) sh_20 pl_20 (by decide) rfl rfl rfl (Nat.le_of_ble_eq_true rfl) (by show _ ≤ d; omega) ⟨Nat.le_refl _, Nat.le_refl _⟩ (fun e3 μ' hc => ?_)
        obtain ⟨rfl, rfl⟩ := hc
        refine gg_toI (b := T k) (if_pos hlt) ?_
        refine gg_iadd dX5_takeNumber_46 ?_
        refine gg_bipush dX5_takeNumber_47 (by decide) ?_
        refine gg_isub dX5_takeNumber_49 ?_
        refine gg_toI (b := gVl T p (k + 1 - p)) (by rw [show k + 1 - p = (k - p) + 1 by omega]; show _ = gVl T p (k - p) * 10 + T (p + (k - p)) - 48; rw [show p + (k - p) = k by omega]) ?_
        refine gg_putI rfl gf_RX5_74 dX5_takeNumber_50 sh_20 pl_20 (by decide) (by decide) (by decide) (gfit_i _) ?_
        refine gg_memI (fun I2 hI2 => ?_)
        refine gg_aload_n dX5_takeNumber_53 0 rfl ?_
        refine gg_dup dX5_takeNumber_54 rfl ?_
        refine gg_getI rfl gf_RX5_31 dX5_takeNumber_55 sh_20 pl_20 (by decide) (by decide) ?_
        refine gg_toI (b := (k : Int)) (by rw [hI2, gu_n (by omega)]; exact h5) ?_
        refine gg_iconst dX5_takeNumber_58 ?_
        refine gg_iadd dX5_takeNumber_59 ?_
        refine gg_toI (b := ((k + 1 : Nat) : Int)) (by omega) ?_
        refine gg_putI rfl gf_RX5_31 dX5_takeNumber_60 sh_20 pl_20 (by decide) (by decide) (by decide) (gfit_i _) ?_
        refine gg_memI (fun I3 hI3 => ?_)
        refine gg_goto (tgt := 5) dX5_takeNumber_63 (by decide) ?_
        have hf : gF20 I I3 := by rw [hI3, hI2]; exact gF20_t (gF20_u (by omega) (by omega)) (gF20_u (by omega) (by omega))
        refine ih (k + 1) I3 (by omega) (by omega) (gTp_f hT hf) (by rw [hI3, gu_s]) (by rw [hI3, gu_n (by omega), hI2, gu_s]) (by rw [← gRunE_t hlt hl]; exact hr) (gF20_t hF hf) (by rw [hI3, gu_n (by omega), hI2, gu_n (by omega)]; exact h44)
      · have hend : gRunE gDgt T n p = k := by rw [← hr]; exact gRunE_f (fun h => hl h.2)
        refine gg_if_eq_t (tgt := 66) dX5_takeNumber_27 (by decide) (by decide) (by decide) ?_
        refine gg_aload_n dX5_takeNumber_66 0 rfl ?_
        refine gg_aload_n dX5_takeNumber_67 0 rfl ?_
        refine gg_getI rfl gf_RX5_31 dX5_takeNumber_68 sh_20 pl_20 (by decide) (by decide) ?_
        refine gg_toI (b := (k : Int)) h5 ?_
        refine gg_aload_n dX5_takeNumber_71 0 rfl ?_
        refine gg_getI rfl gf_RX5_48 dX5_takeNumber_72 sh_20 pl_20 (by decide) (by decide) ?_
        refine gg_toI (b := (p : Int)) (h44.trans h4) ?_
        refine gg_isub dX5_takeNumber_75 ?_
        refine gg_iconst dX5_takeNumber_76 ?_
        refine gg_icmp_gt (tgt := 84) dX5_takeNumber_77 (by decide) (by have := hT.1; omega) (fun hb2 => ?_) (fun hb2 => ?_)
        · refine gg_iconst dX5_takeNumber_84 ?_
          refine gg_putI rfl gf_RX5_41 dX5_takeNumber_85 sh_20 pl_20 (by decide) (by decide) (by decide) (gfit_i _) ?_
          refine gg_vretv dX5_takeNumber_88 rfl ⟨rfl, rfl⟩ ?_
          refine ⟨_, rfl, gF20_t hF (gF20_u (by omega) (by omega)), (gu_n (by omega)).trans h44, (gu_n (by omega)).trans (h5.trans (by rw [hend])), (gu_n (by omega)).trans (h6.trans (by rw [hend])), gu_s.trans ?_⟩
          rw [hend]
          first | rw [if_pos (show k - p ≤ 4 by omega)] | rw [if_neg (show ¬ (k - p ≤ 4) by omega)]
        · refine gg_iconst dX5_takeNumber_80 ?_
          refine gg_goto (tgt := 85) dX5_takeNumber_81 (by decide) ?_
          refine gg_putI rfl gf_RX5_41 dX5_takeNumber_85 sh_20 pl_20 (by decide) (by decide) (by decide) (gfit_i _) ?_
          refine gg_vretv dX5_takeNumber_88 rfl ⟨rfl, rfl⟩ ?_
          refine ⟨_, rfl, gF20_t hF (gF20_u (by omega) (by omega)), (gu_n (by omega)).trans h44, (gu_n (by omega)).trans (h5.trans (by rw [hend])), (gu_n (by omega)).trans (h6.trans (by rw [hend])), gu_s.trans ?_⟩
          rw [hend]
          first | rw [if_pos (show k - p ≤ 4 by omega)] | rw [if_neg (show ¬ (k - p ≤ 4) by omega)]

set_option maxRecDepth 10000 in
theorem c_X5_isSign_1 {l : Launch} {Γ : gC} {ad : Nat → Nat} {I : Nat → Nat → Int} {J : Nat → Nat → Int64} {d : Nat} {i : Int} (h : gSg i) : gKi l Γ gm_X5_isSign d [.int (iv i)] (gSS ad, I, J) (fun e μ => μ = (gSS ad, I, J) ∧ e = 1) := by
  refine gKi_of gk_X5_isSign.1 (Nat.le_of_ble_eq_true rfl) ?_
  show gG l Γ gm_X5_isSign (d, 0, 0, 0, 0) 0 [(0, .int (iv i))] [] _ _
  have h : i = 40 ∨ i = 41 ∨ i = 42 ∨ i = 43 ∨ i = 45 ∨ i = 58 ∨ i = 63 ∨ i = 91 ∨ i = 93 ∨ i = 94 := h
  refine gg_iload_n dX5_isSign_0 0 rfl ?_
  obtain hk | hk | hk | hk | hk | hk | hk | hk | hk | hk := (by omega : i = 40 ∨ i = 41 ∨ i = 42 ∨ i = 43 ∨ i = 45 ∨ i = 58 ∨ i = 63 ∨ i = 91 ∨ i = 93 ∨ i = 94)
  · refine gg_toI (b := 40) (by omega) ?_
    refine gg_lsw (off := 91) (tgt := 92) dX5_isSign_1 (by decide) (by decide) (by decide) (by decide) ?_
    refine gg_iconst dX5_isSign_92 ?_
    refine gg_iretz dX5_isSign_93 rfl (by decide) ⟨rfl, rfl⟩ ?_
    exact ⟨rfl, rfl⟩
  · refine gg_toI (b := 41) (by omega) ?_
    refine gg_lsw (off := 91) (tgt := 92) dX5_isSign_1 (by decide) (by decide) (by decide) (by decide) ?_
    refine gg_iconst dX5_isSign_92 ?_
    refine gg_iretz dX5_isSign_93 rfl (by decide) ⟨rfl, rfl⟩ ?_
    exact ⟨rfl, rfl⟩
  · refine gg_toI (b := 42) (by omega) ?_
    refine gg_lsw (off := 91) (tgt := 92) dX5_isSign_1 (by decide) (by decide) (by decide) (by decide) ?_
    refine gg_iconst dX5_isSign_92 ?_
    refine gg_iretz dX5_isSign_93 rfl (by decide) ⟨rfl, rfl⟩ ?_
    exact ⟨rfl, rfl⟩
  · refine gg_toI (b := 43) (by omega) ?_
    refine gg_lsw (off := 91) (tgt := 92) dX5_isSign_1 (by decide) (by decide) (by decide) (by decide) ?_
    refine gg_iconst dX5_isSign_92 ?_
    refine gg_iretz dX5_isSign_93 rfl (by decide) ⟨rfl, rfl⟩ ?_
    exact ⟨rfl, rfl⟩
  · refine gg_toI (b := 45) (by omega) ?_
    refine gg_lsw (off := 91) (tgt := 92) dX5_isSign_1 (by decide) (by decide) (by decide) (by decide) ?_
    refine gg_iconst dX5_isSign_92 ?_
    refine gg_iretz dX5_isSign_93 rfl (by decide) ⟨rfl, rfl⟩ ?_
    exact ⟨rfl, rfl⟩
  · refine gg_toI (b := 58) (by omega) ?_
    refine gg_lsw (off := 91) (tgt := 92) dX5_isSign_1 (by decide) (by decide) (by decide) (by decide) ?_
    refine gg_iconst dX5_isSign_92 ?_
    refine gg_iretz dX5_isSign_93 rfl (by decide) ⟨rfl, rfl⟩ ?_
    exact ⟨rfl, rfl⟩
  · refine gg_toI (b := 63) (by omega) ?_
    refine gg_lsw (off := 91) (tgt := 92) dX5_isSign_1 (by decide) (by decide) (by decide) (by decide) ?_
    refine gg_iconst dX5_isSign_92 ?_
    refine gg_iretz dX5_isSign_93 rfl (by decide) ⟨rfl, rfl⟩ ?_
    exact ⟨rfl, rfl⟩
  · refine gg_toI (b := 91) (by omega) ?_
    refine gg_lsw (off := 91) (tgt := 92) dX5_isSign_1 (by decide) (by decide) (by decide) (by decide) ?_
    refine gg_iconst dX5_isSign_92 ?_
    refine gg_iretz dX5_isSign_93 rfl (by decide) ⟨rfl, rfl⟩ ?_
    exact ⟨rfl, rfl⟩
  · refine gg_toI (b := 93) (by omega) ?_
    refine gg_lsw (off := 91) (tgt := 92) dX5_isSign_1 (by decide) (by decide) (by decide) (by decide) ?_
    refine gg_iconst dX5_isSign_92 ?_
    refine gg_iretz dX5_isSign_93 rfl (by decide) ⟨rfl, rfl⟩ ?_
    exact ⟨rfl, rfl⟩
  · refine gg_toI (b := 94) (by omega) ?_
    refine gg_lsw (off := 91) (tgt := 92) dX5_isSign_1 (by decide) (by decide) (by decide) (by decide) ?_
    refine gg_iconst dX5_isSign_92 ?_
    refine gg_iretz dX5_isSign_93 rfl (by decide) ⟨rfl, rfl⟩ ?_
    exact ⟨rfl, rfl⟩

set_option maxRecDepth 10000 in
theorem c_X5_isSign_0 {l : Launch} {Γ : gC} {ad : Nat → Nat} {I : Nat → Nat → Int} {J : Nat → Nat → Int64} {d : Nat} {i : Int} (hi : -2147483648 ≤ i ∧ i ≤ 2147483647) (h : ¬ gSg i) : gKi l Γ gm_X5_isSign d [.int (iv i)] (gSS ad, I, J) (fun e μ => μ = (gSS ad, I, J) ∧ e = 0) := by
  refine gKi_of gk_X5_isSign.1 (Nat.le_of_ble_eq_true rfl) ?_
  show gG l Γ gm_X5_isSign (d, 0, 0, 0, 0) 0 [(0, .int (iv i))] [] _ _
  have h : ¬ (i = 40 ∨ i = 41 ∨ i = 42 ∨ i = 43 ∨ i = 45 ∨ i = 58 ∨ i = 63 ∨ i = 91 ∨ i = 93 ∨ i = 94) := h
  refine gg_iload_n dX5_isSign_0 0 rfl ?_
  refine gg_lsw (off := 93) (tgt := 94) dX5_isSign_1 (by decide) (by omega) (by show Op.lookupswitch.offset [(40, 91), (41, 91), (42, 91), (43, 91), (45, 91), (58, 91), (63, 91), (91, 91), (93, 91), (94, 91)] (93) i = 93; simp only [Op.lookupswitch.offset_cons, Op.lookupswitch.offset_nil]; rw [if_neg (by omega), if_neg (by omega), if_neg (by omega), if_neg (by omega), if_neg (by omega), if_neg (by omega), if_neg (by omega), if_neg (by omega), if_neg (by omega), if_neg (by omega)]) (by decide) ?_
  refine gg_iconst dX5_isSign_94 ?_
  refine gg_iretz dX5_isSign_95 rfl (by decide) ⟨rfl, rfl⟩ ?_
  exact ⟨rfl, rfl⟩

theorem c_X5_isSign {l : Launch} {Γ : gC} {ad : Nat → Nat} {I : Nat → Nat → Int} {J : Nat → Nat → Int64} {d : Nat} {i : Int} (hi : -2147483648 ≤ i ∧ i ≤ 2147483647) : gKi l Γ gm_X5_isSign d [.int (iv i)] (gSS ad, I, J) (fun e μ => μ = (gSS ad, I, J) ∧ ((e = 1 ∧ (gSg i)) ∨ (e = 0 ∧ ¬ (gSg i)))) := by
  by_cases h : gSg i
  · exact gK_mono (c_X5_isSign_1 h) (fun r μ ⟨e, h1, h2, h3⟩ => ⟨e, h1, h2, Or.inl ⟨h3, h⟩⟩)
  · exact gK_mono (c_X5_isSign_0 hi h) (fun r μ ⟨e, h1, h2, h3⟩ => ⟨e, h1, h2, Or.inr ⟨h3, h⟩⟩)
set_option maxRecDepth 10000 in
theorem c_X5_takeWord {l : Launch} {Γ : gC} {ad : Nat → Nat} {I : Nat → Nat → Int} {J : Nat → Nat → Int64} {d : Nat} {T : Nat → Int} {n : Nat} {p : Nat} (hp : p < n) (hT : gTp I T n) (h4 : I 20 4 = (p : Int)) (h5 : I 20 5 = (p : Int)) (hlp : gLt (T p) = true) (hd : 2 ≤ d) : gKv l Γ gm_X5_takeWord d [.ref (gad (gSS ad) 20), .int (iv (T p))] (gSS ad, I, J) (fun μ => ∃ I1, μ = (gSS ad, I1, J) ∧ gF20 I I1 ∧ I1 20 4 = I 20 4 ∧ I1 20 5 = ((gRunE gLt T n p : Nat) : Int) ∧ I1 20 6 = T p - 97 ∧ I1 20 3 = (if gRunE gLt T n p - p = 1 ∧ T p - 97 < 8 then 2 else 1)) := by
  refine gKv_of gk_X5_takeWord.1 (Nat.le_of_ble_eq_true rfl) ?_
  show gG l Γ gm_X5_takeWord (d, 0, 0, 0, 0) 0 [(0, .ref (gad (gSS ad) 20)), (1, .int (iv (T p)))] [] _ _
  exact w_X5_takeWord hp h4 hlp hd (n - p + 1) p I (by omega) (by omega) hT h5 rfl (gF20_r I) rfl

set_option maxRecDepth 10000 in
theorem c_X5_takeNumber {l : Launch} {Γ : gC} {ad : Nat → Nat} {I : Nat → Nat → Int} {J : Nat → Nat → Int64} {d : Nat} {T : Nat → Int} {n : Nat} {p : Nat} (hp : p < n) (hT : gTp I T n) (h4 : I 20 4 = (p : Int)) (h5 : I 20 5 = (p : Int)) (hd : 2 ≤ d) : gKv l Γ gm_X5_takeNumber d [.ref (gad (gSS ad) 20)] (gSS ad, I, J) (fun μ => ∃ I1, μ = (gSS ad, I1, J) ∧ gF20 I I1 ∧ I1 20 4 = I 20 4 ∧ I1 20 5 = ((gRunE gDgt T n p : Nat) : Int) ∧ I1 20 6 = gVl T p (gRunE gDgt T n p - p) ∧ I1 20 3 = (if gRunE gDgt T n p - p ≤ 4 then 3 else 1)) := by
  refine gKv_of gk_X5_takeNumber.1 (Nat.le_of_ble_eq_true rfl) ?_
  show gG l Γ gm_X5_takeNumber (d, 0, 0, 0, 0) 0 [(0, .ref (gad (gSS ad) 20))] [] _ _
  refine gg_aload_n dX5_takeNumber_0 0 rfl ?_
  refine gg_iconst dX5_takeNumber_1 ?_
  refine gg_putI rfl gf_RX5_74 dX5_takeNumber_2 sh_20 pl_20 (by decide) (by decide) (by decide) (gfit_i _) ?_
  have hf : gF20 I (gu I 20 6 0) := gF20_u (by omega) (by omega)
  refine gG_post (w_X5_takeNumber (I0 := gu I 20 6 0) hp ((gu_n (by omega)).trans h4) hd (n - p + 1) p _ (by omega) (by omega) (gTp_f hT hf) ((gu_n (by omega)).trans h5) (by rw [Nat.sub_self]; exact gu_s) rfl (gF20_r _) rfl) (fun r μ h => ?_)
  obtain ⟨rfl, I1, rfl, g1, g2, g3⟩ := h
  exact ⟨rfl, I1, rfl, gF20_t hf g1, g2.trans (gu_n (by omega)), g3⟩

set_option maxRecDepth 10000 in
theorem w_X5_advance {l : Launch} {Γ : gC} {ad : Nat → Nat} {I0 : Nat → Nat → Int} {J : Nat → Nat → Int64} {d : Nat} {T : Nat → Int} {n : Nat} {q : Nat} (hq : q ≤ n) (hd : 3 ≤ d) : ∀ (m : Nat) (p : Nat) (I : Nat → Nat → Int), n - p < m → (q ≤ p ∧ p ≤ n) → (gTp I T n) → (I 20 4 = (p : Int)) → (gRunE gBl T n p = gtP T n q) → (gF20 I0 I) → gG l Γ gm_X5_advance (d, 0, 0, 0, 0) 8 [(0, .ref (gad (gSS ad) 20))] [] (gSS ad, I, J) (gDv (fun μ => ∃ I1, μ = (gSS ad, I1, J) ∧ gF20 I0 I1 ∧ gRd I1 T n q)) := by
  intro m
  induction m with
  | zero => intros; omega
  | succ m ih =>
    intro p I hm hk hT h4 hr hF
    refine gg_aload_n dX5_advance_8 0 rfl ?_
    refine gg_getI rfl gf_RX5_48 dX5_advance_9 sh_20 pl_20 (by decide) (by decide) ?_
    refine gg_toI (b := (p : Int)) h4 ?_
    refine gg_aload_n dX5_advance_12 0 rfl ?_
    refine gg_getI rfl gf_RX5_19 dX5_advance_13 sh_20 pl_20 (by decide) (by decide) ?_
    refine gg_toI (b := (n : Int)) hT.2.1 ?_
    refine gg_icmp_ge (tgt := 46) dX5_advance_16 (by decide) (by have := hT.1; omega) (fun hb => ?_) (fun hb => ?_)
    · have hP : gtP T n q = p := by rw [← hr]; exact gRunE_f (by omega)
      refine gg_aload_n dX5_advance_46 0 rfl ?_
      refine gg_aload_n dX5_advance_47 0 rfl ?_
      refine gg_getI rfl gf_RX5_48 dX5_advance_48 sh_20 pl_20 (by decide) (by decide) ?_
      refine gg_toI (b := (p : Int)) h4 ?_
      refine gg_putI rfl gf_RX5_31 dX5_advance_51 sh_20 pl_20 (by decide) (by decide) (by decide) (gfit_i _) ?_
      refine gg_aload_n dX5_advance_54 0 rfl ?_
      refine gg_aload_n dX5_advance_55 0 rfl ?_
      refine gg_getI rfl gf_RX5_48 dX5_advance_56 sh_20 pl_20 (by decide) (by decide) ?_
      refine gg_toI (b := (p : Int)) ((gu_n (by omega)).trans h4) ?_
      refine gg_callVi (own := RX5) (yt := gm_X5_byteAt) rfl gl_RX5_51 gk_X5_byteAt gr_X5_byteAt dX5_advance_59 (c_X5_byteAt (d := d - 1) (T := T) (n := n) (i := p) (gTp_f hT (gF20_u (by omega) (by omega))) (by have := hT.1; omega)) sh_20 pl_20 (by decide) rfl rfl rfl (Nat.le_of_ble_eq_true rfl) (by show _ ≤ d; omega) ⟨Nat.le_refl _, Nat.le_refl _⟩ (fun e1 μ' hc => ?_)
      obtain ⟨rfl, rfl⟩ := hc
      refine gg_toI (b := 0) (if_neg (by omega)) ?_
      refine gg_istore_n (ls' := [(1, .int (iv 0)), (0, .ref (gad (gSS ad) 20))]) dX5_advance_62 rfl (by decide) rfl ?_
      refine gg_aload_n dX5_advance_63 1 rfl ?_
      refine gg_getI rfl gf_RX5_48 dX5_advance_64 sh_20 pl_20 (by decide) (by decide) ?_
      refine gg_toI (b := (p : Int)) ((gu_n (by omega)).trans h4) ?_
      refine gg_aload_n dX5_advance_67 1 rfl ?_
      refine gg_getI rfl gf_RX5_19 dX5_advance_68 sh_20 pl_20 (by decide) (by decide) ?_
      refine gg_toI (b := (n : Int)) (gTp_f hT (gF20_u (by omega) (by omega))).2.1 ?_
      refine gg_icmp_lt_f (tgt := 82) dX5_advance_71 (by decide) (by have := hT.1; omega) (by omega) ?_
      refine gg_aload_n dX5_advance_74 1 rfl ?_
      refine gg_iconst dX5_advance_75 ?_
      refine gg_putI rfl gf_RX5_41 dX5_advance_76 sh_20 pl_20 (by decide) (by decide) (by decide) (gfit_i _) ?_
      refine gg_goto (tgt := 137) dX5_advance_79 (by decide) ?_
      refine gg_vretv dX5_advance_137 rfl ⟨rfl, rfl⟩ ?_
      have hE : gtE T n q = p := by unfold gtE; rw [hP, if_pos (by omega)]
      have hC : gtC T n q = 0 := by unfold gtC; rw [hP, if_pos (by omega)]
      exact ⟨_, rfl, gF20_t hF (gF20_t (gF20_u (by omega) (by omega)) (gF20_u (by omega) (by omega))), by rw [hC]; exact gu_s, by rw [hP]; exact (gu_n (by omega)).trans ((gu_n (by omega)).trans h4), by rw [hE]; exact (gu_n (by omega)).trans gu_s, fun h => by rw [hC] at h; omega⟩
    · have hlt : p < n := by omega
      refine gg_aload_n dX5_advance_19 0 rfl ?_
      refine gg_aload_n dX5_advance_20 0 rfl ?_
      refine gg_getI rfl gf_RX5_48 dX5_advance_21 sh_20 pl_20 (by decide) (by decide) ?_
      refine gg_toI (b := (p : Int)) h4 ?_
      refine gg_callVi (own := RX5) (yt := gm_X5_byteAt) rfl gl_RX5_51 gk_X5_byteAt gr_X5_byteAt dX5_advance_24 (c_X5_byteAt (d := d - 1) (T := T) (n := n) (i := p) hT (by have := hT.1; omega)) sh_20 pl_20 (by decide) rfl rfl rfl (Nat.le_of_ble_eq_true rfl) (by show _ ≤ d; omega) ⟨Nat.le_refl _, Nat.le_refl _⟩ (fun e2 μ' hc => ?_)
      obtain ⟨rfl, rfl⟩ := hc
      refine gg_toI (b := T p) (if_pos hlt) ?_
      refine gg_callSi (own := RX5) (yt := gm_X5_isBlank) rfl gl_RX5_54 gk_X5_isBlank gr_X5_isBlank dX5_advance_27 (c_X5_isBlank (d := d - 1) (by have := hT.2.2 p hlt; omega)) rfl rfl (Nat.le_of_ble_eq_true rfl) (by show _ ≤ d; omega) ⟨Nat.le_refl _, Nat.le_refl _⟩ (fun e3 μ' hc => ?_)
      obtain ⟨rfl, ⟨rfl, hbl⟩ | ⟨rfl, hbl⟩⟩ := hc
      · refine gg_if_eq_f (tgt := 46) dX5_advance_30 (by decide) (by decide) (by decide) ?_
        refine gg_aload_n dX5_advance_33 0 rfl ?_
        refine gg_dup dX5_advance_34 rfl ?_
        refine gg_getI rfl gf_RX5_48 dX5_advance_35 sh_20 pl_20 (by decide) (by decide) ?_
        refine gg_toI (b := (p : Int)) h4 ?_
        refine gg_iconst dX5_advance_38 ?_
        refine gg_iadd dX5_advance_39 ?_
        refine gg_toI (b := ((p + 1 : Nat) : Int)) (by omega) ?_
        refine gg_putI rfl gf_RX5_48 dX5_advance_40 sh_20 pl_20 (by decide) (by decide) (by decide) (gfit_i _) ?_
        refine gg_memI (fun I2 hI2 => ?_)
        refine gg_goto (tgt := 8) dX5_advance_43 (by decide) ?_
        have hf : gF20 I I2 := by rw [hI2]; exact gF20_u (by omega) (by omega)
        exact ih (p + 1) I2 (by omega) (by omega) (gTp_f hT hf) (by rw [hI2, gu_s]) (by rw [← gRunE_t hlt hbl]; exact hr) (gF20_t hF hf)
      · have hP : gtP T n q = p := by rw [← hr]; exact gRunE_f (fun h => hbl h.2)
        refine gg_if_eq_t (tgt := 46) dX5_advance_30 (by decide) (by decide) (by decide) ?_
        refine gg_aload_n dX5_advance_46 0 rfl ?_
        refine gg_aload_n dX5_advance_47 0 rfl ?_
        refine gg_getI rfl gf_RX5_48 dX5_advance_48 sh_20 pl_20 (by decide) (by decide) ?_
        refine gg_toI (b := (p : Int)) h4 ?_
        refine gg_putI rfl gf_RX5_31 dX5_advance_51 sh_20 pl_20 (by decide) (by decide) (by decide) (gfit_i _) ?_
        refine gg_aload_n dX5_advance_54 0 rfl ?_
        refine gg_aload_n dX5_advance_55 0 rfl ?_
        refine gg_getI rfl gf_RX5_48 dX5_advance_56 sh_20 pl_20 (by decide) (by decide) ?_
        refine gg_toI (b := (p : Int)) ((gu_n (by omega)).trans h4) ?_
        refine gg_callVi (own := RX5) (yt := gm_X5_byteAt) rfl gl_RX5_51 gk_X5_byteAt gr_X5_byteAt dX5_advance_59 (c_X5_byteAt (d := d - 1) (T := T) (n := n) (i := p) (gTp_f hT (gF20_u (by omega) (by omega))) (by have := hT.1; omega)) sh_20 pl_20 (by decide) rfl rfl rfl (Nat.le_of_ble_eq_true rfl) (by show _ ≤ d; omega) ⟨Nat.le_refl _, Nat.le_refl _⟩ (fun e4 μ' hc => ?_)
        obtain ⟨rfl, rfl⟩ := hc
        refine gg_toI (b := T p) (if_pos hlt) ?_
        refine gg_istore_n (ls' := [(1, .int (iv (T p))), (0, .ref (gad (gSS ad) 20))]) dX5_advance_62 rfl (by decide) rfl ?_
        refine gg_aload_n dX5_advance_63 1 rfl ?_
        refine gg_getI rfl gf_RX5_48 dX5_advance_64 sh_20 pl_20 (by decide) (by decide) ?_
        refine gg_toI (b := (p : Int)) ((gu_n (by omega)).trans h4) ?_
        refine gg_aload_n dX5_advance_67 1 rfl ?_
        refine gg_getI rfl gf_RX5_19 dX5_advance_68 sh_20 pl_20 (by decide) (by decide) ?_
        refine gg_toI (b := (n : Int)) (gTp_f hT (gF20_u (by omega) (by omega))).2.1 ?_
        refine gg_icmp_lt_t (tgt := 82) dX5_advance_71 (by decide) (by have := hT.1; omega) (by omega) ?_
        refine gg_iload_n dX5_advance_82 0 rfl ?_
        refine gg_callSi (own := RX5) (yt := gm_X5_isLetter) rfl gl_RX5_58 gk_X5_isLetter gr_X5_isLetter dX5_advance_83 (c_X5_isLetter (d := d - 1) (by have := hT.2.2 p hlt; omega)) rfl rfl (Nat.le_of_ble_eq_true rfl) (by show _ ≤ d; omega) ⟨Nat.le_refl _, Nat.le_refl _⟩ (fun e5 μ' hc => ?_)
        obtain ⟨rfl, ⟨rfl, hl⟩ | ⟨rfl, hl⟩⟩ := hc
        · refine gg_if_eq_f (tgt := 97) dX5_advance_86 (by decide) (by decide) (by decide) ?_
          refine gg_aload_n dX5_advance_89 1 rfl ?_
          refine gg_iload_n dX5_advance_90 0 rfl ?_
          refine gg_callVv (own := RX5) (yt := gm_X5_takeWord) rfl gl_RX5_61 gk_X5_takeWord gr_X5_takeWord dX5_advance_91 (c_X5_takeWord (d := d - 1) (p := p) hlt (gTp_f hT (gF20_u (by omega) (by omega))) ((gu_n (by omega)).trans h4) gu_s hl (by omega)) sh_20 pl_20 (by decide) rfl rfl rfl (Nat.le_of_ble_eq_true rfl) (by show _ ≤ d; omega) ⟨Nat.le_refl _, Nat.le_refl _⟩ (fun μ' hc => ?_)
          obtain ⟨I2, rfl, g1, g2, g3, g4, g5⟩ := hc
          refine gg_goto (tgt := 137) dX5_advance_94 (by decide) ?_
          refine gg_vretv dX5_advance_137 rfl ⟨rfl, rfl⟩ ?_
          have hE : gtE T n q = gRunE gLt T n p := by unfold gtE; rw [hP, if_neg (by omega), if_pos hl]
          have hC : gtC T n q = (if gRunE gLt T n p - p = 1 ∧ T p - 97 < 8 then 2 else 1) := by unfold gtC; rw [hE, hP, if_neg (by omega), if_pos hl]
          have hV : gtV T n q = T p - 97 := by unfold gtV; rw [hP, if_pos hl]
          exact ⟨I2, rfl, gF20_t hF (gF20_t (gF20_u (by omega) (by omega)) g1), by rw [hC]; exact g5, by rw [hP, g2]; exact ((gu_n (by omega)).trans h4), by rw [hE]; exact g3, fun _ => by rw [hV]; exact g4⟩
        · refine gg_if_eq_t (tgt := 97) dX5_advance_86 (by decide) (by decide) (by decide) ?_
          refine gg_iload_n dX5_advance_97 0 rfl ?_
          refine gg_callSi (own := RX5) (yt := gm_X5_isDigit) rfl gl_RX5_65 gk_X5_isDigit gr_X5_isDigit dX5_advance_98 (c_X5_isDigit (d := d - 1) (by have := hT.2.2 p hlt; omega)) rfl rfl (Nat.le_of_ble_eq_true rfl) (by show _ ≤ d; omega) ⟨Nat.le_refl _, Nat.le_refl _⟩ (fun e7 μ' hc => ?_)
          obtain ⟨rfl, ⟨rfl, hdg⟩ | ⟨rfl, hdg⟩⟩ := hc
          · refine gg_if_eq_f (tgt := 111) dX5_advance_101 (by decide) (by decide) (by decide) ?_
            refine gg_aload_n dX5_advance_104 1 rfl ?_
            refine gg_callVv (own := RX5) (yt := gm_X5_takeNumber) rfl gl_RX5_68 gk_X5_takeNumber gr_X5_takeNumber dX5_advance_105 (c_X5_takeNumber (d := d - 1) (p := p) hlt (gTp_f hT (gF20_u (by omega) (by omega))) ((gu_n (by omega)).trans h4) gu_s (by omega)) sh_20 pl_20 (by decide) rfl rfl rfl (Nat.le_of_ble_eq_true rfl) (by show _ ≤ d; omega) ⟨Nat.le_refl _, Nat.le_refl _⟩ (fun μ' hc => ?_)
            obtain ⟨I2, rfl, g1, g2, g3, g4, g5⟩ := hc
            refine gg_goto (tgt := 137) dX5_advance_108 (by decide) ?_
            refine gg_vretv dX5_advance_137 rfl ⟨rfl, rfl⟩ ?_
            have hE : gtE T n q = gRunE gDgt T n p := by unfold gtE; rw [hP, if_neg (by omega), if_neg hl, if_pos hdg]
            have hC : gtC T n q = (if gRunE gDgt T n p - p ≤ 4 then 3 else 1) := by unfold gtC; rw [hE, hP, if_neg (by omega), if_neg hl, if_pos hdg]
            have hV : gtV T n q = gVl T p (gRunE gDgt T n p - p) := by unfold gtV; rw [hE, hP, if_neg hl]
            exact ⟨I2, rfl, gF20_t hF (gF20_t (gF20_u (by omega) (by omega)) g1), by rw [hC]; exact g5, by rw [hP, g2]; exact ((gu_n (by omega)).trans h4), by rw [hE]; exact g3, fun _ => by rw [hV]; exact g4⟩
          · refine gg_if_eq_t (tgt := 111) dX5_advance_101 (by decide) (by decide) (by decide) ?_
            refine gg_aload_n dX5_advance_111 1 rfl ?_
            refine gg_dup dX5_advance_112 rfl ?_
            refine gg_getI rfl gf_RX5_31 dX5_advance_113 sh_20 pl_20 (by decide) (by decide) ?_
            refine gg_toI (b := (p : Int)) gu_s ?_
            refine gg_iconst dX5_advance_116 ?_
            refine gg_iadd dX5_advance_117 ?_
            refine gg_toI (b := ((p + 1 : Nat) : Int)) (by omega) ?_
            refine gg_putI rfl gf_RX5_31 dX5_advance_118 sh_20 pl_20 (by decide) (by decide) (by decide) (gfit_i _) ?_
            refine gg_aload_n dX5_advance_121 1 rfl ?_
            refine gg_iload_n dX5_advance_122 0 rfl ?_
            refine gg_callSi (own := RX5) (yt := gm_X5_isSign) rfl gl_RX5_71 gk_X5_isSign gr_X5_isSign dX5_advance_123 (c_X5_isSign (d := d - 1) (by have := hT.2.2 p hlt; omega)) rfl rfl (Nat.le_of_ble_eq_true rfl) (by show _ ≤ d; omega) ⟨Nat.le_refl _, Nat.le_refl _⟩ (fun e9 μ' hc => ?_)
            obtain ⟨rfl, ⟨rfl, hsg⟩ | ⟨rfl, hsg⟩⟩ := hc
            · refine gg_if_eq_f (tgt := 133) dX5_advance_126 (by decide) (by decide) (by decide) ?_
              refine gg_iload_n dX5_advance_129 0 rfl ?_
              refine gg_goto (tgt := 134) dX5_advance_130 (by decide) ?_
              refine gg_putI rfl gf_RX5_41 dX5_advance_134 sh_20 pl_20 (by decide) (by decide) (by decide) (gfit_i _) ?_
              refine gg_vretv dX5_advance_137 rfl ⟨rfl, rfl⟩ ?_
              have hE : gtE T n q = p + 1 := by unfold gtE; rw [hP, if_neg (by omega), if_neg hl, if_neg hdg]
              have hC : gtC T n q = T p := by unfold gtC; rw [hP, if_neg (by omega), if_neg hl, if_neg hdg]; exact if_pos hsg
              exact ⟨_, rfl, gF20_t hF (gF20_t (gF20_u (by omega) (by omega)) (gF20_t (gF20_u (by omega) (by omega)) (gF20_u (by omega) (by omega)))), by rw [hC]; exact gu_s, by rw [hP]; exact (gu_n (by omega)).trans ((gu_n (by omega)).trans ((gu_n (by omega)).trans h4)), by rw [hE]; exact (gu_n (by omega)).trans gu_s, fun h => by rw [hC] at h; (have hsg : T p = 40 ∨ T p = 41 ∨ T p = 42 ∨ T p = 43 ∨ T p = 45 ∨ T p = 58 ∨ T p = 63 ∨ T p = 91 ∨ T p = 93 ∨ T p = 94 := hsg); omega⟩
            · refine gg_if_eq_t (tgt := 133) dX5_advance_126 (by decide) (by decide) (by decide) ?_
              refine gg_iconst dX5_advance_133 ?_
              refine gg_putI rfl gf_RX5_41 dX5_advance_134 sh_20 pl_20 (by decide) (by decide) (by decide) (gfit_i _) ?_
              refine gg_vretv dX5_advance_137 rfl ⟨rfl, rfl⟩ ?_
              have hE : gtE T n q = p + 1 := by unfold gtE; rw [hP, if_neg (by omega), if_neg hl, if_neg hdg]
              have hC : gtC T n q = 1 := by unfold gtC; rw [hP, if_neg (by omega), if_neg hl, if_neg hdg]; exact if_neg hsg
              exact ⟨_, rfl, gF20_t hF (gF20_t (gF20_u (by omega) (by omega)) (gF20_t (gF20_u (by omega) (by omega)) (gF20_u (by omega) (by omega)))), by rw [hC]; exact gu_s, by rw [hP]; exact (gu_n (by omega)).trans ((gu_n (by omega)).trans ((gu_n (by omega)).trans h4)), by rw [hE]; exact (gu_n (by omega)).trans gu_s, fun h => by rw [hC] at h; omega⟩

set_option maxRecDepth 10000 in
theorem c_X5_advance {l : Launch} {Γ : gC} {ad : Nat → Nat} {I : Nat → Nat → Int} {J : Nat → Nat → Int64} {d : Nat} {T : Nat → Int} {n : Nat} {q : Nat} (hq : q ≤ n) (hT : gTp I T n) (h5 : I 20 5 = (q : Int)) (hd : 3 ≤ d) : gKv l Γ gm_X5_advance d [.ref (gad (gSS ad) 20)] (gSS ad, I, J) (fun μ => ∃ I1, μ = (gSS ad, I1, J) ∧ gF20 I I1 ∧ gRd I1 T n q) := by
  refine gKv_of gk_X5_advance.1 (Nat.le_of_ble_eq_true rfl) ?_
  show gG l Γ gm_X5_advance (d, 0, 0, 0, 0) 0 [(0, .ref (gad (gSS ad) 20))] [] _ _
  refine gg_aload_n dX5_advance_0 0 rfl ?_
  refine gg_aload_n dX5_advance_1 0 rfl ?_
  refine gg_getI rfl gf_RX5_31 dX5_advance_2 sh_20 pl_20 (by decide) (by decide) ?_
  refine gg_toI (b := (q : Int)) h5 ?_
  refine gg_putI rfl gf_RX5_48 dX5_advance_5 sh_20 pl_20 (by decide) (by decide) (by decide) (gfit_i _) ?_
  have hf : gF20 I (gu I 20 4 (q : Int)) := gF20_u (by omega) (by omega)
  exact gG_post (w_X5_advance (I0 := I) hq hd (n - q + 1) q _ (by omega) (by omega) (gTp_f hT hf) gu_s rfl hf) (fun r μ h => h)

set_option maxRecDepth 10000 in
theorem c_X5_fail {l : Launch} {Γ : gC} {ad : Nat → Nat} {I : Nat → Nat → Int} {J : Nat → Nat → Int64} {d : Nat} {p : Nat} (h4 : I 20 4 = (p : Int)) : gKi l Γ gm_X5_fail d [.ref (gad (gSS ad) 20)] (gSS ad, I, J) (fun e μ => μ = (gSS ad, gu I 20 7 (p : Int), J) ∧ e = -1) := by
  refine gKi_of gk_X5_fail.1 (Nat.le_of_ble_eq_true rfl) ?_
  show gG l Γ gm_X5_fail (d, 0, 0, 0, 0) 0 [(0, .ref (gad (gSS ad) 20))] [] _ _
  refine gg_aload_n dX5_fail_0 0 rfl ?_
  refine gg_aload_n dX5_fail_1 0 rfl ?_
  refine gg_getI rfl gf_RX5_48 dX5_fail_2 sh_20 pl_20 (by decide) (by decide) ?_
  refine gg_toI (b := (p : Int)) h4 ?_
  refine gg_putI rfl gf_RX5_23 dX5_fail_5 sh_20 pl_20 (by decide) (by decide) (by decide) (gfit_i _) ?_
  refine gg_iconst dX5_fail_8 ?_
  refine gg_ireti dX5_fail_9 rfl ⟨rfl, rfl⟩ ?_
  exact ⟨rfl, rfl⟩

