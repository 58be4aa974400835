/-! rules with a place in a row told as a Nat -/
section GR2
variable {l : Launch} {Γ : gC} {mt : gY} {B : gB} {pc : Nat} {ls ls' : List (Nat × Value)} {st : List Value} {S : gS} {I : Nat → Nat → Int} {J : Nat → Nat → Int64} {Q : Option Value → gM → Prop} {a b i v : Int} {x : Int64} {n k k' q : Nat} {μ : gM}
theorem gg_ialdj (j : Nat) (d : decode mt.2.1 pc = .ok (.iaload, 1)) (hs : S.2.1 k = (100, n)) (hk : k < S.1) (hn : n < 2147483648) (hj : i = (j : Int)) (h : j < n) (kk : gG l Γ mt B (pc + 1) ls (.int (iv (I k j)) :: st) (S, I, J) Q) : gG l Γ mt B pc ls (.int (iv i) :: .ref (gad S k) :: st) (S, I, J) Q := by
  subst hj
  exact gg_iald d hs hk hn (by omega) kk
theorem gg_zaldj (j : Nat) (d : decode mt.2.1 pc = .ok (.baload, 1)) (hs : S.2.1 k = (102, n)) (hk : k < S.1) (hn : n < 2147483648) (hj : i = (j : Int)) (h : j < n) (kk : gG l Γ mt B (pc + 1) ls (.int (iv (I k j)) :: st) (S, I, J) Q) : gG l Γ mt B pc ls (.int (iv i) :: .ref (gad S k) :: st) (S, I, J) Q := by
  subst hj
  exact gg_zald d hs hk hn (by omega) kk
theorem gg_baldj (j : Nat) (d : decode mt.2.1 pc = .ok (.baload, 1)) (hs : S.2.1 k = (103, n)) (hk : k < S.1) (hn : n < 2147483648) (hj : i = (j : Int)) (h : j < n) (kk : gG l Γ mt B (pc + 1) ls (.int (iv (I k j)) :: st) (S, I, J) Q) : gG l Γ mt B pc ls (.int (iv i) :: .ref (gad S k) :: st) (S, I, J) Q := by
  subst hj
  exact gg_bald d hs hk hn (by omega) kk
theorem gg_laldj (j : Nat) (d : decode mt.2.1 pc = .ok (.laload, 1)) (hs : S.2.1 k = (101, n)) (hk : k < S.1) (hn : n < 2147483648) (hj : i = (j : Int)) (h : j < n) (kk : gG l Γ mt B (pc + 1) ls (.long (J k j) :: st) (S, I, J) Q) : gG l Γ mt B pc ls (.int (iv i) :: .ref (gad S k) :: st) (S, I, J) Q := by
  subst hj
  exact gg_lald d hs hk hn (by omega) kk
theorem gg_aaldj {t : Nat} (j : Nat) (d : decode mt.2.1 pc = .ok (.aaload, 1)) (hs : S.2.1 k = (100 + t, n)) (ht : 4 ≤ t ∧ t < 8) (hk : k < S.1) (hn : n < 2147483648) (hj : i = (j : Int)) (h : j < n) (hq : S.2.2.1 k j = some k') (kk : gG l Γ mt B (pc + 1) ls (.ref (gad S k') :: st) (S, I, J) Q) : gG l Γ mt B pc ls (.int (iv i) :: .ref (gad S k) :: st) (S, I, J) Q := by
  subst hj
  exact gg_aald d hs ht hk hn (by omega) hq kk
theorem gg_iastj (j : Nat) (d : decode mt.2.1 pc = .ok (.iastore, 1)) (hs : S.2.1 k = (100, n)) (hk : k < S.1) (hn : n < 2147483648) (hj : i = (j : Int)) (h : j < n) (kk : gG l Γ mt B (pc + 1) ls st (S, gu I k j a, J) Q) : gG l Γ mt B pc ls (.int (iv a) :: .int (iv i) :: .ref (gad S k) :: st) (S, I, J) Q := by
  subst hj
  exact gg_iast d hs hk hn (by omega) kk
theorem gg_zastj (j : Nat) (d : decode mt.2.1 pc = .ok (.bastore, 1)) (hs : S.2.1 k = (102, n)) (hk : k < S.1) (hn : n < 2147483648) (hj : i = (j : Int)) (h : j < n) (ha : a = 0 ∨ a = 1) (kk : gG l Γ mt B (pc + 1) ls st (S, gu I k j a, J) Q) : gG l Γ mt B pc ls (.int (iv a) :: .int (iv i) :: .ref (gad S k) :: st) (S, I, J) Q := by
  subst hj
  exact gg_zast d hs hk hn (by omega) ha kk
theorem gg_bastj (j : Nat) (d : decode mt.2.1 pc = .ok (.bastore, 1)) (hs : S.2.1 k = (103, n)) (hk : k < S.1) (hn : n < 2147483648) (hj : i = (j : Int)) (h : j < n) (ha : -128 ≤ a ∧ a ≤ 127) (kk : gG l Γ mt B (pc + 1) ls st (S, gu I k j a, J) Q) : gG l Γ mt B pc ls (.int (iv a) :: .int (iv i) :: .ref (gad S k) :: st) (S, I, J) Q := by
  subst hj
  exact gg_bast d hs hk hn (by omega) ha kk
theorem gg_lastj (j : Nat) (d : decode mt.2.1 pc = .ok (.lastore, 1)) (hs : S.2.1 k = (101, n)) (hk : k < S.1) (hn : n < 2147483648) (hj : i = (j : Int)) (h : j < n) (kk : gG l Γ mt B (pc + 1) ls st (S, I, gv J k j x) Q) : gG l Γ mt B pc ls (.long x :: .int (iv i) :: .ref (gad S k) :: st) (S, I, J) Q := by
  subst hj
  exact gg_last d hs hk hn (by omega) kk
theorem gg_parts_atj (j : Nat) (d : decode mt.2.1 pc = .ok (.iaload, 1)) (hj : i = (j : Int)) (h : j < 8) (kk : gG l Γ mt B (pc + 1) ls (.int (iv (gParts j)) :: st) (S, I, J) Q) : gG l Γ mt B pc ls (.int (iv i) :: .ref Γ.2.2.2.1.1 :: st) (S, I, J) Q := by
  subst hj
  exact gg_parts_at d (by omega) kk
theorem gg_stands_atj (j : Nat) (d : decode mt.2.1 pc = .ok (.iaload, 1)) (hj : i = (j : Int)) (h : j < 8) (kk : gG l Γ mt B (pc + 1) ls (.int (iv (gStands j)) :: st) (S, I, J) Q) : gG l Γ mt B pc ls (.int (iv i) :: .ref Γ.2.2.2.1.2.1 :: st) (S, I, J) Q := by
  subst hj
  exact gg_stands_at d (by omega) kk
theorem gg_lconstv {f : Fin 2} (d : decode mt.2.1 pc = .ok (.lconst f, 1)) (hv : Int64.ofNat (f : Nat) = x) (kk : gG l Γ mt B (pc + 1) ls (.long x :: st) μ Q) : gG l Γ mt B pc ls st μ Q := by
  subst hv
  exact gg_lconst d kk
theorem gg_alenv {t : Nat} (d : decode mt.2.1 pc = .ok (.arraylength, 1)) (hs : S.2.1 k = (100 + t, n)) (ht : t < 8) (hk : k < S.1) (hv : (n : Int) = v) (kk : gG l Γ mt B (pc + 1) ls (.int (iv v) :: st) (S, I, J) Q) : gG l Γ mt B pc ls (.ref (gad S k) :: st) (S, I, J) Q := by
  subst hv
  exact gg_alen d hs ht hk kk
theorem gg_iincv {j : Nat} (d : decode mt.2.1 pc = .ok (.iinc j b, 3)) (q : Nat) (hq : ls[q]? = some (j, .int (iv a))) (hv : a + b = v) (hn : j < mt.2.2.1) (h : (j, Value.int (iv v)) :: ls.filter (fun q => !(q.1 == j) && !(q.1 + 1 == j && q.2.category == 2)) = ls') (kk : gG l Γ mt B (pc + 3) ls' st μ Q) : gG l Γ mt B pc ls st μ Q := by
  subst hv
  exact gg_iinc d q hq hn h kk
/-- another name for the same number on top -/
theorem gg_toI (h : a = b) (kk : gG l Γ mt B pc ls (.int (iv b) :: st) μ Q) : gG l Γ mt B pc ls (.int (iv a) :: st) μ Q := by
  subst h
  exact kk
end GR2
theorem gSt_sh {ad : Nat → Nat} {s : Nat} (h : s < 4) : (gSS ad).2.1 (137 + 2 * s) = (6, 3) := (gSt s h).1
theorem gSt_lt {ad : Nat → Nat} {s : Nat} (h : s < 4) : 137 + 2 * s < (gSS ad).1 := by show 137 + 2 * s < 245; omega
theorem gSt_r {ad : Nat → Nat} {s : Nat} (h : s < 4) : (gSS ad).2.2.1 (137 + 2 * s) 0 = some (138 + 2 * s) := (gSt s h).2.1
theorem gSt_rs {ad : Nat → Nat} {s : Nat} (h : s < 4) : (gSS ad).2.1 (138 + 2 * s) = (100, 40) := (gSt s h).2.2
theorem gSt_rl {ad : Nat → Nat} {s : Nat} (h : s < 4) : 138 + 2 * s < (gSS ad).1 := by show 138 + 2 * s < 245; omega
theorem gu_s {I : Nat → Nat → Int} {k j : Nat} {x : Int} : gu I k j x k j = x := by simp [gu]
theorem gv_s {J : Nat → Nat → Int64} {k j : Nat} {x : Int64} : gv J k j x k j = x := by simp [gv]
theorem gu_n {I : Nat → Nat → Int} {k j a b : Nat} {x : Int} (h : ¬ (a = k ∧ b = j)) : gu I k j x a b = I a b := by simp [gu, h]
theorem gv_n {J : Nat → Nat → Int64} {k j a b : Nat} {x : Int64} (h : ¬ (a = k ∧ b = j)) : gv J k j x a b = J a b := by simp [gv, h]
