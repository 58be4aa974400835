/-! code: how many lines a tree has, which; a step of the machine that runs them -/
def glF (K : Nat → Nat) (Z : Nat → Nat) (L : Nat → Nat) (j : Nat) : Nat := (if K j = 6 ∨ K j = 7 then 2 else 1) + (if gPar (K j) = 0 then 0 else if gPar (K j) = 1 then L (j + 1) else if gPar (K j) = 2 then L (j + 1) + L (gPt Z j 1) else L (j + 1) + L (gPt Z j 1) + L (gPt Z j 2))
theorem glF_loc {K : Nat → Nat} {Z : Nat → Nat} {L L' : Nat → Nat} {j : Nat} (h : ∀ t, j < t → L t = L' t) : glF K Z L j = glF K Z L' j := by
  unfold glF
  rw [h (j + 1) (by omega), h _ (gPt_gt Z j 1), h _ (gPt_gt Z j 2)]
theorem gL_ex (n : Nat) (K : Nat → Nat) (Z : Nat → Nat) : ∃ L : Nat → Nat, ∀ j, j < n → L j = glF K Z L j := gfix_ex 0 n (glF K Z) (fun _ _ _ h => glF_loc h)
noncomputable def gLc (n : Nat) (K : Nat → Nat) (Z : Nat → Nat) : Nat → Nat := Classical.choose (gL_ex n K Z)
theorem gLc_is (n : Nat) (K : Nat → Nat) (Z : Nat → Nat) : ∀ j, j < n → gLc n K Z j = glF K Z (gLc n K Z) j := Classical.choose_spec (gL_ex n K Z)
theorem gL_rng {n : Nat} {K : Nat → Nat} {N : Nat → Int64} {Z : Nat → Nat} (hW : gWf n K N Z) : ∀ j, j < n → 1 ≤ gLc n K Z j ∧ gLc n K Z j ≤ 2 * Z j := by
  have key : ∀ k, ∀ j, n - k ≤ j → j < n → 1 ≤ gLc n K Z j ∧ gLc n K Z j ≤ 2 * Z j := by
    intro k
    induction k with
    | zero => intro j h1 h2; omega
    | succ k ih =>
      intro j h1 h2
      by_cases hj : n - k ≤ j
      · exact ih j hj h2
      · rw [gLc_is n K Z j h2]
        obtain ⟨hK, hZ1, hZ2, he0, he1, he2, he3, hc1, hc2, hc3, -⟩ := hW.2.2 j h2
        have q1 : 1 ≤ gPar (K j) → gLc n K Z (j + 1) ≤ 2 * Z (j + 1) := fun g => (ih _ (by omega) (hc1 g)).2
        have q2 : 2 ≤ gPar (K j) → gLc n K Z (gPt Z j 1) ≤ 2 * Z (gPt Z j 1) := fun g => (ih _ (by have := gPt_gt Z j 1; omega) (hc2 g)).2
        have q3 : 3 ≤ gPar (K j) → gLc n K Z (gPt Z j 2) ≤ 2 * Z (gPt Z j 2) := fun g => (ih _ (by have := gPt_gt Z j 2; omega) (hc3 g)).2
        clear ih hc1 hc2 hc3 hW
        unfold glF
        obtain hk | hk | hk | hk | hk | hk | hk | hk : K j = 0 ∨ K j = 1 ∨ K j = 2 ∨ K j = 3 ∨ K j = 4 ∨ K j = 5 ∨ K j = 6 ∨ K j = 7 := by omega
        all_goals rw [hk] at q1 q2 q3 he0 he1 he2 he3 ⊢
        all_goals simp [gPar] at q1 q2 q3 he0 he1 he2 he3 ⊢
        all_goals omega
  exact fun j hj => key n j (by omega) hj
/-- the line at q of the code of node j, if it begins at s; what it pushes -/
def gcvF (K : Nat → Nat) (N : Nat → Int64) (Z : Nat → Nat) (L : Nat → Nat) (C : Nat → Nat → Nat → Int × Int64) (j s q : Nat) : Int × Int64 :=
  if K j = 0 then (0, N j) else if K j = 1 then (10 + gl2i (N j), 0) else if q < s + L (j + 1) then C (j + 1) s q else
  if K j = 2 then (20, 0) else if K j = 5 then (50 + gl2i (N j), 0) else if K j = 7 then (if q = s + L (j + 1) then (80, 0) else (40, 0)) else
  if K j = 6 then (if q = s + L (j + 1) then (60 + 100 * ((s + L (j + 1) + 1 + L (gPt Z j 1) + 1 : Nat) : Int), 0) else if q < s + L (j + 1) + 1 + L (gPt Z j 1) then C (gPt Z j 1) (s + L (j + 1) + 1) q else if q = s + L (j + 1) + 1 + L (gPt Z j 1) then (70 + 100 * ((s + L j : Nat) : Int), 0) else C (gPt Z j 2) (s + L (j + 1) + 1 + L (gPt Z j 1) + 1) q) else
  if q < s + L (j + 1) + L (gPt Z j 1) then C (gPt Z j 1) (s + L (j + 1)) q else if K j = 3 then (30, 0) else (40, 0)
theorem gcvF_loc {K : Nat → Nat} {N : Nat → Int64} {Z : Nat → Nat} {L : Nat → Nat} {C C' : Nat → Nat → Nat → Int × Int64} {j : Nat} (h : ∀ t, j < t → C t = C' t) : gcvF K N Z L C j = gcvF K N Z L C' j := by
  funext s q
  unfold gcvF
  rw [h (j + 1) (by omega), h _ (gPt_gt Z j 1), h _ (gPt_gt Z j 2)]
theorem gC_ex (n : Nat) (K : Nat → Nat) (N : Nat → Int64) (Z : Nat → Nat) : ∃ C : Nat → Nat → Nat → Int × Int64, ∀ j, j < n → C j = gcvF K N Z (gLc n K Z) C j := gfix_ex (fun _ _ => (0, 0)) n (gcvF K N Z (gLc n K Z)) (fun _ _ _ h => gcvF_loc h)
noncomputable def gCv (n : Nat) (K : Nat → Nat) (N : Nat → Int64) (Z : Nat → Nat) : Nat → Nat → Nat → Int × Int64 := Classical.choose (gC_ex n K N Z)
theorem gCv_is (n : Nat) (K : Nat → Nat) (N : Nat → Int64) (Z : Nat → Nat) {j : Nat} (hj : j < n) (s q : Nat) : gCv n K N Z j s q = gcvF K N Z (gLc n K Z) (gCv n K N Z) j s q := by
  have h := Classical.choose_spec (gC_ex n K N Z) j hj
  exact congrFun (congrFun h s) q
/-- r is a part of node i, its code begins at sr, if that of node i does at s -/
def gKd (K : Nat → Nat) (Z : Nat → Nat) (L : Nat → Nat) (i s r sr : Nat) : Prop := (1 ≤ gPar (K i) ∧ r = i + 1 ∧ sr = s) ∨ (2 ≤ gPar (K i) ∧ r = gPt Z i 1 ∧ sr = s + L (i + 1) + (if K i = 6 then 1 else 0)) ∨ (3 ≤ gPar (K i) ∧ r = gPt Z i 2 ∧ sr = s + L (i + 1) + 1 + L (gPt Z i 1) + 1)
theorem gKd_eq {n : Nat} {K : Nat → Nat} {N : Nat → Int64} {Z : Nat → Nat} (hW : gWf n K N Z) {j s r sr q : Nat} (hj : j < n) (h : gKd K Z (gLc n K Z) j s r sr) (h1 : sr ≤ q) (h2 : q < sr + gLc n K Z r) : gCv n K N Z j s q = gCv n K N Z r sr q ∧ s ≤ q ∧ q < s + gLc n K Z j := by
  have hK := (hW.2.2 j hj).1
  have hL := gLc_is n K Z j hj
  rw [gCv_is n K N Z hj]
  unfold gcvF
  unfold glF at hL
  unfold gKd at h
  clear hW hj
  generalize gLc n K Z = L at *
  generalize gCv n K N Z = C at *
  generalize gPt Z j 1 = p1 at *
  generalize gPt Z j 2 = p2 at *
  rcases h with ⟨g, e1, e2⟩ | ⟨g, e1, e2⟩ | ⟨g, e1, e2⟩
  all_goals subst e1
  all_goals obtain hk | hk | hk | hk | hk | hk | hk | hk : K j = 0 ∨ K j = 1 ∨ K j = 2 ∨ K j = 3 ∨ K j = 4 ∨ K j = 5 ∨ K j = 6 ∨ K j = 7 := by omega
  all_goals simp only [hk] at g hL e2 ⊢
  all_goals first | exact absurd g (by decide) | skip
  all_goals simp only [gPar] at hL
  all_goals simp at hL e2
  all_goals subst e2
  all_goals clear g
  all_goals refine ⟨?_, by omega, by omega⟩
  all_goals repeat' split
  all_goals first | (exfalso; omega) | rfl | exact absurd trivial (by assumption)
/-- a line that is as it should be -/
def gMch (a b : Nat) (I : Nat → Nat → Int) (J : Nat → Nat → Int64) (q : Nat) (c : Int × Int64) : Prop := I a q = c.1 ∧ (c.1 = 0 → J b q = c.2)

theorem gCv_0 {n : Nat} {K : Nat → Nat} {N : Nat → Int64} {Z : Nat → Nat} {j s q : Nat} (hj : j < n) (hk : K j = 0)  : gCv n K N Z j s q = (0, N j) := by
  rw [gCv_is n K N Z hj]
  unfold gcvF
  rw [hk]
  repeat' split
  all_goals first | rfl | (exfalso; omega)
theorem gCv_1 {n : Nat} {K : Nat → Nat} {N : Nat → Int64} {Z : Nat → Nat} {j s q : Nat} (hj : j < n) (hk : K j = 1)  : gCv n K N Z j s q = (10 + gl2i (N j), 0) := by
  rw [gCv_is n K N Z hj]
  unfold gcvF
  rw [hk]
  repeat' split
  all_goals first | rfl | (exfalso; omega)
theorem gCv_2 {n : Nat} {K : Nat → Nat} {N : Nat → Int64} {Z : Nat → Nat} {j s q : Nat} (hj : j < n) (hk : K j = 2) (h1 : ¬ q < s + gLc n K Z (j + 1)) : gCv n K N Z j s q = (20, 0) := by
  rw [gCv_is n K N Z hj]
  unfold gcvF
  rw [hk]
  repeat' split
  all_goals first | rfl | (exfalso; omega)
theorem gCv_3 {n : Nat} {K : Nat → Nat} {N : Nat → Int64} {Z : Nat → Nat} {j s q : Nat} (hj : j < n) (hk : K j = 3) (h1 : ¬ q < s + gLc n K Z (j + 1)) (h2 : ¬ q < s + gLc n K Z (j + 1) + gLc n K Z (gPt Z j 1)) : gCv n K N Z j s q = (30, 0) := by
  rw [gCv_is n K N Z hj]
  unfold gcvF
  rw [hk]
  repeat' split
  all_goals first | rfl | (exfalso; omega)
theorem gCv_4 {n : Nat} {K : Nat → Nat} {N : Nat → Int64} {Z : Nat → Nat} {j s q : Nat} (hj : j < n) (hk : K j = 4) (h1 : ¬ q < s + gLc n K Z (j + 1)) (h2 : ¬ q < s + gLc n K Z (j + 1) + gLc n K Z (gPt Z j 1)) : gCv n K N Z j s q = (40, 0) := by
  rw [gCv_is n K N Z hj]
  unfold gcvF
  rw [hk]
  repeat' split
  all_goals first | rfl | (exfalso; omega)
theorem gCv_5 {n : Nat} {K : Nat → Nat} {N : Nat → Int64} {Z : Nat → Nat} {j s q : Nat} (hj : j < n) (hk : K j = 5) (h1 : ¬ q < s + gLc n K Z (j + 1)) : gCv n K N Z j s q = (50 + gl2i (N j), 0) := by
  rw [gCv_is n K N Z hj]
  unfold gcvF
  rw [hk]
  repeat' split
  all_goals first | rfl | (exfalso; omega)
theorem gCv_7a {n : Nat} {K : Nat → Nat} {N : Nat → Int64} {Z : Nat → Nat} {j s q : Nat} (hj : j < n) (hk : K j = 7) (h1 : q = s + gLc n K Z (j + 1)) : gCv n K N Z j s q = (80, 0) := by
  rw [gCv_is n K N Z hj]
  unfold gcvF
  rw [hk]
  repeat' split
  all_goals first | rfl | (exfalso; omega)
theorem gCv_7b {n : Nat} {K : Nat → Nat} {N : Nat → Int64} {Z : Nat → Nat} {j s q : Nat} (hj : j < n) (hk : K j = 7) (h1 : ¬ q < s + gLc n K Z (j + 1)) (h2 : ¬ q = s + gLc n K Z (j + 1)) : gCv n K N Z j s q = (40, 0) := by
  rw [gCv_is n K N Z hj]
  unfold gcvF
  rw [hk]
  repeat' split
  all_goals first | rfl | (exfalso; omega)
theorem gCv_6a {n : Nat} {K : Nat → Nat} {N : Nat → Int64} {Z : Nat → Nat} {j s q : Nat} (hj : j < n) (hk : K j = 6) (h1 : q = s + gLc n K Z (j + 1)) : gCv n K N Z j s q = (60 + 100 * ((s + gLc n K Z (j + 1) + 1 + gLc n K Z (gPt Z j 1) + 1 : Nat) : Int), 0) := by
  rw [gCv_is n K N Z hj]
  unfold gcvF
  rw [hk]
  repeat' split
  all_goals first | rfl | (exfalso; omega)
theorem gCv_6b {n : Nat} {K : Nat → Nat} {N : Nat → Int64} {Z : Nat → Nat} {j s q : Nat} (hj : j < n) (hk : K j = 6) (h1 : q = s + gLc n K Z (j + 1) + 1 + gLc n K Z (gPt Z j 1)) : gCv n K N Z j s q = (70 + 100 * ((s + gLc n K Z j : Nat) : Int), 0) := by
  rw [gCv_is n K N Z hj]
  unfold gcvF
  rw [hk]
  repeat' split
  all_goals first | rfl | (exfalso; omega)
/-- a step: the line's order; how high the stack is then; the line then; the stack then -/
def gyO (T : Nat → Int × Int64) (k : Nat) : Int := (T k).1 / 10 % 10
def gyU (S : Nat → Int64) (p : Nat) (x : Int64) : Nat → Int64 := fun q => if q = p then x else S q
def gyT (T : Nat → Int × Int64) (k h : Nat) : Nat := if gyO T k = 0 ∨ gyO T k = 1 ∨ gyO T k = 8 then h + 1 else if gyO T k = 2 ∨ gyO T k = 5 ∨ gyO T k = 7 then h else h - 1
def gyK (T : Nat → Int × Int64) (k h : Nat) (S : Nat → Int64) : Nat := if gyO T k = 7 ∨ (gyO T k = 6 ∧ S (h - 1) = 0) then ((T k).1 / 100).toNat else k + 1
def gyS (T : Nat → Int × Int64) (v : Nat → Int) (k h : Nat) (S : Nat → Int64) : Nat → Int64 :=
  if gyO T k = 0 then gyU S h (T k).2 else if gyO T k = 1 then gyU S h (gi2l (v ((T k).1 % 10).toNat)) else if gyO T k = 2 then gyU S (h - 1) (-S (h - 1)) else if gyO T k = 3 then gyU S (h - 2) (S (h - 2) + S (h - 1)) else if gyO T k = 4 then gyU S (h - 2) (S (h - 2) * S (h - 1)) else if gyO T k = 5 then gyU S (h - 1) (gpow (S (h - 1)) ((T k).1 % 10).toNat) else if gyO T k = 8 then gyU S h (S (h - 1)) else S
abbrev gyX : Type := Nat × Nat × (Nat → Int64) × Nat
def gyst (T : Nat → Int × Int64) (v : Nat → Int) (x : gyX) : gyX := (gyK T x.1 x.2.1 x.2.2.1, gyT T x.1 x.2.1, gyS T v x.1 x.2.1 x.2.2.1, max x.2.2.2 (gyT T x.1 x.2.1))
def gyit (T : Nat → Int × Int64) (v : Nat → Int) : Nat → gyX → gyX
  | 0, x => x
  | m + 1, x => gyit T v m (gyst T v x)
/-- a step that is safe -/
def gyok (T : Nat → Int × Int64) (len : Nat) (x : gyX) : Prop := x.1 < len ∧ 0 ≤ (T x.1).1 ∧ (T x.1).1 ≤ 100000 ∧ gyO T x.1 ≤ 8 ∧ (gyO T x.1 = 0 → (T x.1).1 = 0) ∧ (gyO T x.1 = 1 → (T x.1).1 % 10 < 8) ∧
  (gyO T x.1 = 2 ∨ gyO T x.1 = 5 ∨ gyO T x.1 = 6 ∨ gyO T x.1 = 8 → 1 ≤ x.2.1) ∧ (gyO T x.1 = 3 ∨ gyO T x.1 = 4 → 2 ≤ x.2.1) ∧ (gyO T x.1 = 0 ∨ gyO T x.1 = 1 ∨ gyO T x.1 = 8 → x.2.1 + 1 ≤ 200) ∧ x.2.1 ≤ x.2.2.2 ∧ x.2.2.2 ≤ 200
def gyR (T : Nat → Int × Int64) (v : Nat → Int) (len : Nat) (x : gyX) (m : Nat) (y : gyX) : Prop := gyit T v m x = y ∧ ∀ t, t < m → gyok T len (gyit T v t x)
theorem gyit_add {T : Nat → Int × Int64} {v : Nat → Int} : ∀ (a b : Nat) (x : gyX), gyit T v (a + b) x = gyit T v b (gyit T v a x)
  | 0, b, x => by rw [Nat.zero_add]; rfl
  | a + 1, b, x => by rw [show a + 1 + b = (a + b) + 1 by omega]; exact gyit_add a b (gyst T v x)
theorem gyit_s {T : Nat → Int × Int64} {v : Nat → Int} (t : Nat) (x : gyX) : gyit T v (t + 1) x = gyst T v (gyit T v t x) := gyit_add t 1 x
theorem gyR_add {T : Nat → Int × Int64} {v : Nat → Int} {len a b : Nat} {x y z : gyX} (h : gyR T v len x a y) (h' : gyR T v len y b z) : gyR T v len x (a + b) z := by
  refine ⟨by rw [gyit_add, h.1]; exact h'.1, fun t ht => ?_⟩
  by_cases hta : t < a
  · exact h.2 t hta
  · have e : t = a + (t - a) := by omega
    rw [e, gyit_add, h.1]
    exact h'.2 (t - a) (by omega)
theorem gyR_1 {T : Nat → Int × Int64} {v : Nat → Int} {len : Nat} {x y : gyX} (h : gyok T len x) (e : gyst T v x = y) : gyR T v len x 1 y := ⟨e, fun t ht => by
  have : t = 0 := by omega
  subst this
  exact h⟩
theorem gyR_c {T : Nat → Int × Int64} {v : Nat → Int} {len m m' : Nat} {x y : gyX} (h : gyR T v len x m y) (e : m = m') : gyR T v len x m' y := e ▸ h
theorem gyst_0 {T : Nat → Int × Int64} {v : Nat → Int} {k h hi : Nat} {S : Nat → Int64} (hT : (T k).1 = 0) : gyst T v (k, h, S, hi) = (k + 1, h + 1, gyU S h (T k).2, max hi (h + 1)) := by
  have ho : gyO T k = 0 := by unfold gyO; omega
  simp [gyst, gyK, gyT, gyS, ho]
theorem gyst_1 {T : Nat → Int × Int64} {v : Nat → Int} {k h hi : Nat} {S : Nat → Int64} {a : Int} (hT : (T k).1 = 10 + a) (ha : 0 ≤ a ∧ a ≤ 9) : gyst T v (k, h, S, hi) = (k + 1, h + 1, gyU S h (gi2l (v a.toNat)), max hi (h + 1)) := by
  have ho : gyO T k = 1 := by unfold gyO; omega
  have hm : (T k).1 % 10 = a := by omega
  simp [gyst, gyK, gyT, gyS, ho, hm]
theorem gyst_2 {T : Nat → Int × Int64} {v : Nat → Int} {k h hi : Nat} {S : Nat → Int64} (hT : (T k).1 = 20) : gyst T v (k, h, S, hi) = (k + 1, h, gyU S (h - 1) (-S (h - 1)), max hi (h)) := by
  have ho : gyO T k = 2 := by unfold gyO; omega
  simp [gyst, gyK, gyT, gyS, ho]
theorem gyst_3 {T : Nat → Int × Int64} {v : Nat → Int} {k h hi : Nat} {S : Nat → Int64} (hT : (T k).1 = 30) : gyst T v (k, h, S, hi) = (k + 1, h - 1, gyU S (h - 2) (S (h - 2) + S (h - 1)), max hi (h - 1)) := by
  have ho : gyO T k = 3 := by unfold gyO; omega
  simp [gyst, gyK, gyT, gyS, ho]
theorem gyst_4 {T : Nat → Int × Int64} {v : Nat → Int} {k h hi : Nat} {S : Nat → Int64} (hT : (T k).1 = 40) : gyst T v (k, h, S, hi) = (k + 1, h - 1, gyU S (h - 2) (S (h - 2) * S (h - 1)), max hi (h - 1)) := by
  have ho : gyO T k = 4 := by unfold gyO; omega
  simp [gyst, gyK, gyT, gyS, ho]
theorem gyst_5 {T : Nat → Int × Int64} {v : Nat → Int} {k h hi : Nat} {S : Nat → Int64} {a : Int} (hT : (T k).1 = 50 + a) (ha : 0 ≤ a ∧ a ≤ 9) : gyst T v (k, h, S, hi) = (k + 1, h, gyU S (h - 1) (gpow (S (h - 1)) a.toNat), max hi (h)) := by
  have ho : gyO T k = 5 := by unfold gyO; omega
  have hm : (T k).1 % 10 = a := by omega
  simp [gyst, gyK, gyT, gyS, ho, hm]
theorem gyst_6t {T : Nat → Int × Int64} {v : Nat → Int} {k h hi : Nat} {S : Nat → Int64} {a : Nat} (hT : (T k).1 = 60 + 100 * (a : Int)) (hs : S (h - 1) = 0) : gyst T v (k, h, S, hi) = (a, h - 1, S, max hi (h - 1)) := by
  have ho : gyO T k = 6 := by unfold gyO; omega
  have hm : ((T k).1 / 100).toNat = a := by omega
  simp [gyst, gyK, gyT, gyS, ho, hm, hs]
theorem gyst_6f {T : Nat → Int × Int64} {v : Nat → Int} {k h hi : Nat} {S : Nat → Int64} {a : Nat} (hT : (T k).1 = 60 + 100 * (a : Int)) (hs : ¬ S (h - 1) = 0) : gyst T v (k, h, S, hi) = (k + 1, h - 1, S, max hi (h - 1)) := by
  have ho : gyO T k = 6 := by unfold gyO; omega
  have hm : ((T k).1 / 100).toNat = a := by omega
  simp [gyst, gyK, gyT, gyS, ho, hm, hs]
theorem gyst_7 {T : Nat → Int × Int64} {v : Nat → Int} {k h hi : Nat} {S : Nat → Int64} {a : Nat} (hT : (T k).1 = 70 + 100 * (a : Int)) : gyst T v (k, h, S, hi) = (a, h, S, max hi (h)) := by
  have ho : gyO T k = 7 := by unfold gyO; omega
  have hm : ((T k).1 / 100).toNat = a := by omega
  simp [gyst, gyK, gyT, gyS, ho, hm]
theorem gyst_8 {T : Nat → Int × Int64} {v : Nat → Int} {k h hi : Nat} {S : Nat → Int64} (hT : (T k).1 = 80) : gyst T v (k, h, S, hi) = (k + 1, h + 1, gyU S h (S (h - 1)), max hi (h + 1)) := by
  have ho : gyO T k = 8 := by unfold gyO; omega
  simp [gyst, gyK, gyT, gyS, ho]
theorem gdg {n : Nat} {K : Nat → Nat} {N : Nat → Int64} {Z : Nat → Nat} (hW : gWf n K N Z) {j : Nat} (hj : j < n) (h : K j = 1) : 0 ≤ gl2i (N j) ∧ gl2i (N j) ≤ 7 := by
  obtain ⟨m, hm, e⟩ := (hW.2.2 j hj).2.2.2.2.2.2.2.2.2.2.1 h
  rw [e, gl2i_nat (by omega)]
  omega
/-- the code of a tree puts one on top, and is safe -/
theorem gyTree {n : Nat} {K : Nat → Nat} {N : Nat → Int64} {Z : Nat → Nat} (hW : gWf n K N Z) {T : Nat → Int × Int64} {v : Nat → Int} {len : Nat} (hlen : len ≤ 400) : ∀ (m j s : Nat), j < n → Z j ≤ m → s + gLc n K Z j ≤ len → (∀ q, s ≤ q → q < s + gLc n K Z j → T q = gCv n K N Z j s q) → ∀ (h : Nat) (S : Nat → Int64) (hi : Nat), h + Z j ≤ 200 → h ≤ hi → hi ≤ 200 → ∃ (c : Nat) (S' : Nat → Int64) (hi' : Nat), 1 ≤ c ∧ c ≤ gLc n K Z j ∧ h + 1 ≤ hi' ∧ hi' ≤ 200 ∧ gyR T v len (s, h, S, hi) c (s + gLc n K Z j, h + 1, S', hi') := by
  intro m
  induction m with
  | zero => intro j s hj hz; have := (hW.2.2 j hj).2.1; omega
  | succ m ih =>
    intro j s hj hz hsl hT h S hi hh hhi hi2
    obtain ⟨hK, hZ1, hZ2, he0, he1, he2, he3, hc1, hc2, hc3, -⟩ := hW.2.2 j hj
    have hL := gLc_is n K Z j hj
    have kid : ∀ r sr, gKd K Z (gLc n K Z) j s r sr → ∀ q, sr ≤ q → q < sr + gLc n K Z r → T q = gCv n K N Z r sr q := by
      intro r sr hk q h1 h2
      obtain ⟨e, g1, g2⟩ := gKd_eq hW hj hk h1 h2
      rw [hT q g1 g2, e]
    have ok : ∀ (k a : Nat) (S1 : Nat → Int64) (b : Nat), k < len → 0 ≤ (T k).1 → (T k).1 ≤ 100000 → gyO T k ≤ 8 → (gyO T k = 0 → (T k).1 = 0) → (gyO T k = 1 → (T k).1 % 10 < 8) → (gyO T k = 2 ∨ gyO T k = 5 ∨ gyO T k = 6 ∨ gyO T k = 8 → 1 ≤ a) → (gyO T k = 3 ∨ gyO T k = 4 → 2 ≤ a) → (gyO T k = 0 ∨ gyO T k = 1 ∨ gyO T k = 8 → a + 1 ≤ 200) → a ≤ b → b ≤ 200 → gyok T len (k, a, S1, b) := fun k a S1 b h1 h2 h3 h4 h5 h6 h7 h8 h9 h10 h11 => ⟨h1, h2, h3, h4, h5, h6, h7, h8, h9, h10, h11⟩
    unfold glF at hL
    obtain hk | hk | hk | hk | hk | hk | hk | hk : K j = 0 ∨ K j = 1 ∨ K j = 2 ∨ K j = 3 ∨ K j = 4 ∨ K j = 5 ∨ K j = 6 ∨ K j = 7 := by omega
    · simp [hk, gPar] at hL he0 he1 he2 he3
      have hT0 := hT s (by omega) (by omega)
      rw [gCv_0 hj hk] at hT0
      have hTv : (T s).1 = 0 := by rw [hT0]
      have ok0 : gyok T len (s, h, S, hi) := by
        have hO : gyO T (s) = 0 := by unfold gyO; omega
        exact ok _ _ _ _ (by omega) (by omega) (by omega) (by omega) (by omega) (by omega) (by omega) (by omega) (by omega) (by omega) (by omega)
      refine ⟨1, gyU S h (T s).2, max hi (h + 1), by omega, by omega, by omega, by omega, ?_⟩
      rw [hL]
      exact gyR_1 ok0 (gyst_0 hTv)
    · simp [hk, gPar] at hL he0 he1 he2 he3
      have hT0 := hT s (by omega) (by omega)
      rw [gCv_1 hj hk] at hT0
      have hTv : (T s).1 = 10 + gl2i (N j) := by rw [hT0]
      have ha := gdg hW hj hk
      have ok0 : gyok T len (s, h, S, hi) := by
        have hO : gyO T (s) = 1 := by unfold gyO; omega
        exact ok _ _ _ _ (by omega) (by omega) (by omega) (by omega) (by omega) (by omega) (by omega) (by omega) (by omega) (by omega) (by omega)
      refine ⟨1, gyU S h (gi2l (v (gl2i (N j)).toNat)), max hi (h + 1), by omega, by omega, by omega, by omega, ?_⟩
      rw [hL]
      exact gyR_1 ok0 (gyst_1 hTv (by omega))
    · simp [hk, gPar] at hL he0 he1 he2 he3
      have q1 := hc1 (by rw [hk]; decide)
      have z1 := (gL_rng hW _ q1).1
      obtain ⟨c1, S1, i1, a1, a2, a3, a4, r1⟩ := ih (j + 1) s q1 (by omega) (by omega) (kid _ _ (Or.inl ⟨by rw [hk]; decide, rfl, rfl⟩)) h S hi (by omega) hhi hi2
      have hT0 := hT (s + gLc n K Z (j + 1)) (by omega) (by omega)
      rw [gCv_2 hj hk (by omega)] at hT0
      have hTv : (T (s + gLc n K Z (j + 1))).1 = 20 := by rw [hT0]
      have ok0 : gyok T len (s + gLc n K Z (j + 1), h + 1, S1, i1) := by
        have hO : gyO T (s + gLc n K Z (j + 1)) = 2 := by unfold gyO; omega
        exact ok _ _ _ _ (by omega) (by omega) (by omega) (by omega) (by omega) (by omega) (by omega) (by omega) (by omega) (by omega) (by omega)
      refine ⟨c1 + 1, gyU S1 (h + 1 - 1) (-S1 (h + 1 - 1)), max i1 (h + 1), by omega, by omega, by omega, by omega, ?_⟩
      rw [show s + gLc n K Z j = s + gLc n K Z (j + 1) + 1 by omega]
      exact gyR_add r1 (gyR_1 ok0 (gyst_2 hTv))
    · simp [hk, gPar] at hL he0 he1 he2 he3
      have q1 := hc1 (by rw [hk]; decide)
      have z1 := (gL_rng hW _ q1).1
      obtain ⟨c1, S1, i1, a1, a2, a3, a4, r1⟩ := ih (j + 1) s q1 (by omega) (by omega) (kid _ _ (Or.inl ⟨by rw [hk]; decide, rfl, rfl⟩)) h S hi (by omega) hhi hi2
      have q2 := hc2 (by rw [hk]; decide)
      have z2 := (gL_rng hW _ q2).1
      obtain ⟨c2, S2, i2, b1, b2, b3, b4, r2⟩ := ih (gPt Z j 1) (s + gLc n K Z (j + 1)) q2 (by omega) (by omega) (kid _ _ (Or.inr (Or.inl ⟨by rw [hk]; decide, rfl, by rw [hk]; rfl⟩))) (h + 1) S1 i1 (by omega) a3 a4
      have hT0 := hT (s + gLc n K Z (j + 1) + gLc n K Z (gPt Z j 1)) (by omega) (by omega)
      rw [gCv_3 hj hk (by omega) (by omega)] at hT0
      have hTv : (T (s + gLc n K Z (j + 1) + gLc n K Z (gPt Z j 1))).1 = 30 := by rw [hT0]
      have ok0 : gyok T len (s + gLc n K Z (j + 1) + gLc n K Z (gPt Z j 1), h + 1 + 1, S2, i2) := by
        have hO : gyO T (s + gLc n K Z (j + 1) + gLc n K Z (gPt Z j 1)) = 3 := by unfold gyO; omega
        exact ok _ _ _ _ (by omega) (by omega) (by omega) (by omega) (by omega) (by omega) (by omega) (by omega) (by omega) (by omega) (by omega)
      refine ⟨c1 + c2 + 1, gyU S2 (h + 1 + 1 - 2) (S2 (h + 1 + 1 - 2) + S2 (h + 1 + 1 - 1)), max i2 (h + 1 + 1 - 1), by omega, by omega, by omega, by omega, ?_⟩
      rw [show s + gLc n K Z j = s + gLc n K Z (j + 1) + gLc n K Z (gPt Z j 1) + 1 by omega]
      exact gyR_add (gyR_add r1 r2) (gyR_1 ok0 (gyst_3 hTv))
    · simp [hk, gPar] at hL he0 he1 he2 he3
      have q1 := hc1 (by rw [hk]; decide)
      have z1 := (gL_rng hW _ q1).1
      obtain ⟨c1, S1, i1, a1, a2, a3, a4, r1⟩ := ih (j + 1) s q1 (by omega) (by omega) (kid _ _ (Or.inl ⟨by rw [hk]; decide, rfl, rfl⟩)) h S hi (by omega) hhi hi2
      have q2 := hc2 (by rw [hk]; decide)
      have z2 := (gL_rng hW _ q2).1
      obtain ⟨c2, S2, i2, b1, b2, b3, b4, r2⟩ := ih (gPt Z j 1) (s + gLc n K Z (j + 1)) q2 (by omega) (by omega) (kid _ _ (Or.inr (Or.inl ⟨by rw [hk]; decide, rfl, by rw [hk]; rfl⟩))) (h + 1) S1 i1 (by omega) a3 a4
      have hT0 := hT (s + gLc n K Z (j + 1) + gLc n K Z (gPt Z j 1)) (by omega) (by omega)
      rw [gCv_4 hj hk (by omega) (by omega)] at hT0
      have hTv : (T (s + gLc n K Z (j + 1) + gLc n K Z (gPt Z j 1))).1 = 40 := by rw [hT0]
      have ok0 : gyok T len (s + gLc n K Z (j + 1) + gLc n K Z (gPt Z j 1), h + 1 + 1, S2, i2) := by
        have hO : gyO T (s + gLc n K Z (j + 1) + gLc n K Z (gPt Z j 1)) = 4 := by unfold gyO; omega
        exact ok _ _ _ _ (by omega) (by omega) (by omega) (by omega) (by omega) (by omega) (by omega) (by omega) (by omega) (by omega) (by omega)
      refine ⟨c1 + c2 + 1, gyU S2 (h + 1 + 1 - 2) (S2 (h + 1 + 1 - 2) * S2 (h + 1 + 1 - 1)), max i2 (h + 1 + 1 - 1), by omega, by omega, by omega, by omega, ?_⟩
      rw [show s + gLc n K Z j = s + gLc n K Z (j + 1) + gLc n K Z (gPt Z j 1) + 1 by omega]
      exact gyR_add (gyR_add r1 r2) (gyR_1 ok0 (gyst_4 hTv))
    · simp [hk, gPar] at hL he0 he1 he2 he3
      have q1 := hc1 (by rw [hk]; decide)
      have z1 := (gL_rng hW _ q1).1
      obtain ⟨c1, S1, i1, a1, a2, a3, a4, r1⟩ := ih (j + 1) s q1 (by omega) (by omega) (kid _ _ (Or.inl ⟨by rw [hk]; decide, rfl, rfl⟩)) h S hi (by omega) hhi hi2
      have hT0 := hT (s + gLc n K Z (j + 1)) (by omega) (by omega)
      rw [gCv_5 hj hk (by omega)] at hT0
      have hTv : (T (s + gLc n K Z (j + 1))).1 = 50 + gl2i (N j) := by rw [hT0]
      have ha := gdig hW hj hk
      have ok0 : gyok T len (s + gLc n K Z (j + 1), h + 1, S1, i1) := by
        have hO : gyO T (s + gLc n K Z (j + 1)) = 5 := by unfold gyO; omega
        exact ok _ _ _ _ (by omega) (by omega) (by omega) (by omega) (by omega) (by omega) (by omega) (by omega) (by omega) (by omega) (by omega)
      refine ⟨c1 + 1, gyU S1 (h + 1 - 1) (gpow (S1 (h + 1 - 1)) (gl2i (N j)).toNat), max i1 (h + 1), by omega, by omega, by omega, by omega, ?_⟩
      rw [show s + gLc n K Z j = s + gLc n K Z (j + 1) + 1 by omega]
      exact gyR_add r1 (gyR_1 ok0 (gyst_5 hTv (by omega)))
    · simp [hk, gPar] at hL he0 he1 he2 he3
      have q1 := hc1 (by rw [hk]; decide)
      have z1 := (gL_rng hW _ q1).1
      obtain ⟨c1, S1, i1, a1, a2, a3, a4, r1⟩ := ih (j + 1) s q1 (by omega) (by omega) (kid _ _ (Or.inl ⟨by rw [hk]; decide, rfl, rfl⟩)) h S hi (by omega) hhi hi2
      have q2 := hc2 (by rw [hk]; decide)
      have z2 := (gL_rng hW _ q2).1
      have q3 := hc3 (by rw [hk]; decide)
      have z3 := (gL_rng hW _ q3).1
      have hT0 := hT (s + gLc n K Z (j + 1)) (by omega) (by omega)
      rw [gCv_6a hj hk rfl] at hT0
      have hTv : (T (s + gLc n K Z (j + 1))).1 = 60 + 100 * ((s + gLc n K Z (j + 1) + 1 + gLc n K Z (gPt Z j 1) + 1 : Nat) : Int) := by rw [hT0]
      have ok0 : gyok T len (s + gLc n K Z (j + 1), h + 1, S1, i1) := by
        have hO : gyO T (s + gLc n K Z (j + 1)) = 6 := by unfold gyO; omega
        exact ok _ _ _ _ (by omega) (by omega) (by omega) (by omega) (by omega) (by omega) (by omega) (by omega) (by omega) (by omega) (by omega)
      have hT1 := hT (s + gLc n K Z (j + 1) + 1 + gLc n K Z (gPt Z j 1)) (by omega) (by omega)
      rw [gCv_6b hj hk rfl] at hT1
      have hTw : (T (s + gLc n K Z (j + 1) + 1 + gLc n K Z (gPt Z j 1))).1 = 70 + 100 * ((s + gLc n K Z j : Nat) : Int) := by rw [hT1]
      by_cases hs : S1 (h + 1 - 1) = 0
      · obtain ⟨c3, S3, i3, d1, d2, d3, d4, r3⟩ := ih (gPt Z j 2) (s + gLc n K Z (j + 1) + 1 + gLc n K Z (gPt Z j 1) + 1) q3 (by omega) (by omega) (kid _ _ (Or.inr (Or.inr ⟨by rw [hk]; decide, rfl, rfl⟩))) h S1 (max i1 h) (by omega) (by omega) (by omega)
        refine ⟨c1 + 1 + c3, S3, i3, by omega, by omega, d3, d4, gyR_add (gyR_add r1 (gyR_1 ok0 (gyst_6t hTv hs))) ?_⟩
        rw [show s + gLc n K Z j = s + gLc n K Z (j + 1) + 1 + gLc n K Z (gPt Z j 1) + 1 + gLc n K Z (gPt Z j 2) by omega]
        exact r3
      · obtain ⟨c2, S2, i2, b1, b2, b3, b4, r2⟩ := ih (gPt Z j 1) (s + gLc n K Z (j + 1) + 1) q2 (by omega) (by omega) (kid _ _ (Or.inr (Or.inl ⟨by rw [hk]; decide, rfl, by rw [hk]; rfl⟩))) h S1 (max i1 h) (by omega) (by omega) (by omega)
        have ok1 : gyok T len (s + gLc n K Z (j + 1) + 1 + gLc n K Z (gPt Z j 1), h + 1, S2, i2) := by
          have hO : gyO T (s + gLc n K Z (j + 1) + 1 + gLc n K Z (gPt Z j 1)) = 7 := by unfold gyO; omega
          exact ok _ _ _ _ (by omega) (by omega) (by omega) (by omega) (by omega) (by omega) (by omega) (by omega) (by omega) (by omega) (by omega)
        exact ⟨c1 + 1 + c2 + 1, S2, max i2 (h + 1), by omega, by omega, by omega, by omega, gyR_add (gyR_add (gyR_add r1 (gyR_1 ok0 (gyst_6f hTv hs))) r2) (gyR_1 ok1 (gyst_7 hTw))⟩
    · simp [hk, gPar] at hL he0 he1 he2 he3
      have q1 := hc1 (by rw [hk]; decide)
      have z1 := (gL_rng hW _ q1).1
      obtain ⟨c1, S1, i1, a1, a2, a3, a4, r1⟩ := ih (j + 1) s q1 (by omega) (by omega) (kid _ _ (Or.inl ⟨by rw [hk]; decide, rfl, rfl⟩)) h S hi (by omega) hhi hi2
      have hT0 := hT (s + gLc n K Z (j + 1)) (by omega) (by omega)
      rw [gCv_7a hj hk rfl] at hT0
      have hTv : (T (s + gLc n K Z (j + 1))).1 = 80 := by rw [hT0]
      have hT1 := hT (s + gLc n K Z (j + 1) + 1) (by omega) (by omega)
      rw [gCv_7b hj hk (by omega) (by omega)] at hT1
      have hTw : (T (s + gLc n K Z (j + 1) + 1)).1 = 40 := by rw [hT1]
      have zz := (hW.2.2 _ q1).2.1
      have ok0 : gyok T len (s + gLc n K Z (j + 1), h + 1, S1, i1) := by
        have hO : gyO T (s + gLc n K Z (j + 1)) = 8 := by unfold gyO; omega
        exact ok _ _ _ _ (by omega) (by omega) (by omega) (by omega) (by omega) (by omega) (by omega) (by omega) (by omega) (by omega) (by omega)
      have ok1 : gyok T len (s + gLc n K Z (j + 1) + 1, h + 1 + 1, (gyU S1 (h + 1) (S1 (h + 1 - 1))), (max i1 (h + 1 + 1))) := by
        have hO : gyO T (s + gLc n K Z (j + 1) + 1) = 4 := by unfold gyO; omega
        exact ok _ _ _ _ (by omega) (by omega) (by omega) (by omega) (by omega) (by omega) (by omega) (by omega) (by omega) (by omega) (by omega)
      refine ⟨c1 + 1 + 1, gyU (gyU S1 (h + 1) (S1 (h + 1 - 1))) (h + 1 + 1 - 2) (gyU S1 (h + 1) (S1 (h + 1 - 1)) (h + 1 + 1 - 2) * gyU S1 (h + 1) (S1 (h + 1 - 1)) (h + 1 + 1 - 1)), max (max i1 (h + 1 + 1)) (h + 1 + 1 - 1), by omega, by omega, by omega, by omega, ?_⟩
      rw [show s + gLc n K Z j = s + gLc n K Z (j + 1) + 1 + 1 by omega]
      exact gyR_add (gyR_add r1 (gyR_1 ok0 (gyst_8 hTv))) (gyR_1 ok1 (gyst_4 hTw))
/-- the values of names alone -/
def gv8 (v : Nat → Int) : Nat → Int := fun q => if q < 8 then v q else 0
def gyH (T : Nat → Int × Int64) (v : Nat → Int) (len m : Nat) : Prop := m ≤ 400 ∧ ∃ (S' : Nat → Int64) (hi' : Nat), gyR T v len (0, 0, fun _ => 0, 0) m (len, 1, S', hi')
/-- how many steps a formula's code takes -/
noncomputable def gyM (n : Nat) (K : Nat → Nat) (N : Nat → Int64) (Z : Nat → Nat) (v : Nat → Int) : Nat := Classical.epsilon (gyH (gCv n K N Z 0 0) (gv8 v) (gLc n K Z 0))
noncomputable def gyE (n : Nat) (K : Nat → Nat) (N : Nat → Int64) (Z : Nat → Nat) (v : Nat → Int) (t : Nat) : gyX := gyit (gCv n K N Z 0 0) (gv8 v) t (0, 0, fun _ => 0, 0)
theorem gyM_is {n : Nat} {K : Nat → Nat} {N : Nat → Int64} {Z : Nat → Nat} (hW : gWf n K N Z) (hn : 0 < n) (v : Nat → Int) : gyM n K N Z v ≤ 400 ∧ (∀ t, t < gyM n K N Z v → gyok (gCv n K N Z 0 0) (gLc n K Z 0) (gyE n K N Z v t)) ∧ (gyE n K N Z v (gyM n K N Z v)).1 = gLc n K Z 0 ∧ (gyE n K N Z v (gyM n K N Z v)).2.1 = 1 := by
  have hz := hW.2.1 hn
  have hn2 := hW.1
  have hl := gL_rng hW 0 hn
  obtain ⟨c, S', hi', h1, h2, h3, h4, h5⟩ := gyTree hW (T := gCv n K N Z 0 0) (v := gv8 v) (len := gLc n K Z 0) (by omega) (Z 0) 0 0 hn (Nat.le_refl _) (by omega) (fun q _ _ => rfl) 0 (fun _ => 0) 0 (by omega) (by omega) (by omega)
  rw [Nat.zero_add] at h5
  have he : gyH (gCv n K N Z 0 0) (gv8 v) (gLc n K Z 0) (gyM n K N Z v) := Classical.epsilon_spec (p := gyH (gCv n K N Z 0 0) (gv8 v) (gLc n K Z 0)) ⟨c, by omega, S', hi', h5⟩
  obtain ⟨g1, S2, i2, g2, g3⟩ := he
  refine ⟨g1, g3, ?_, ?_⟩
  · show (gyit _ _ _ _).1 = _
    rw [g2]
  · show (gyit _ _ _ _).2.1 = _
    rw [g2]
theorem gv8_congr {v v' : Nat → Int} (h : ∀ q, q < 8 → v q = v' q) : gv8 v = gv8 v' := by
  funext q
  unfold gv8
  by_cases hq : q < 8
  · rw [if_pos hq, if_pos hq, h q hq]
  · rw [if_neg hq, if_neg hq]
theorem gyM_v {n : Nat} {K : Nat → Nat} {N : Nat → Int64} {Z : Nat → Nat} {v v' : Nat → Int} (h : ∀ q, q < 8 → v q = v' q) : gyM n K N Z v = gyM n K N Z v' := by
  unfold gyM
  rw [gv8_congr h]
theorem gyE_v {n : Nat} {K : Nat → Nat} {N : Nat → Int64} {Z : Nat → Nat} {v v' : Nat → Int} (h : ∀ q, q < 8 → v q = v' q) (t : Nat) : gyE n K N Z v t = gyE n K N Z v' t := by
  unfold gyE
  rw [gv8_congr h]
