/-! trees as lists of their nodes, each ahead of its parts -/
abbrev gLn : Type := List (Nat × Int64)
/-- the list is so many trees, one behind another -/
def gFo : gLn → Nat → Prop
  | [], c => c = 0
  | x :: l, c => 1 ≤ c ∧ gFo l (c - 1 + gPar x.1)
theorem gFo_app : ∀ (l r : gLn) (a b : Nat), gFo l a → gFo r b → gFo (l ++ r) (a + b)
  | [], r, a, b, h, g => by
    have h : a = 0 := h
    subst h
    rw [List.nil_append, Nat.zero_add]
    exact g
  | x :: l, r, a, b, h, g => by
    obtain ⟨h1, h2⟩ := h
    refine ⟨by omega, ?_⟩
    have := gFo_app l r _ b h2 g
    rw [show a + b - 1 + gPar x.1 = a - 1 + gPar x.1 + b by omega]
    exact this
theorem gFo_node {k : Nat} {x : Int64} {r : gLn} (h : gFo r (gPar k)) : gFo ((k, x) :: r) 1 := ⟨Nat.le_refl _, by
  show gFo r (1 - 1 + gPar k)
  rw [Nat.sub_self, Nat.zero_add]
  exact h⟩
theorem gFo_split : ∀ (l : gLn) (a b : Nat), gFo l (a + b) → ∃ l1 l2, l = l1 ++ l2 ∧ gFo l1 a ∧ gFo l2 b
  | [], a, b, h => by
    have h : a + b = 0 := h
    exact ⟨[], [], rfl, by show a = 0; omega, by show b = 0; omega⟩
  | x :: l, a, b, h => by
    by_cases ha : a = 0
    · subst ha
      rw [Nat.zero_add] at h
      exact ⟨[], x :: l, rfl, rfl, h⟩
    · obtain ⟨h1, h2⟩ := h
      rw [show a + b - 1 + gPar x.1 = a - 1 + gPar x.1 + b by omega] at h2
      obtain ⟨l1, l2, e, g1, g2⟩ := gFo_split l _ b h2
      exact ⟨x :: l1, l2, by rw [e]; rfl, ⟨by omega, g1⟩, g2⟩
theorem gFo_uni : ∀ (l l' r r' : gLn) (a : Nat), gFo l a → gFo l' a → l ++ r = l' ++ r' → l = l'
  | [], [], _, _, _, _, _, _ => rfl
  | [], y :: l', _, _, a, h, g, _ => by
    have h : a = 0 := h
    have := g.1
    omega
  | x :: l, [], _, _, a, h, g, _ => by
    have g : a = 0 := g
    have := h.1
    omega
  | x :: l, y :: l', r, r', a, h, g, e => by
    simp only [List.cons_append, List.cons.injEq] at e
    obtain ⟨rfl, e⟩ := e
    rw [gFo_uni l l' r r' _ h.2 g.2 e]
theorem gFo_pos {l : gLn} {a : Nat} (h : gFo l a) (ha : 1 ≤ a) : 1 ≤ l.length := by
  cases l with
  | nil =>
    have h : a = 0 := h
    omega
  | cons x l => simp
theorem gFo_drop : ∀ (l : gLn) (c j : Nat), gFo l c → j < l.length → ∃ c', 1 ≤ c' ∧ gFo (l.drop j) c'
  | [], _, j, _, hj => absurd hj (Nat.not_lt_zero _)
  | x :: l, c, 0, h, _ => ⟨c, h.1, h⟩
  | x :: l, c, j + 1, h, hj => gFo_drop l _ j h.2 (by simpa using hj)
/-- how many nodes the tree has that begins at j -/
noncomputable def gZl (l : gLn) (j : Nat) : Nat := Classical.epsilon (fun z => ∃ t r, l.drop j = t ++ r ∧ gFo t 1 ∧ t.length = z)
theorem gZl_of {l : gLn} {j : Nat} {t r : gLn} (h : l.drop j = t ++ r) (ht : gFo t 1) : gZl l j = t.length := by
  have hs := Classical.epsilon_spec (p := fun z => ∃ t r, l.drop j = t ++ r ∧ gFo t 1 ∧ t.length = z) ⟨t.length, t, r, h, ht, rfl⟩
  obtain ⟨t', r', h', ht', e⟩ := hs
  have : t' = t := gFo_uni t' t r' r 1 ht' ht (by rw [← h', h])
  show Classical.epsilon _ = _
  rw [← e, this]
def gRk (l : gLn) (j : Nat) : Nat := (l.getD j (0, 0)).1
def gRn (l : gLn) (j : Nat) : Int64 := (l.getD j (0, 0)).2
/-- a node as it may be -/
def gNv (c : Nat × Int64) : Prop := c.1 < 8 ∧ (c.1 = 1 → ∃ m : Nat, m < 8 ∧ c.2 = Int64.ofNat m) ∧ (c.1 = 5 → ∃ m : Nat, m < 10 ∧ c.2 = Int64.ofNat m) ∧ (c.1 ≠ 0 → c.1 ≠ 1 → c.1 ≠ 5 → c.2 = 0)
def gNvs (l : gLn) : Prop := ∀ c, c ∈ l → gNv c
theorem gdrop {l a b : gLn} {j : Nat} (h : l.drop j = a ++ b) : l.drop (j + a.length) = b := by
  have := congrArg (List.drop a.length) h
  rw [List.drop_drop, List.drop_left] at this
  exact this
theorem gRow_at {l r : gLn} {j : Nat} {x : Nat × Int64} (h : l.drop j = x :: r) : l.getD j (0, 0) = x ∧ j < l.length := by
  have hj : j < l.length := by
    by_cases hj : j < l.length
    · exact hj
    · rw [List.drop_eq_nil_of_le (by omega)] at h
      simp at h
  refine ⟨?_, hj⟩
  rw [List.drop_eq_getElem_cons hj] at h
  rw [List.getD_eq_getElem?_getD, List.getElem?_eq_getElem hj]
  simp only [List.cons.injEq] at h
  exact h.1
theorem gWf_of {l : gLn} (h : gFo l 1) (hk : gNvs l) (hn : l.length ≤ 200) : gWf l.length (gRk l) (gRn l) (gZl l) := by
  refine ⟨hn, fun _ => gZl_of (r := []) (by simp) h, fun j hj => ?_⟩
  obtain ⟨c, hc, hd⟩ := gFo_drop l 1 j h hj
  obtain ⟨t, r, e, ht, -⟩ := gFo_split (l.drop j) 1 (c - 1) (by rw [show 1 + (c - 1) = c by omega]; exact hd)
  have hz := gZl_of e ht
  cases t with
  | nil => exact absurd ht (by show ¬ 1 = 0; omega)
  | cons x t =>
    obtain ⟨hx, -⟩ := gRow_at (r := t ++ r) e
    have hkx : gRk l j = x.1 := by unfold gRk; rw [hx]
    have hnx : gRn l j = x.2 := by unfold gRn; rw [hx]
    have hmem : x ∈ l := by
      have : x ∈ l.drop j := by rw [e]; simp
      exact List.mem_of_mem_drop this
    obtain ⟨v1, v2, v3, v4⟩ := hk x hmem
    have hlen : j + (x :: t).length + r.length = l.length := by
      have := congrArg List.length e
      rw [List.length_drop, List.length_append] at this
      omega
    have e1 : l.drop (j + 1) = t ++ r := gdrop (a := [x]) (b := t ++ r) e
    have ht2 : gFo t (gPar x.1) := by
      have := ht.2
      rwa [Nat.sub_self, Nat.zero_add] at this
    rw [hkx, hnx, hz]
    have hp := gPar3 v1
    have hcons : (x :: t).length = 1 + t.length := by simp; omega
    have key1 : 1 ≤ gPar x.1 → ∃ t1 t2, t = t1 ++ t2 ∧ gFo t1 1 ∧ gFo t2 (gPar x.1 - 1) ∧ gZl l (j + 1) = t1.length ∧ l.drop (j + 1 + t1.length) = t2 ++ r ∧ 1 ≤ t1.length := by
      intro g
      obtain ⟨t1, t2, e2, f1, f2⟩ := gFo_split t 1 (gPar x.1 - 1) (by rw [show 1 + (gPar x.1 - 1) = gPar x.1 by omega]; exact ht2)
      rw [e2, List.append_assoc] at e1
      exact ⟨t1, t2, e2, f1, f2, gZl_of e1 f1, gdrop e1, gFo_pos f1 (Nat.le_refl _)⟩
    rw [hcons]
    refine ⟨v1, by omega, by omega, ?_, ?_, ?_, ?_, ?_, ?_, ?_, v2, v3, v4⟩
    · intro g
      rw [g] at ht2
      cases t with
      | nil => rfl
      | cons y t => exact absurd ht2.1 (by omega)
    · intro g
      obtain ⟨t1, t2, e2, f1, f2, z1, d1, p1⟩ := key1 (by omega)
      rw [g] at f2
      have : t2 = [] := by
        cases t2 with
        | nil => rfl
        | cons y t => exact absurd f2.1 (by omega)
      rw [z1, e2, this]
      simp
    · intro g
      obtain ⟨t1, t2, e2, f1, f2, z1, d1, p1⟩ := key1 (by omega)
      rw [g] at f2
      have z2 : gZl l (gPt (gZl l) j 1) = t2.length := by
        simp only [gPt]
        rw [z1]
        exact gZl_of d1 f2
      rw [z2, z1, e2, List.length_append]
      omega
    · intro g
      obtain ⟨t1, t2, e2, f1, f2, z1, d1, p1⟩ := key1 (by omega)
      rw [g] at f2
      obtain ⟨t3, t4, e3, f3, f4⟩ := gFo_split t2 1 1 f2
      rw [e3, List.append_assoc] at d1
      have z2 : gZl l (gPt (gZl l) j 1) = t3.length := by
        simp only [gPt]
        rw [z1]
        exact gZl_of d1 f3
      have z3 : gZl l (gPt (gZl l) j 2) = t4.length := by
        have hpt : gPt (gZl l) j 2 = j + 1 + t1.length + t3.length := by
          have : gPt (gZl l) j 2 = j + 1 + gZl l (j + 1) + gZl l (gPt (gZl l) j 1) := rfl
          rw [this, z2, z1]
        rw [hpt]
        exact gZl_of (gdrop d1) f4
      rw [z3, z2, z1, e2, e3, List.length_append, List.length_append]
      omega
    · intro g
      obtain ⟨t1, t2, e2, f1, f2, z1, d1, p1⟩ := key1 g
      rw [e2, List.length_cons, List.length_append] at hlen
      omega
    · intro g
      obtain ⟨t1, t2, e2, f1, f2, z1, d1, p1⟩ := key1 (by omega)
      have := gFo_pos f2 (by omega)
      simp only [gPt]
      rw [z1]
      rw [e2, List.length_cons, List.length_append] at hlen
      omega
    · intro g
      obtain ⟨t1, t2, e2, f1, f2, z1, d1, p1⟩ := key1 (by omega)
      have g3 : gPar x.1 = 3 := by omega
      rw [g3] at f2
      obtain ⟨t3, t4, e3, f3, f4⟩ := gFo_split t2 1 1 f2
      rw [e3, List.append_assoc] at d1
      have z2 : gZl l (gPt (gZl l) j 1) = t3.length := by
        simp only [gPt]
        rw [z1]
        exact gZl_of d1 f3
      have hpt : gPt (gZl l) j 2 = j + 1 + t1.length + t3.length := by
        have : gPt (gZl l) j 2 = j + 1 + gZl l (j + 1) + gZl l (gPt (gZl l) j 1) := rfl
        rw [this, z2, z1]
      have := gFo_pos f4 (Nat.le_refl _)
      rw [hpt]
      rw [e2, e3, List.length_cons, List.length_append, List.length_append] at hlen
      omega
/-- so many nodes of a row from j on -/
def gSl (K : Nat → Nat) (N : Nat → Int64) : Nat → Nat → gLn
  | _, 0 => []
  | j, z + 1 => (K j, N j) :: gSl K N (j + 1) z
theorem gSl_len (K : Nat → Nat) (N : Nat → Int64) : ∀ z j, (gSl K N j z).length = z
  | 0, _ => rfl
  | z + 1, j => by
    show (gSl K N (j + 1) z).length + 1 = z + 1
    rw [gSl_len K N z]
theorem gSl_add (K : Nat → Nat) (N : Nat → Int64) : ∀ a b j, gSl K N j (a + b) = gSl K N j a ++ gSl K N (j + a) b
  | 0, b, j => by rw [Nat.zero_add, Nat.add_zero]; rfl
  | a + 1, b, j => by
    rw [show a + 1 + b = (a + b) + 1 by omega]
    show (K j, N j) :: gSl K N (j + 1) (a + b) = (K j, N j) :: (gSl K N (j + 1) a) ++ _
    rw [gSl_add K N a b (j + 1), show j + 1 + a = j + (a + 1) by omega]
    rfl
theorem gSl_at (K : Nat → Nat) (N : Nat → Int64) : ∀ z j q, q < z → (gSl K N j z)[q]? = some (K (j + q), N (j + q))
  | 0, _, _, h => absurd h (Nat.not_lt_zero _)
  | z + 1, j, 0, _ => rfl
  | z + 1, j, q + 1, h => by
    show (gSl K N (j + 1) z)[q]? = _
    rw [gSl_at K N z (j + 1) q (by omega), show j + 1 + q = j + (q + 1) by omega]
/-- the tree of node j -/
def gSt1 (K : Nat → Nat) (N : Nat → Int64) (Z : Nat → Nat) (j : Nat) : gLn := gSl K N j (Z j)
theorem gSt1_is {n : Nat} {K : Nat → Nat} {N : Nat → Int64} {Z : Nat → Nat} (hW : gWf n K N Z) {j : Nat} (hj : j < n) : gSt1 K N Z j = (K j, N j) :: (if gPar (K j) = 0 then [] else if gPar (K j) = 1 then gSt1 K N Z (j + 1) else if gPar (K j) = 2 then gSt1 K N Z (j + 1) ++ gSt1 K N Z (gPt Z j 1) else gSt1 K N Z (j + 1) ++ (gSt1 K N Z (gPt Z j 1) ++ gSt1 K N Z (gPt Z j 2))) := by
  obtain ⟨hK, hZ1, hZ2, he0, he1, he2, he3, hc1, hc2, hc3, -⟩ := hW.2.2 j hj
  unfold gSt1
  rcases gPar3 hK with p | p | p | p
  · rw [if_pos p, he0 p]
    rfl
  · rw [if_neg (by omega), if_pos p, he1 p, Nat.add_comm 1]
    rfl
  · rw [if_neg (by omega), if_neg (by omega), if_pos p, he2 p, show 1 + Z (j + 1) + Z (gPt Z j 1) = (Z (j + 1) + Z (gPt Z j 1)) + 1 by omega]
    show (K j, N j) :: gSl K N (j + 1) _ = _
    rw [gSl_add]
    rfl
  · rw [if_neg (by omega), if_neg (by omega), if_neg (by omega), he3 p, show 1 + Z (j + 1) + Z (gPt Z j 1) + Z (gPt Z j 2) = (Z (j + 1) + (Z (gPt Z j 1) + Z (gPt Z j 2))) + 1 by omega]
    show (K j, N j) :: gSl K N (j + 1) _ = _
    rw [gSl_add, gSl_add]
    rfl
theorem gSt1_fo {n : Nat} {K : Nat → Nat} {N : Nat → Int64} {Z : Nat → Nat} (hW : gWf n K N Z) : ∀ j, j < n → gFo (gSt1 K N Z j) 1 := by
  have key : ∀ k, ∀ j, n - k ≤ j → j < n → gFo (gSt1 K N Z j) 1 := by
    intro k
    induction k with
    | zero => intro j h1 h2; omega
    | succ k ih =>
      intro j h1 h2
      by_cases hj : n - k ≤ j
      · exact ih j hj h2
      · obtain ⟨hK, hZ1, hZ2, he0, he1, he2, he3, hc1, hc2, hc3, -⟩ := hW.2.2 j h2
        rw [gSt1_is hW h2]
        apply gFo_node
        have q1 := fun g => ih (j + 1) (by omega) (hc1 g)
        have q2 := fun g => ih (gPt Z j 1) (by have := gPt_gt Z j 1; omega) (hc2 g)
        have q3 := fun g => ih (gPt Z j 2) (by have := gPt_gt Z j 2; omega) (hc3 g)
        rcases gPar3 hK with p | p | p | p
        · rw [if_pos p, p]
          rfl
        · rw [if_neg (by omega), if_pos p, p]
          exact q1 (by omega)
        · rw [if_neg (by omega), if_neg (by omega), if_pos p, p]
          exact gFo_app _ _ 1 1 (q1 (by omega)) (q2 (by omega))
        · rw [if_neg (by omega), if_neg (by omega), if_neg (by omega), p]
          exact gFo_app _ _ 1 2 (q1 (by omega)) (gFo_app _ _ 1 1 (q2 (by omega)) (q3 (by omega)))
  exact fun j hj => key n j (by omega) hj
theorem gSl_nv {n : Nat} {K : Nat → Nat} {N : Nat → Int64} {Z : Nat → Nat} (hW : gWf n K N Z) : ∀ z j, j + z ≤ n → gNvs (gSl K N j z)
  | 0, _, _ => fun c hc => by simp [gSl] at hc
  | z + 1, j, h => fun c hc => by
    rcases List.mem_cons.mp hc with rfl | hc
    · obtain ⟨hK, -, -, -, -, -, -, -, -, -, hnm, hpw, hz⟩ := hW.2.2 j (by omega)
      exact ⟨hK, hnm, hpw, hz⟩
    · exact gSl_nv hW z (j + 1) (by omega) c hc
theorem gSt1_nv {n : Nat} {K : Nat → Nat} {N : Nat → Int64} {Z : Nat → Nat} (hW : gWf n K N Z) {j : Nat} (hj : j < n) : gNvs (gSt1 K N Z j) := gSl_nv hW _ j (hW.2.2 j hj).2.2.1
theorem gNvs_app {l r : gLn} (h : gNvs l) (g : gNvs r) : gNvs (l ++ r) := fun c hc => (List.mem_append.mp hc).elim (h c) (g c)
theorem gNvs_cons {x : Nat × Int64} {l : gLn} (h : gNv x) (g : gNvs l) : gNvs (x :: l) := fun c hc => (List.mem_cons.mp hc).elim (fun e => e ▸ h) (g c)
theorem gNvs_nil : gNvs [] := fun c hc => by simp at hc
theorem gNv_z {k : Nat} (h : k < 8) (h1 : k ≠ 1) (h5 : k ≠ 5) : gNv (k, 0) := ⟨h, fun e => absurd e h1, fun e => absurd e h5, fun _ _ _ => rfl⟩
theorem gNv_n (x : Int64) : gNv (0, x) := ⟨show (0 : Nat) < 8 by decide, fun e => absurd e (show ¬ (0 : Nat) = 1 by decide), fun e => absurd e (show ¬ (0 : Nat) = 5 by decide), fun e => absurd rfl e⟩
theorem gNv_p {m : Nat} (h : m < 10) : gNv (5, Int64.ofNat m) := ⟨show (5 : Nat) < 8 by decide, fun e => absurd e (show ¬ (5 : Nat) = 1 by decide), fun _ => ⟨m, h, rfl⟩, fun _ _ e => absurd rfl e⟩
theorem gNv_a {m : Nat} (h : m < 8) : gNv (1, Int64.ofNat m) := ⟨show (1 : Nat) < 8 by decide, fun _ => ⟨m, h, rfl⟩, fun e => absurd e (show ¬ (1 : Nat) = 5 by decide), fun _ e _ => absurd rfl e⟩
