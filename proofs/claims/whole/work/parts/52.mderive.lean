/-! the reference: derived, replaced, turned -/
theorem gdP_ok {a da b db : gLn} (h1 : gFo a 1) (h2 : gFo da 1) (h3 : gFo b 1) (h4 : gFo db 1) (v1 : gNvs a) (v2 : gNvs da) (v3 : gNvs b) (v4 : gNvs db) : gFo (gdP a da b db) 1 ∧ gNvs (gdP a da b db) := by
  have z : gNv (4, 0) := gNv_z (by omega) (by omega) (by omega)
  exact ⟨gFo_node (gFo_app _ _ 1 1 (gFo_node (gFo_app _ _ 1 1 h2 h3)) (gFo_node (gFo_app _ _ 1 1 h1 h4))), gNvs_cons (gNv_z (by omega) (by omega) (by omega)) (gNvs_app (gNvs_cons z (gNvs_app v2 v3)) (gNvs_cons z (gNvs_app v1 v4)))⟩
theorem gdW_ok {a da : gLn} {m : Nat} (hm : m < 10) (h1 : gFo a 1) (h2 : gFo da 1) (v1 : gNvs a) (v2 : gNvs da) : gFo (gdW a da (Int64.ofNat m)) 1 ∧ gNvs (gdW a da (Int64.ofNat m)) := by
  have z : gNv (4, 0) := gNv_z (by omega) (by omega) (by omega)
  unfold gdW
  split
  · exact ⟨gFo_node rfl, gNvs_cons (gNv_n _) gNvs_nil⟩
  · rename_i h
    have h0 : m ≠ 0 := fun e => h (by rw [e]; rfl)
    rw [gofN_sub hm h0]
    refine ⟨gFo_node (gFo_app _ _ 1 1 (gFo_node (gFo_app _ _ 1 1 (gFo_node rfl) (gFo_node h1))) h2), gNvs_cons z (gNvs_app (gNvs_cons z (gNvs_app (gNvs_cons (gNv_n _) gNvs_nil) (gNvs_cons (gNv_p (by omega)) v1))) v2)⟩
theorem gDv0_ok {n : Nat} {nm : Int} {K : Nat → Nat} {N : Nat → Int64} {Z : Nat → Nat} (hW : gWf n K N Z) : ∀ j, j < n → gFo (gDv0 n nm K N Z j) 1 ∧ gNvs (gDv0 n nm K N Z j) := by
  have key : ∀ k, ∀ j, n - k ≤ j → j < n → gFo (gDv0 n nm K N Z j) 1 ∧ gNvs (gDv0 n nm K N Z j) := by
    intro k
    induction k with
    | zero => intro j h1 h2; omega
    | succ k ih =>
      intro j h1 h2
      by_cases hj : n - k ≤ j
      · exact ih j hj h2
      · obtain ⟨hK, hZ1, hZ2, he0, he1, he2, he3, hc1, hc2, hc3, -⟩ := hW.2.2 j h2
        have q1 := fun g => ih (j + 1) (by omega) (hc1 g)
        have q2 := fun g => ih (gPt Z j 1) (by have := gPt_gt Z j 1; omega) (hc2 g)
        have q3 := fun g => ih (gPt Z j 2) (by have := gPt_gt Z j 2; omega) (hc3 g)
        have s1 := fun g => And.intro (gSt1_fo hW (j + 1) (hc1 g)) (gSt1_nv hW (hc1 g))
        have s2 := fun g => And.intro (gSt1_fo hW (gPt Z j 1) (hc2 g)) (gSt1_nv hW (hc2 g))
        have hpw := (hW.2.2 j h2).2.2.2.2.2.2.2.2.2.2.2.1
        rw [gDv0_is n nm K N Z j h2]
        unfold gdrF
        obtain hk | hk | hk | hk | hk | hk | hk | hk : K j = 0 ∨ K j = 1 ∨ K j = 2 ∨ K j = 3 ∨ K j = 4 ∨ K j = 5 ∨ K j = 6 ∨ K j = 7 := by omega
        all_goals rw [hk] at q1 q2 q3 s1 s2
        · simp only [hk]
          exact ⟨gFo_node rfl, gNvs_cons (gNv_n _) gNvs_nil⟩
        · simp only [hk]
          exact ⟨gFo_node rfl, gNvs_cons (gNv_n _) gNvs_nil⟩
        · obtain ⟨a1, a2⟩ := q1 (by decide)
          simp only [hk]
          exact ⟨gFo_node a1, gNvs_cons (gNv_z (by omega) (by omega) (by omega)) a2⟩
        · obtain ⟨a1, a2⟩ := q1 (by decide)
          obtain ⟨b1, b2⟩ := q2 (by decide)
          simp only [hk]
          exact ⟨gFo_node (gFo_app _ _ 1 1 a1 b1), gNvs_cons (gNv_z (by omega) (by omega) (by omega)) (gNvs_app a2 b2)⟩
        · obtain ⟨a1, a2⟩ := q1 (by decide)
          obtain ⟨b1, b2⟩ := q2 (by decide)
          obtain ⟨c1, c2⟩ := s1 (by decide)
          obtain ⟨d1, d2⟩ := s2 (by decide)
          simp only [hk]
          exact gdP_ok c1 a1 d1 b1 c2 a2 d2 b2
        · obtain ⟨a1, a2⟩ := q1 (by decide)
          obtain ⟨c1, c2⟩ := s1 (by decide)
          obtain ⟨m, hm, e⟩ := hpw hk
          simp only [hk, e]
          exact gdW_ok hm c1 a1 c2 a2
        · obtain ⟨b1, b2⟩ := q2 (by decide)
          obtain ⟨e1, e2⟩ := q3 (by decide)
          obtain ⟨c1, c2⟩ := s1 (by decide)
          simp only [hk]
          exact ⟨gFo_node (gFo_app _ _ 1 2 c1 (gFo_app _ _ 1 1 b1 e1)), gNvs_cons (gNv_z (by omega) (by omega) (by omega)) (gNvs_app c2 (gNvs_app b2 e2))⟩
        · obtain ⟨a1, a2⟩ := q1 (by decide)
          obtain ⟨c1, c2⟩ := s1 (by decide)
          simp only [hk]
          exact gdP_ok c1 a1 c1 a1 c2 a2 c2 a2
  exact fun j hj => key n j (by omega) hj
/-- the first k nodes, the name's replaced -/
noncomputable def gRl (K : Nat → Nat) (N : Nat → Int64) (nm : Int) (B : gLn) : Nat → gLn
  | 0 => []
  | k + 1 => gRl K N nm B k ++ (if K k = 1 ∧ N k = gi2l nm then B else [(K k, N k)])
theorem gRl_tree {n : Nat} {nm : Int} {B : gLn} {K : Nat → Nat} {N : Nat → Int64} {Z : Nat → Nat} (hW : gWf n K N Z) : ∀ j, j < n → gRl K N nm B (j + Z j) = gRl K N nm B j ++ gRp n nm B K N Z j := by
  have key : ∀ k, ∀ j, n - k ≤ j → j < n → gRl K N nm B (j + Z j) = gRl K N nm B j ++ gRp n nm B K N Z j := by
    intro k
    induction k with
    | zero => intro j h1 h2; omega
    | succ k ih =>
      intro j h1 h2
      by_cases hj : n - k ≤ j
      · exact ih j hj h2
      · obtain ⟨hK, hZ1, hZ2, he0, he1, he2, he3, hc1, hc2, hc3, -⟩ := hW.2.2 j h2
        have q1 := fun g => ih (j + 1) (by omega) (hc1 g)
        have q2 := fun g => ih (gPt Z j 1) (by have := gPt_gt Z j 1; omega) (hc2 g)
        have q3 := fun g => ih (gPt Z j 2) (by have := gPt_gt Z j 2; omega) (hc3 g)
        have hs : gRl K N nm B (j + 1) = gRl K N nm B j ++ (if K j = 1 ∧ N j = gi2l nm then B else [(K j, N j)]) := rfl
        rw [gRp_is n nm B K N Z j h2]
        unfold gRpF
        by_cases hx : K j = 1 ∧ N j = gi2l nm
        · have hp : gPar (K j) = 0 := by rw [hx.1]; rfl
          rw [if_pos hx] at hs ⊢
          rw [he0 hp, hs]
        · rw [if_neg hx] at hs ⊢
          have e0 : gPt Z j 0 = j + 1 := rfl
          have e1 : gPt Z j 1 = j + 1 + Z (j + 1) := rfl
          have e2 : gPt Z j 2 = gPt Z j 1 + Z (gPt Z j 1) := rfl
          unfold gVp
          rcases gPar3 hK with p | p | p | p
          · rw [p, he0 p, hs]
            simp
          · rw [p, he1 p, show j + (1 + Z (j + 1)) = j + 1 + Z (j + 1) by omega, q1 (by omega), hs]
            simp [e0]
          · rw [p, he2 p, show j + (1 + Z (j + 1) + Z (gPt Z j 1)) = gPt Z j 1 + Z (gPt Z j 1) by omega, q2 (by omega), e1, q1 (by omega), hs]
            simp [e0, e1]
          · rw [p, he3 p, show j + (1 + Z (j + 1) + Z (gPt Z j 1) + Z (gPt Z j 2)) = gPt Z j 2 + Z (gPt Z j 2) by omega, q3 (by omega), e2, q2 (by omega), e1, q1 (by omega), hs]
            simp [e0, e1, e2]
  exact fun j hj => key n j (by omega) hj
theorem gRp_ok {n : Nat} {nm : Int} {B : gLn} {K : Nat → Nat} {N : Nat → Int64} {Z : Nat → Nat} (hW : gWf n K N Z) (hB : gFo B 1) (vB : gNvs B) : ∀ j, j < n → gFo (gRp n nm B K N Z j) 1 ∧ gNvs (gRp n nm B K N Z j) := by
  have key : ∀ k, ∀ j, n - k ≤ j → j < n → gFo (gRp n nm B K N Z j) 1 ∧ gNvs (gRp n nm B K N Z j) := by
    intro k
    induction k with
    | zero => intro j h1 h2; omega
    | succ k ih =>
      intro j h1 h2
      by_cases hj : n - k ≤ j
      · exact ih j hj h2
      · have hci : gNv (K j, N j) := by
          obtain ⟨hK, -, -, -, -, -, -, -, -, -, h1, h5, h0⟩ := hW.2.2 j h2
          exact ⟨hK, h1, h5, h0⟩
        obtain ⟨hK, hZ1, hZ2, he0, he1, he2, he3, hc1, hc2, hc3, -⟩ := hW.2.2 j h2
        have q1 := fun g => ih (j + 1) (by omega) (hc1 g)
        have q2 := fun g => ih (gPt Z j 1) (by have := gPt_gt Z j 1; omega) (hc2 g)
        have q3 := fun g => ih (gPt Z j 2) (by have := gPt_gt Z j 2; omega) (hc3 g)
        rw [gRp_is n nm B K N Z j h2]
        unfold gRpF
        split
        · exact ⟨hB, vB⟩
        · have e0 : gPt Z j 0 = j + 1 := rfl
          unfold gVp
          rcases gPar3 hK with p | p | p | p
          · rw [p]
            refine ⟨gFo_node (by rw [p]; rfl), gNvs_cons hci (by simp; exact gNvs_nil)⟩
          · obtain ⟨a1, a2⟩ := q1 (by omega)
            rw [p]
            refine ⟨gFo_node (by rw [p]; simpa [e0] using a1), gNvs_cons hci (by simpa [e0] using a2)⟩
          · obtain ⟨a1, a2⟩ := q1 (by omega)
            obtain ⟨b1, b2⟩ := q2 (by omega)
            rw [p]
            refine ⟨gFo_node (by rw [p]; simpa [e0] using gFo_app _ _ 1 1 a1 b1), gNvs_cons hci (by simpa [e0] using gNvs_app a2 b2)⟩
          · obtain ⟨a1, a2⟩ := q1 (by omega)
            obtain ⟨b1, b2⟩ := q2 (by omega)
            obtain ⟨c1, c2⟩ := q3 (by omega)
            rw [p]
            refine ⟨gFo_node (by rw [p]; simpa [e0] using gFo_app _ _ 1 2 a1 (gFo_app _ _ 1 1 b1 c1)), gNvs_cons hci (by simpa [e0] using gNvs_app a2 (gNvs_app b2 c2))⟩
  exact fun j hj => key n j (by omega) hj
theorem gMx_ext {I : Nat → Nat → Int} {J : Nat → Nat → Int64} {B T : gLn} (h : gMx I J B) (h2 : 200 < B.length) : gMx I J (B ++ T) := by
  rcases h with h | ⟨h1, h3⟩
  · exact absurd h.2.1 (by omega)
  · exact Or.inr ⟨by simp only [List.length_append]; omega, h3⟩
/-- what deriving a tree does -/
def gMdo (l : Launch) (Γ : gC) (ad : Nat → Nat) (mt : gY) (d : Nat) (av : List Value) (f n : Nat) (K : Nat → Nat) (N : Nat → Int64) (Z : Nat → Nat) (T : gLn) : Prop := ∀ (I : Nat → Nat → Int) (J : Nat → Nat → Int64) (B : gLn), gMt I J f n K N Z → gMx I J B → gKv l Γ mt d av (gSS ad, I, J) (fun μ => ∃ I1 J1, μ = (gSS ad, I1, J1) ∧ gMx I1 J1 (B ++ T) ∧ (∀ p, p ≠ 145 → p ≠ 187 → I1 p = I p) ∧ (∀ q, q ≠ 5 → q ≠ 6 → I1 145 q = I 145 q) ∧ (∀ p, p ≠ 188 → J1 p = J p))
