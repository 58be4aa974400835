/-! degrees -/
def gHn (K : Nat → Nat) (N : Nat → Int64) (Z : Nat → Nat) (nm j : Nat) : Prop := ∃ t, j ≤ t ∧ t < j + Z j ∧ K t = 1 ∧ N t = gi2l (nm : Int)
theorem gPar3 {k : Nat} (h : k < 8) : gPar k = 0 ∨ gPar k = 1 ∨ gPar k = 2 ∨ gPar k = 3 := by
  have : ∀ k, k < 8 → gPar k = 0 ∨ gPar k = 1 ∨ gPar k = 2 ∨ gPar k = 3 := by decide
  exact this k h
theorem gHn_rec {n : Nat} {K : Nat → Nat} {N : Nat → Int64} {Z : Nat → Nat} (hW : gWf n K N Z) {nm j : Nat} (hj : j < n) : gHn K N Z nm j ↔ (K j = 1 ∧ N j = gi2l (nm : Int)) ∨ (1 ≤ gPar (K j) ∧ gHn K N Z nm (j + 1)) ∨ (2 ≤ gPar (K j) ∧ gHn K N Z nm (gPt Z j 1)) ∨ (3 ≤ gPar (K j) ∧ gHn K N Z nm (gPt Z j 2)) := by
  obtain ⟨hK, hZ1, hZ2, he0, he1, he2, he3, hc1, hc2, hc3, -⟩ := hW.2.2 j hj
  have hp := gPar3 hK
  constructor
  · rintro ⟨t, h1, h2, h3, h4⟩
    by_cases htj : t = j
    · subst htj
      exact Or.inl ⟨h3, h4⟩
    · refine Or.inr ?_
      rcases hp with h | h | h | h
      · have := he0 h
        omega
      · have := he1 h
        exact Or.inl ⟨by omega, t, by omega, by omega, h3, h4⟩
      · have := he2 h
        by_cases hb : t < gPt Z j 1
        · exact Or.inl ⟨by omega, t, by omega, by simp only [gPt] at hb; omega, h3, h4⟩
        · exact Or.inr (Or.inl ⟨by omega, t, by omega, by simp only [gPt] at hb this ⊢; omega, h3, h4⟩)
      · have := he3 h
        by_cases hb : t < gPt Z j 1
        · exact Or.inl ⟨by omega, t, by omega, by simp only [gPt] at hb; omega, h3, h4⟩
        · by_cases hd : t < gPt Z j 2
          · exact Or.inr (Or.inl ⟨by omega, t, by omega, by simp only [gPt] at hb hd this ⊢; omega, h3, h4⟩)
          · exact Or.inr (Or.inr ⟨by omega, t, by omega, by simp only [gPt] at hb hd this ⊢; omega, h3, h4⟩)
  · rintro (⟨h3, h4⟩ | ⟨h, t, h1, h2, h3, h4⟩ | ⟨h, t, h1, h2, h3, h4⟩ | ⟨h, t, h1, h2, h3, h4⟩)
    · exact ⟨j, Nat.le_refl _, by omega, h3, h4⟩
    · refine ⟨t, by omega, ?_, h3, h4⟩
      rcases hp with g | g | g | g
      · omega
      · have := he1 g
        omega
      · have := he2 g
        omega
      · have := he3 g
        omega
    · refine ⟨t, by simp only [gPt] at h1; omega, ?_, h3, h4⟩
      rcases hp with g | g | g | g
      · omega
      · omega
      · have := he2 g
        simp only [gPt] at h2 this
        omega
      · have := he3 g
        simp only [gPt] at h2 this
        omega
    · refine ⟨t, by simp only [gPt] at h1; omega, ?_, h3, h4⟩
      rcases hp with g | g | g | g
      · omega
      · omega
      · omega
      · have := he3 g
        simp only [gPt] at h2 this
        omega
/-- the degree of node j, by those of the nodes behind it -/
noncomputable def gGF (nm : Nat) (K : Nat → Nat) (N : Nat → Int64) (Z : Nat → Nat) (G : Nat → Int) (j : Nat) : Int :=
  if K j = 0 then 0 else if K j = 1 then (if N j = gi2l (nm : Int) then 1 else 0) else if K j = 6 then @ite Int (G (gPt Z j 1) = -1 ∨ G (gPt Z j 2) = -1 ∨ gHn K N Z nm (j + 1)) (Classical.propDecidable _) (-1) (min 9999 (max (G (gPt Z j 1)) (G (gPt Z j 2))))
  else if G (j + 1) = -1 ∨ (2 ≤ gPar (K j) ∧ G (gPt Z j 1) = -1) then -1
  else min 9999 (if K j = 3 then max (G (j + 1)) (G (gPt Z j 1)) else if K j = 4 then G (j + 1) + G (gPt Z j 1) else if K j = 5 then G (j + 1) * gl2i (N j) else if K j = 7 then 2 * G (j + 1) else G (j + 1))
theorem gGF_loc {nm : Nat} {K : Nat → Nat} {N : Nat → Int64} {Z : Nat → Nat} {G G' : Nat → Int} {j : Nat} (h : ∀ t, j < t → G t = G' t) : gGF nm K N Z G j = gGF nm K N Z G' j := by
  unfold gGF
  rw [h (j + 1) (by omega), h _ (gPt_gt Z j 1), h _ (gPt_gt Z j 2)]
theorem gG_ex (n nm : Nat) (K : Nat → Nat) (N : Nat → Int64) (Z : Nat → Nat) : ∃ G : Nat → Int, ∀ j, j < n → G j = gGF nm K N Z G j := gfix_ex 0 n (gGF nm K N Z) (fun _ _ _ h => gGF_loc h)
noncomputable def gGc (n nm : Nat) (K : Nat → Nat) (N : Nat → Int64) (Z : Nat → Nat) : Nat → Int := Classical.choose (gG_ex n nm K N Z)
theorem gGc_is (n nm : Nat) (K : Nat → Nat) (N : Nat → Int64) (Z : Nat → Nat) : ∀ j, j < n → gGc n nm K N Z j = gGF nm K N Z (gGc n nm K N Z) j := Classical.choose_spec (gG_ex n nm K N Z)
theorem gmul_rng {a x : Int} (ha : 0 ≤ a ∧ a ≤ 9999) (hx : 0 ≤ x ∧ x ≤ 9) : 0 ≤ a * x ∧ a * x ≤ 89991 := by
  refine ⟨Int.mul_nonneg ha.1 hx.1, ?_⟩
  have := Int.mul_le_mul ha.2 hx.2 hx.1 (by omega : (0 : Int) ≤ 9999)
  omega
theorem gdig {n : Nat} {K : Nat → Nat} {N : Nat → Int64} {Z : Nat → Nat} (hW : gWf n K N Z) {j : Nat} (hj : j < n) (h : K j = 5) : 0 ≤ gl2i (N j) ∧ gl2i (N j) ≤ 9 := by
  obtain ⟨m, hm, e⟩ := (hW.2.2 j hj).2.2.2.2.2.2.2.2.2.2.2.1 h
  rw [e, gl2i_nat (by omega)]
  omega
theorem gG_rng {n nm : Nat} {K : Nat → Nat} {N : Nat → Int64} {Z : Nat → Nat} (hW : gWf n K N Z) : ∀ j, j < n → -1 ≤ gGc n nm K N Z j ∧ gGc n nm K N Z j ≤ 9999 := by
  have key : ∀ k, ∀ j, n - k ≤ j → j < n → -1 ≤ gGc n nm K N Z j ∧ gGc n nm K N Z j ≤ 9999 := by
    intro k
    induction k with
    | zero => intro j h1 h2; omega
    | succ k ih =>
      intro j h1 h2
      by_cases hj : n - k ≤ j
      · exact ih j hj h2
      · rw [gGc_is n nm K N Z j h2]
        have h5 := gdig hW h2
        obtain ⟨hK, hZ1, hZ2, he0, he1, he2, he3, hc1, hc2, hc3, -⟩ := hW.2.2 j h2
        have q1 : 1 ≤ gPar (K j) → -1 ≤ gGc n nm K N Z (j + 1) ∧ gGc n nm K N Z (j + 1) ≤ 9999 := fun g => ih _ (by omega) (hc1 g)
        have q2 : 2 ≤ gPar (K j) → -1 ≤ gGc n nm K N Z (gPt Z j 1) ∧ gGc n nm K N Z (gPt Z j 1) ≤ 9999 := fun g => ih _ (by have := gPt_gt Z j 1; omega) (hc2 g)
        have q3 : 3 ≤ gPar (K j) → -1 ≤ gGc n nm K N Z (gPt Z j 2) ∧ gGc n nm K N Z (gPt Z j 2) ≤ 9999 := fun g => ih _ (by have := gPt_gt Z j 2; omega) (hc3 g)
        clear ih hc1 hc2 hc3 he0 he1 he2 he3 hW
        unfold gGF
        generalize gGc n nm K N Z (j + 1) = a at *
        generalize gGc n nm K N Z (gPt Z j 1) = b at *
        generalize gGc n nm K N Z (gPt Z j 2) = c at *
        generalize gl2i (N j) = x at *
        generalize gHn K N Z nm (j + 1) = H at *
        obtain hk | hk | hk | hk | hk | hk | hk | hk : K j = 0 ∨ K j = 1 ∨ K j = 2 ∨ K j = 3 ∨ K j = 4 ∨ K j = 5 ∨ K j = 6 ∨ K j = 7 := by omega
        · rw [hk]; simp
        · rw [hk]; simp; split <;> omega
        all_goals rw [hk] at q1 q2 q3 ⊢
        all_goals simp [gPar] at q1 q2 q3
        · simp [gPar]; split <;> omega
        · simp [gPar]; split <;> omega
        · simp [gPar]; split <;> omega
        · simp [gPar]
          split
          · omega
          · have := gmul_rng (a := a) (x := x) (by omega) (h5 hk)
            omega
        · simp only [if_neg (show ¬ (6 : Nat) = 0 by decide), if_neg (show ¬ (6 : Nat) = 1 by decide), if_pos (show (6 : Nat) = 6 by decide)]
          split <;> omega
        · simp [gPar]; split <;> omega
  exact fun j hj => key n j (by omega) hj
theorem gG_H {n nm : Nat} {K : Nat → Nat} {N : Nat → Int64} {Z : Nat → Nat} (hW : gWf n K N Z) : ∀ j, j < n → gGc n nm K N Z j = -1 → gHn K N Z nm j := by
  have key : ∀ k, ∀ j, n - k ≤ j → j < n → gGc n nm K N Z j = -1 → gHn K N Z nm j := by
    intro k
    induction k with
    | zero => intro j h1 h2; omega
    | succ k ih =>
      intro j h1 h2 hg
      by_cases hj : n - k ≤ j
      · exact ih j hj h2 hg
      · rw [gGc_is n nm K N Z j h2] at hg
        rw [gHn_rec hW h2]
        have h5 := gdig hW h2
        obtain ⟨hK, hZ1, hZ2, he0, he1, he2, he3, hc1, hc2, hc3, -⟩ := hW.2.2 j h2
        have q1 : 1 ≤ gPar (K j) → gGc n nm K N Z (j + 1) = -1 → gHn K N Z nm (j + 1) := fun g => ih _ (by omega) (hc1 g)
        have q2 : 2 ≤ gPar (K j) → gGc n nm K N Z (gPt Z j 1) = -1 → gHn K N Z nm (gPt Z j 1) := fun g => ih _ (by have := gPt_gt Z j 1; omega) (hc2 g)
        have q3 : 3 ≤ gPar (K j) → gGc n nm K N Z (gPt Z j 2) = -1 → gHn K N Z nm (gPt Z j 2) := fun g => ih _ (by have := gPt_gt Z j 2; omega) (hc3 g)
        have r1 : 1 ≤ gPar (K j) → -1 ≤ gGc n nm K N Z (j + 1) ∧ gGc n nm K N Z (j + 1) ≤ 9999 := fun g => gG_rng hW _ (hc1 g)
        have r2 : 2 ≤ gPar (K j) → -1 ≤ gGc n nm K N Z (gPt Z j 1) ∧ gGc n nm K N Z (gPt Z j 1) ≤ 9999 := fun g => gG_rng hW _ (hc2 g)
        have r3 : 3 ≤ gPar (K j) → -1 ≤ gGc n nm K N Z (gPt Z j 2) ∧ gGc n nm K N Z (gPt Z j 2) ≤ 9999 := fun g => gG_rng hW _ (hc3 g)
        clear ih hc1 hc2 hc3 he0 he1 he2 he3 hW
        refine Or.inr ?_
        unfold gGF at hg
        generalize gGc n nm K N Z (j + 1) = a at *
        generalize gGc n nm K N Z (gPt Z j 1) = b at *
        generalize gGc n nm K N Z (gPt Z j 2) = c at *
        generalize gl2i (N j) = x at *
        generalize gHn K N Z nm (j + 1) = H1 at *
        generalize gHn K N Z nm (gPt Z j 1) = H2 at *
        generalize gHn K N Z nm (gPt Z j 2) = H3 at *
        obtain hk | hk | hk | hk | hk | hk | hk | hk : K j = 0 ∨ K j = 1 ∨ K j = 2 ∨ K j = 3 ∨ K j = 4 ∨ K j = 5 ∨ K j = 6 ∨ K j = 7 := by omega
        · rw [hk] at hg; simp at hg
        · rw [hk] at hg; simp at hg; split at hg <;> omega
        all_goals rw [hk] at q1 q2 q3 r1 r2 r3 hg ⊢
        all_goals simp [gPar] at q1 q2 q3 r1 r2 r3
        all_goals simp only [show gPar 2 = 1 from rfl, show gPar 3 = 2 from rfl, show gPar 4 = 2 from rfl, show gPar 5 = 1 from rfl, show gPar 6 = 3 from rfl, show gPar 7 = 1 from rfl] at hg ⊢
        · simp at hg
          by_cases ha : a = -1
          · exact Or.inl ⟨by omega, q1 ha⟩
          · have := hg ha
            omega
        · simp at hg
          by_cases ha : a = -1
          · exact Or.inl ⟨by omega, q1 ha⟩
          · by_cases hb : b = -1
            · exact Or.inr (Or.inl ⟨by omega, q2 hb⟩)
            · have := hg ha hb
              omega
        · simp at hg
          by_cases ha : a = -1
          · exact Or.inl ⟨by omega, q1 ha⟩
          · by_cases hb : b = -1
            · exact Or.inr (Or.inl ⟨by omega, q2 hb⟩)
            · have := hg ha hb
              omega
        · simp at hg
          by_cases ha : a = -1
          · exact Or.inl ⟨by omega, q1 ha⟩
          · have h9 := hg ha
            have := gmul_rng (a := a) (x := x) (by omega) (h5 hk)
            omega
        · simp only [if_neg (show ¬ (6 : Nat) = 0 by decide), if_neg (show ¬ (6 : Nat) = 1 by decide), if_pos (show (6 : Nat) = 6 by decide)] at hg
          by_cases hcc : b = -1 ∨ c = -1 ∨ H1
          · rcases hcc with h | h | h
            · exact Or.inr (Or.inl ⟨by omega, q2 h⟩)
            · exact Or.inr (Or.inr ⟨by omega, q3 h⟩)
            · exact Or.inl ⟨by omega, h⟩
          · rw [if_neg hcc] at hg
            have hb : b ≠ -1 := fun h => hcc (Or.inl h)
            have hc : c ≠ -1 := fun h => hcc (Or.inr (Or.inl h))
            have hm : min 9999 (max b c) = -1 := hg
            clear hg
            omega
        · simp at hg
          by_cases ha : a = -1
          · exact Or.inl ⟨by omega, q1 ha⟩
          · have := hg ha
            omega
  exact fun j hj => key n j (by omega) hj
/-- a part without a degree -/
def gNn (K : Nat → Nat) (Z : Nat → Nat) (G : Nat → Int) (j : Nat) : Prop := (1 ≤ gPar (K j) ∧ G (j + 1) = -1) ∨ (2 ≤ gPar (K j) ∧ G (gPt Z j 1) = -1) ∨ (3 ≤ gPar (K j) ∧ G (gPt Z j 2) = -1)
theorem gGF_no {n nm : Nat} {K : Nat → Nat} {N : Nat → Int64} {Z : Nat → Nat} (hW : gWf n K N Z) {j : Nat} (hj : j < n) (h : gNn K Z (gGc n nm K N Z) j) : gGF nm K N Z (gGc n nm K N Z) j = -1 := by
  obtain ⟨hK, hZ1, hZ2, he0, he1, he2, he3, hc1, hc2, hc3, -⟩ := hW.2.2 j hj
  have hH := gG_H (nm := nm) hW (j + 1)
  unfold gNn at h
  unfold gGF
  obtain hk | hk | hk | hk | hk | hk | hk | hk : K j = 0 ∨ K j = 1 ∨ K j = 2 ∨ K j = 3 ∨ K j = 4 ∨ K j = 5 ∨ K j = 6 ∨ K j = 7 := by omega
  all_goals rw [hk] at h hc1 ⊢
  all_goals simp only [show gPar 0 = 0 from rfl, show gPar 1 = 0 from rfl, show gPar 2 = 1 from rfl, show gPar 3 = 2 from rfl, show gPar 4 = 2 from rfl, show gPar 5 = 1 from rfl, show gPar 6 = 3 from rfl, show gPar 7 = 1 from rfl] at h hc1 ⊢
  · omega
  · omega
  · rw [if_neg (by decide), if_neg (by decide), if_neg (by decide), if_pos (by omega)]
  · rw [if_neg (by decide), if_neg (by decide), if_neg (by decide), if_pos (by omega)]
  · rw [if_neg (by decide), if_neg (by decide), if_neg (by decide), if_pos (by omega)]
  · rw [if_neg (by decide), if_neg (by decide), if_neg (by decide), if_pos (by omega)]
  · rw [if_neg (by decide), if_neg (by decide), if_pos trivial, if_pos]
    rcases h with h | h | h
    · exact Or.inr (Or.inr (hH (hc1 (by omega)) h.2))
    · exact Or.inl h.2
    · exact Or.inr (Or.inl h.2)
  · rw [if_neg (by decide), if_neg (by decide), if_neg (by decide), if_pos (by omega)]
set_option maxRecDepth 10000 in
theorem c_X2_namedAt {l : Launch} {Γ : gC} {ad : Nat → Nat} {I : Nat → Nat → Int} {J : Nat → Nat → Int64} {d : Nat} {k : Nat} {P : Prop} (hk : k < 200) (hN : (I 40 k = 1 ∧ P) ∨ (I 40 k = 0 ∧ ¬ P)) : gKi l Γ gm_X2_namedAt d [.ref (gad (gSS ad) 38), .int (iv (k : Int))] (gSS ad, I, J) (fun e μ => μ = (gSS ad, I, J) ∧ ((e = 1 ∧ P) ∨ (e = 0 ∧ ¬ P))) := by
  refine gKi_of gk_X2_namedAt.1 (Nat.le_of_ble_eq_true rfl) ?_
  show gG l Γ gm_X2_namedAt (d, 0, 0, 0, 0) 0 [(0, .ref (gad (gSS ad) 38)), (1, .int (iv (k : Int)))] [] _ _
  refine gg_iload_n dX2_namedAt_0 1 rfl ?_
  refine gg_if_lt_f (tgt := 24) dX2_namedAt_1 (by decide) (by omega) (by omega) ?_
  refine gg_iload_n dX2_namedAt_4 1 rfl ?_
  refine gg_sipush dX2_namedAt_5 (by decide) ?_
  refine gg_icmp_ge_f (tgt := 24) dX2_namedAt_8 (by decide) (by omega) (by omega) ?_
  refine gg_aload_n dX2_namedAt_11 0 rfl ?_
  refine gg_getR (k' := 40) rfl gf_RX2_15 dX2_namedAt_12 sh_38 pl_38 (by decide) (by decide) rr_38_1 ?_
  refine gg_iload_n dX2_namedAt_15 1 rfl ?_
  refine gg_zaldj k dX2_namedAt_16 sh_40 pl_40 (by decide) rfl (by omega) ?_
  refine gg_if_eq (tgt := 24) dX2_namedAt_17 (by decide) (by rcases hN with h | h <;> (have := h.1; omega)) (fun hb => ?_) (fun hb => ?_)
  · refine gg_iconst dX2_namedAt_24 ?_
    refine gg_iretz dX2_namedAt_25 rfl (by decide) ⟨rfl, rfl⟩ ?_
    refine ⟨rfl, ?_⟩
    rcases hN with h | h
    · exact absurd h.1 (by omega)
    · exact Or.inr ⟨rfl, h.2⟩
  · refine gg_iconst dX2_namedAt_20 ?_
    refine gg_goto (tgt := 25) dX2_namedAt_21 (by decide) ?_
    refine gg_iretz dX2_namedAt_25 rfl (by decide) ⟨rfl, rfl⟩ ?_
    refine ⟨rfl, ?_⟩
    rcases hN with h | h
    · exact Or.inl ⟨rfl, h.2⟩
    · exact absurd h.1 hb

set_option maxRecDepth 10000 in
theorem c_X2_hasName {l : Launch} {Γ : gC} {ad : Nat → Nat} {I : Nat → Nat → Int} {J : Nat → Nat → Int64} {d : Nat} {a n : Nat} {K : Nat → Nat} {N : Nat → Int64} {Z : Nat → Nat} (hF : gF a) (hA : gAt I J a n K N Z) (hW : gWf n K N Z) {nm j : Nat} (hj : j < n) (hN : ∀ t, j < t → t < n → (I 40 t = 1 ∧ gHn K N Z nm t) ∨ (I 40 t = 0 ∧ ¬ gHn K N Z nm t)) (hd : 3 ≤ d) : gKi l Γ gm_X2_hasName d [.ref (gad (gSS ad) 38), .ref (gad (gSS ad) a), .int (iv (j : Int)), .int (iv (nm : Int))] (gSS ad, I, J) (fun e μ => μ = (gSS ad, I, J) ∧ ((e = 1 ∧ gHn K N Z nm j) ∨ (e = 0 ∧ ¬ gHn K N Z nm j))) := by
  refine gKi_of gk_X2_hasName.1 (Nat.le_of_ble_eq_true rfl) ?_
  show gG l Γ gm_X2_hasName (d, 0, 0, 0, 0) 0 [(0, .ref (gad (gSS ad) 38)), (1, .ref (gad (gSS ad) a)), (2, .int (iv (j : Int))), (3, .int (iv (nm : Int)))] [] _ _
  obtain ⟨hK, hZ1, hZ2, he0, he1, he2, he3, hc1, hc2, hc3, hnm, hpw, hz⟩ := hW.2.2 j hj
  have hn := hW.1
  clear hnm hpw hz
  refine gg_aload_n dX2_hasName_0 1 rfl ?_
  refine gg_iload_n dX2_hasName_1 2 rfl ?_
  refine gg_callVi (own := RX2) (yt := gm_X1_kind) rfl gl_RX2_41 gk_X1_kind gr_X1_kind dX2_hasName_2 (c_X1_kind (d := d - 1) hF hA hW.1 (j := j) (by omega) (by omega)) (gFsh hF) (gFlt hF) (by decide) rfl rfl rfl (Nat.le_of_ble_eq_true rfl) (by show _ ≤ d; omega) ⟨Nat.le_refl _, Nat.le_refl _⟩ (fun e1 μ' hc => ?_)
  obtain ⟨rfl, rfl⟩ := hc
  obtain hk | hk | hk | hk | hk | hk | hk | hk := (by omega : K j = 0 ∨ K j = 1 ∨ K j = 2 ∨ K j = 3 ∨ K j = 4 ∨ K j = 5 ∨ K j = 6 ∨ K j = 7)
  · refine gg_toI (b := 0) (by omega) ?_
    refine gg_iconst dX2_hasName_5 ?_
    refine gg_icmp_ne_t (tgt := 24) dX2_hasName_6 (by decide) (by decide) (by decide) ?_
    refine gg_iconst dX2_hasName_24 ?_
    refine gg_istore (ls' := [(4, .int (iv 0)), (0, .ref (gad (gSS ad) 38)), (1, .ref (gad (gSS ad) a)), (2, .int (iv (j : Int))), (3, .int (iv (nm : Int)))]) dX2_hasName_25 (by decide) rfl ?_
    refine gg_iconst dX2_hasName_27 ?_
    refine gg_istore (ls' := [(5, .int (iv 0)), (4, .int (iv 0)), (0, .ref (gad (gSS ad) 38)), (1, .ref (gad (gSS ad) a)), (2, .int (iv (j : Int))), (3, .int (iv (nm : Int)))]) dX2_hasName_28 (by decide) rfl ?_
    refine gg_iload dX2_hasName_30 0 rfl ?_
    refine gg_aload_n dX2_hasName_32 3 rfl ?_
    refine gg_iload_n dX2_hasName_33 4 rfl ?_
    refine gg_callVi (own := RX2) (yt := gm_X1_parts) rfl gl_RX2_59 gk_X1_parts gr_X1_parts dX2_hasName_34 (c_X1_parts (d := d - 1) hF hA hW.1 (j := j) (by omega) (by omega) hK) (gFsh hF) (gFlt hF) (by decide) rfl rfl rfl (Nat.le_of_ble_eq_true rfl) (by show _ ≤ d; omega) ⟨Nat.le_refl _, Nat.le_refl _⟩ (fun e2 μ' hc => ?_)
    obtain ⟨rfl, rfl⟩ := hc
    refine gg_toI (b := 0) (by rw [hk]; rfl) ?_
    refine gg_icmp_ge_t (tgt := 72) dX2_hasName_37 (by decide) (by decide) (by decide) ?_
    refine gg_iload dX2_hasName_72 1 rfl ?_
    refine gg_iretz dX2_hasName_74 rfl (by decide) ⟨rfl, rfl⟩ ?_
    refine ⟨rfl, Or.inr ⟨rfl, ?_⟩⟩
    rw [gHn_rec hW hj, hk]
    simp only [show gPar 0 = 0 from rfl]
    first | simp [hn1, hn2, hn3] | simp [hn1, hn2] | simp [hn1] | simp [hne] | simp
  · refine gg_toI (b := 1) (by omega) ?_
    refine gg_iconst dX2_hasName_5 ?_
    refine gg_icmp_ne_f (tgt := 24) dX2_hasName_6 (by decide) (by decide) (by decide) ?_
    refine gg_aload_n dX2_hasName_9 1 rfl ?_
    refine gg_iload_n dX2_hasName_10 2 rfl ?_
    refine gg_callVl (own := RX2) (yt := gm_X1_number) rfl gl_RX2_45 gk_X1_number gr_X1_number dX2_hasName_11 (c_X1_number (d := d - 1) hF hA hW.1 (j := j) (by omega) (by omega)) (gFsh hF) (gFlt hF) (by decide) rfl rfl rfl (Nat.le_of_ble_eq_true rfl) (by show _ ≤ d; omega) ⟨Nat.le_refl _, Nat.le_refl _⟩ (fun e3 μ' hc => ?_)
    obtain ⟨rfl, rfl⟩ := hc
    refine gg_iload_n dX2_hasName_14 3 rfl ?_
    refine gg_i2l dX2_hasName_15 ?_
    refine gg_lcmp_ne (tgt := 24) dX2_hasName_16 dX2_hasName_17 (by decide) (fun hne => ?_) (fun hne => ?_)
    · refine gg_iconst dX2_hasName_24 ?_
      refine gg_istore (ls' := [(4, .int (iv 0)), (0, .ref (gad (gSS ad) 38)), (1, .ref (gad (gSS ad) a)), (2, .int (iv (j : Int))), (3, .int (iv (nm : Int)))]) dX2_hasName_25 (by decide) rfl ?_
      refine gg_iconst dX2_hasName_27 ?_
      refine gg_istore (ls' := [(5, .int (iv 0)), (4, .int (iv 0)), (0, .ref (gad (gSS ad) 38)), (1, .ref (gad (gSS ad) a)), (2, .int (iv (j : Int))), (3, .int (iv (nm : Int)))]) dX2_hasName_28 (by decide) rfl ?_
      refine gg_iload dX2_hasName_30 0 rfl ?_
      refine gg_aload_n dX2_hasName_32 3 rfl ?_
      refine gg_iload_n dX2_hasName_33 4 rfl ?_
      refine gg_callVi (own := RX2) (yt := gm_X1_parts) rfl gl_RX2_59 gk_X1_parts gr_X1_parts dX2_hasName_34 (c_X1_parts (d := d - 1) hF hA hW.1 (j := j) (by omega) (by omega) hK) (gFsh hF) (gFlt hF) (by decide) rfl rfl rfl (Nat.le_of_ble_eq_true rfl) (by show _ ≤ d; omega) ⟨Nat.le_refl _, Nat.le_refl _⟩ (fun e4 μ' hc => ?_)
      obtain ⟨rfl, rfl⟩ := hc
      refine gg_toI (b := 0) (by rw [hk]; rfl) ?_
      refine gg_icmp_ge_t (tgt := 72) dX2_hasName_37 (by decide) (by decide) (by decide) ?_
      refine gg_iload dX2_hasName_72 1 rfl ?_
      refine gg_iretz dX2_hasName_74 rfl (by decide) ⟨rfl, rfl⟩ ?_
      refine ⟨rfl, Or.inr ⟨rfl, ?_⟩⟩
      rw [gHn_rec hW hj, hk]
      simp only [show gPar 1 = 0 from rfl]
      first | simp [hn1, hn2, hn3] | simp [hn1, hn2] | simp [hn1] | simp [hne] | simp
    · refine gg_iconst dX2_hasName_20 ?_
      refine gg_goto (tgt := 25) dX2_hasName_21 (by decide) ?_
      refine gg_istore (ls' := [(4, .int (iv 1)), (0, .ref (gad (gSS ad) 38)), (1, .ref (gad (gSS ad) a)), (2, .int (iv (j : Int))), (3, .int (iv (nm : Int)))]) dX2_hasName_25 (by decide) rfl ?_
      refine gg_iconst dX2_hasName_27 ?_
      refine gg_istore (ls' := [(5, .int (iv 0)), (4, .int (iv 1)), (0, .ref (gad (gSS ad) 38)), (1, .ref (gad (gSS ad) a)), (2, .int (iv (j : Int))), (3, .int (iv (nm : Int)))]) dX2_hasName_28 (by decide) rfl ?_
      refine gg_iload dX2_hasName_30 0 rfl ?_
      refine gg_aload_n dX2_hasName_32 3 rfl ?_
      refine gg_iload_n dX2_hasName_33 4 rfl ?_
      refine gg_callVi (own := RX2) (yt := gm_X1_parts) rfl gl_RX2_59 gk_X1_parts gr_X1_parts dX2_hasName_34 (c_X1_parts (d := d - 1) hF hA hW.1 (j := j) (by omega) (by omega) hK) (gFsh hF) (gFlt hF) (by decide) rfl rfl rfl (Nat.le_of_ble_eq_true rfl) (by show _ ≤ d; omega) ⟨Nat.le_refl _, Nat.le_refl _⟩ (fun e5 μ' hc => ?_)
      obtain ⟨rfl, rfl⟩ := hc
      refine gg_toI (b := 0) (by rw [hk]; rfl) ?_
      refine gg_icmp_ge_t (tgt := 72) dX2_hasName_37 (by decide) (by decide) (by decide) ?_
      refine gg_iload dX2_hasName_72 1 rfl ?_
      refine gg_iretz dX2_hasName_74 rfl (by decide) ⟨rfl, rfl⟩ ?_
      refine ⟨rfl, Or.inl ⟨rfl, ?_⟩⟩
      rw [gHn_rec hW hj, hk]
      simp only [show gPar 1 = 0 from rfl]
      first | simp [hn1, hn2, hn3] | simp [hn1, hn2] | simp [hn1] | simp [hne] | simp
  · refine gg_toI (b := 2) (by omega) ?_
    refine gg_iconst dX2_hasName_5 ?_
    refine gg_icmp_ne_t (tgt := 24) dX2_hasName_6 (by decide) (by decide) (by decide) ?_
    refine gg_iconst dX2_hasName_24 ?_
    refine gg_istore (ls' := [(4, .int (iv 0)), (0, .ref (gad (gSS ad) 38)), (1, .ref (gad (gSS ad) a)), (2, .int (iv (j : Int))), (3, .int (iv (nm : Int)))]) dX2_hasName_25 (by decide) rfl ?_
    refine gg_iconst dX2_hasName_27 ?_
    refine gg_istore (ls' := [(5, .int (iv 0)), (4, .int (iv 0)), (0, .ref (gad (gSS ad) 38)), (1, .ref (gad (gSS ad) a)), (2, .int (iv (j : Int))), (3, .int (iv (nm : Int)))]) dX2_hasName_28 (by decide) rfl ?_
    refine gg_iload dX2_hasName_30 0 rfl ?_
    refine gg_aload_n dX2_hasName_32 3 rfl ?_
    refine gg_iload_n dX2_hasName_33 4 rfl ?_
    refine gg_callVi (own := RX2) (yt := gm_X1_parts) rfl gl_RX2_59 gk_X1_parts gr_X1_parts dX2_hasName_34 (c_X1_parts (d := d - 1) hF hA hW.1 (j := j) (by omega) (by omega) hK) (gFsh hF) (gFlt hF) (by decide) rfl rfl rfl (Nat.le_of_ble_eq_true rfl) (by show _ ≤ d; omega) ⟨Nat.le_refl _, Nat.le_refl _⟩ (fun e6 μ' hc => ?_)
    obtain ⟨rfl, rfl⟩ := hc
    refine gg_toI (b := 1) (by rw [hk]; rfl) ?_
    refine gg_icmp_ge_f (tgt := 72) dX2_hasName_37 (by decide) (by decide) (by decide) ?_
    refine gg_iload dX2_hasName_40 1 rfl ?_
    refine gg_if_ne_f (tgt := 59) dX2_hasName_42 (by decide) (by decide) (by decide) ?_
    refine gg_aload_n dX2_hasName_45 2 rfl ?_
    refine gg_aload_n dX2_hasName_46 3 rfl ?_
    refine gg_iload_n dX2_hasName_47 4 rfl ?_
    refine gg_iload dX2_hasName_48 0 rfl ?_
    refine gg_callVi (own := RX2) (yt := gm_X1_part) rfl gl_RX2_52 gk_X1_part gr_X1_part dX2_hasName_50 (c_X1_part0 (d := d - 1) hF hA hW.1 (j := j) hj (by omega)) (gFsh hF) (gFlt hF) (by decide) rfl rfl rfl (Nat.le_of_ble_eq_true rfl) (by show _ ≤ d; omega) ⟨Nat.le_refl _, Nat.le_refl _⟩ (fun e7 μ' hc => ?_)
    obtain ⟨rfl, rfl⟩ := hc
    refine gg_callVi (own := RX2) (yt := gm_X2_namedAt) rfl gl_RX2_69 gk_X2_namedAt gr_X2_namedAt dX2_hasName_53 (c_X2_namedAt (d := d - 1) (k := j + 1) (P := gHn K N Z nm (j + 1)) (by have := hc1 (by rw [hk]; decide); omega) (hN _ (by first | omega | exact gPt_gt Z j _) (hc1 (by rw [hk]; decide)))) sh_38 pl_38 (by decide) rfl rfl rfl (Nat.le_of_ble_eq_true rfl) (by show _ ≤ d; omega) ⟨Nat.le_refl _, Nat.le_refl _⟩ (fun e8 μ' hc => ?_)
    obtain ⟨rfl, ⟨rfl, hn1⟩ | ⟨rfl, hn1⟩⟩ := hc
    · refine gg_if_eq_f (tgt := 63) dX2_hasName_56 (by decide) (by decide) (by decide) ?_
      refine gg_iconst dX2_hasName_59 ?_
      refine gg_goto (tgt := 64) dX2_hasName_60 (by decide) ?_
      refine gg_istore (ls' := [(4, .int (iv 1)), (5, .int (iv 0)), (0, .ref (gad (gSS ad) 38)), (1, .ref (gad (gSS ad) a)), (2, .int (iv (j : Int))), (3, .int (iv (nm : Int)))]) dX2_hasName_64 (by decide) rfl ?_
      refine gg_iincv (ls' := [(5, .int (iv 1)), (4, .int (iv 1)), (0, .ref (gad (gSS ad) 38)), (1, .ref (gad (gSS ad) a)), (2, .int (iv (j : Int))), (3, .int (iv (nm : Int)))]) dX2_hasName_66 1 rfl rfl (by decide) rfl ?_
      refine gg_goto (tgt := 30) dX2_hasName_69 (by decide) ?_
      refine gg_iload dX2_hasName_30 0 rfl ?_
      refine gg_aload_n dX2_hasName_32 3 rfl ?_
      refine gg_iload_n dX2_hasName_33 4 rfl ?_
      refine gg_callVi (own := RX2) (yt := gm_X1_parts) rfl gl_RX2_59 gk_X1_parts gr_X1_parts dX2_hasName_34 (c_X1_parts (d := d - 1) hF hA hW.1 (j := j) (by omega) (by omega) hK) (gFsh hF) (gFlt hF) (by decide) rfl rfl rfl (Nat.le_of_ble_eq_true rfl) (by show _ ≤ d; omega) ⟨Nat.le_refl _, Nat.le_refl _⟩ (fun e9 μ' hc => ?_)
      obtain ⟨rfl, rfl⟩ := hc
      refine gg_toI (b := 1) (by rw [hk]; rfl) ?_
      refine gg_icmp_ge_t (tgt := 72) dX2_hasName_37 (by decide) (by decide) (by decide) ?_
      refine gg_iload dX2_hasName_72 1 rfl ?_
      refine gg_iretz dX2_hasName_74 rfl (by decide) ⟨rfl, rfl⟩ ?_
      refine ⟨rfl, Or.inl ⟨rfl, ?_⟩⟩
      rw [gHn_rec hW hj, hk]
      simp only [show gPar 2 = 1 from rfl]
      first | simp [hn1, hn2, hn3] | simp [hn1, hn2] | simp [hn1] | simp [hne] | simp
    · refine gg_if_eq_t (tgt := 63) dX2_hasName_56 (by decide) (by decide) (by decide) ?_
      refine gg_iconst dX2_hasName_63 ?_
      refine gg_istore (ls' := [(4, .int (iv 0)), (5, .int (iv 0)), (0, .ref (gad (gSS ad) 38)), (1, .ref (gad (gSS ad) a)), (2, .int (iv (j : Int))), (3, .int (iv (nm : Int)))]) dX2_hasName_64 (by decide) rfl ?_
      refine gg_iincv (ls' := [(5, .int (iv 1)), (4, .int (iv 0)), (0, .ref (gad (gSS ad) 38)), (1, .ref (gad (gSS ad) a)), (2, .int (iv (j : Int))), (3, .int (iv (nm : Int)))]) dX2_hasName_66 1 rfl rfl (by decide) rfl ?_
      refine gg_goto (tgt := 30) dX2_hasName_69 (by decide) ?_
      refine gg_iload dX2_hasName_30 0 rfl ?_
      refine gg_aload_n dX2_hasName_32 3 rfl ?_
      refine gg_iload_n dX2_hasName_33 4 rfl ?_
      refine gg_callVi (own := RX2) (yt := gm_X1_parts) rfl gl_RX2_59 gk_X1_parts gr_X1_parts dX2_hasName_34 (c_X1_parts (d := d - 1) hF hA hW.1 (j := j) (by omega) (by omega) hK) (gFsh hF) (gFlt hF) (by decide) rfl rfl rfl (Nat.le_of_ble_eq_true rfl) (by show _ ≤ d; omega) ⟨Nat.le_refl _, Nat.le_refl _⟩ (fun e10 μ' hc => ?_)
      obtain ⟨rfl, rfl⟩ := hc
      refine gg_toI (b := 1) (by rw [hk]; rfl) ?_
      refine gg_icmp_ge_t (tgt := 72) dX2_hasName_37 (by decide) (by decide) (by decide) ?_
      refine gg_iload dX2_hasName_72 1 rfl ?_
      refine gg_iretz dX2_hasName_74 rfl (by decide) ⟨rfl, rfl⟩ ?_
      refine ⟨rfl, Or.inr ⟨rfl, ?_⟩⟩
      rw [gHn_rec hW hj, hk]
      simp only [show gPar 2 = 1 from rfl]
      first | simp [hn1, hn2, hn3] | simp [hn1, hn2] | simp [hn1] | simp [hne] | simp
  · refine gg_toI (b := 3) (by omega) ?_
    refine gg_iconst dX2_hasName_5 ?_
    refine gg_icmp_ne_t (tgt := 24) dX2_hasName_6 (by decide) (by decide) (by decide) ?_
    refine gg_iconst dX2_hasName_24 ?_
    refine gg_istore (ls' := [(4, .int (iv 0)), (0, .ref (gad (gSS ad) 38)), (1, .ref (gad (gSS ad) a)), (2, .int (iv (j : Int))), (3, .int (iv (nm : Int)))]) dX2_hasName_25 (by decide) rfl ?_
    refine gg_iconst dX2_hasName_27 ?_
    refine gg_istore (ls' := [(5, .int (iv 0)), (4, .int (iv 0)), (0, .ref (gad (gSS ad) 38)), (1, .ref (gad (gSS ad) a)), (2, .int (iv (j : Int))), (3, .int (iv (nm : Int)))]) dX2_hasName_28 (by decide) rfl ?_
    refine gg_iload dX2_hasName_30 0 rfl ?_
    refine gg_aload_n dX2_hasName_32 3 rfl ?_
    refine gg_iload_n dX2_hasName_33 4 rfl ?_
    refine gg_callVi (own := RX2) (yt := gm_X1_parts) rfl gl_RX2_59 gk_X1_parts gr_X1_parts dX2_hasName_34 (c_X1_parts (d := d - 1) hF hA hW.1 (j := j) (by omega) (by omega) hK) (gFsh hF) (gFlt hF) (by decide) rfl rfl rfl (Nat.le_of_ble_eq_true rfl) (by show _ ≤ d; omega) ⟨Nat.le_refl _, Nat.le_refl _⟩ (fun e11 μ' hc => ?_)
    obtain ⟨rfl, rfl⟩ := hc
    refine gg_toI (b := 2) (by rw [hk]; rfl) ?_
    refine gg_icmp_ge_f (tgt := 72) dX2_hasName_37 (by decide) (by decide) (by decide) ?_
    refine gg_iload dX2_hasName_40 1 rfl ?_
    refine gg_if_ne_f (tgt := 59) dX2_hasName_42 (by decide) (by decide) (by decide) ?_
    refine gg_aload_n dX2_hasName_45 2 rfl ?_
    refine gg_aload_n dX2_hasName_46 3 rfl ?_
    refine gg_iload_n dX2_hasName_47 4 rfl ?_
    refine gg_iload dX2_hasName_48 0 rfl ?_
    refine gg_callVi (own := RX2) (yt := gm_X1_part) rfl gl_RX2_52 gk_X1_part gr_X1_part dX2_hasName_50 (c_X1_part0 (d := d - 1) hF hA hW.1 (j := j) hj (by omega)) (gFsh hF) (gFlt hF) (by decide) rfl rfl rfl (Nat.le_of_ble_eq_true rfl) (by show _ ≤ d; omega) ⟨Nat.le_refl _, Nat.le_refl _⟩ (fun e12 μ' hc => ?_)
    obtain ⟨rfl, rfl⟩ := hc
    refine gg_callVi (own := RX2) (yt := gm_X2_namedAt) rfl gl_RX2_69 gk_X2_namedAt gr_X2_namedAt dX2_hasName_53 (c_X2_namedAt (d := d - 1) (k := j + 1) (P := gHn K N Z nm (j + 1)) (by have := hc1 (by rw [hk]; decide); omega) (hN _ (by first | omega | exact gPt_gt Z j _) (hc1 (by rw [hk]; decide)))) sh_38 pl_38 (by decide) rfl rfl rfl (Nat.le_of_ble_eq_true rfl) (by show _ ≤ d; omega) ⟨Nat.le_refl _, Nat.le_refl _⟩ (fun e13 μ' hc => ?_)
    obtain ⟨rfl, ⟨rfl, hn1⟩ | ⟨rfl, hn1⟩⟩ := hc
    · refine gg_if_eq_f (tgt := 63) dX2_hasName_56 (by decide) (by decide) (by decide) ?_
      refine gg_iconst dX2_hasName_59 ?_
      refine gg_goto (tgt := 64) dX2_hasName_60 (by decide) ?_
      refine gg_istore (ls' := [(4, .int (iv 1)), (5, .int (iv 0)), (0, .ref (gad (gSS ad) 38)), (1, .ref (gad (gSS ad) a)), (2, .int (iv (j : Int))), (3, .int (iv (nm : Int)))]) dX2_hasName_64 (by decide) rfl ?_
      refine gg_iincv (ls' := [(5, .int (iv 1)), (4, .int (iv 1)), (0, .ref (gad (gSS ad) 38)), (1, .ref (gad (gSS ad) a)), (2, .int (iv (j : Int))), (3, .int (iv (nm : Int)))]) dX2_hasName_66 1 rfl rfl (by decide) rfl ?_
      refine gg_goto (tgt := 30) dX2_hasName_69 (by decide) ?_
      refine gg_iload dX2_hasName_30 0 rfl ?_
      refine gg_aload_n dX2_hasName_32 3 rfl ?_
      refine gg_iload_n dX2_hasName_33 4 rfl ?_
      refine gg_callVi (own := RX2) (yt := gm_X1_parts) rfl gl_RX2_59 gk_X1_parts gr_X1_parts dX2_hasName_34 (c_X1_parts (d := d - 1) hF hA hW.1 (j := j) (by omega) (by omega) hK) (gFsh hF) (gFlt hF) (by decide) rfl rfl rfl (Nat.le_of_ble_eq_true rfl) (by show _ ≤ d; omega) ⟨Nat.le_refl _, Nat.le_refl _⟩ (fun e14 μ' hc => ?_)
      obtain ⟨rfl, rfl⟩ := hc
      refine gg_toI (b := 2) (by rw [hk]; rfl) ?_
      refine gg_icmp_ge_f (tgt := 72) dX2_hasName_37 (by decide) (by decide) (by decide) ?_
      refine gg_iload dX2_hasName_40 1 rfl ?_
      refine gg_if_ne_t (tgt := 59) dX2_hasName_42 (by decide) (by decide) (by decide) ?_
      refine gg_iconst dX2_hasName_59 ?_
      refine gg_goto (tgt := 64) dX2_hasName_60 (by decide) ?_
      refine gg_istore (ls' := [(4, .int (iv 1)), (5, .int (iv 1)), (0, .ref (gad (gSS ad) 38)), (1, .ref (gad (gSS ad) a)), (2, .int (iv (j : Int))), (3, .int (iv (nm : Int)))]) dX2_hasName_64 (by decide) rfl ?_
      refine gg_iincv (ls' := [(5, .int (iv 2)), (4, .int (iv 1)), (0, .ref (gad (gSS ad) 38)), (1, .ref (gad (gSS ad) a)), (2, .int (iv (j : Int))), (3, .int (iv (nm : Int)))]) dX2_hasName_66 1 rfl rfl (by decide) rfl ?_
      refine gg_goto (tgt := 30) dX2_hasName_69 (by decide) ?_
      refine gg_iload dX2_hasName_30 0 rfl ?_
      refine gg_aload_n dX2_hasName_32 3 rfl ?_
      refine gg_iload_n dX2_hasName_33 4 rfl ?_
      refine gg_callVi (own := RX2) (yt := gm_X1_parts) rfl gl_RX2_59 gk_X1_parts gr_X1_parts dX2_hasName_34 (c_X1_parts (d := d - 1) hF hA hW.1 (j := j) (by omega) (by omega) hK) (gFsh hF) (gFlt hF) (by decide) rfl rfl rfl (Nat.le_of_ble_eq_true rfl) (by show _ ≤ d; omega) ⟨Nat.le_refl _, Nat.le_refl _⟩ (fun e15 μ' hc => ?_)
      obtain ⟨rfl, rfl⟩ := hc
      refine gg_toI (b := 2) (by rw [hk]; rfl) ?_
      refine gg_icmp_ge_t (tgt := 72) dX2_hasName_37 (by decide) (by decide) (by decide) ?_
      refine gg_iload dX2_hasName_72 1 rfl ?_
      refine gg_iretz dX2_hasName_74 rfl (by decide) ⟨rfl, rfl⟩ ?_
      refine ⟨rfl, Or.inl ⟨rfl, ?_⟩⟩
      rw [gHn_rec hW hj, hk]
      simp only [show gPar 3 = 2 from rfl]
      first | simp [hn1, hn2, hn3] | simp [hn1, hn2] | simp [hn1] | simp [hne] | simp
    · refine gg_if_eq_t (tgt := 63) dX2_hasName_56 (by decide) (by decide) (by decide) ?_
      refine gg_iconst dX2_hasName_63 ?_
      refine gg_istore (ls' := [(4, .int (iv 0)), (5, .int (iv 0)), (0, .ref (gad (gSS ad) 38)), (1, .ref (gad (gSS ad) a)), (2, .int (iv (j : Int))), (3, .int (iv (nm : Int)))]) dX2_hasName_64 (by decide) rfl ?_
      refine gg_iincv (ls' := [(5, .int (iv 1)), (4, .int (iv 0)), (0, .ref (gad (gSS ad) 38)), (1, .ref (gad (gSS ad) a)), (2, .int (iv (j : Int))), (3, .int (iv (nm : Int)))]) dX2_hasName_66 1 rfl rfl (by decide) rfl ?_
      refine gg_goto (tgt := 30) dX2_hasName_69 (by decide) ?_
      refine gg_iload dX2_hasName_30 0 rfl ?_
      refine gg_aload_n dX2_hasName_32 3 rfl ?_
      refine gg_iload_n dX2_hasName_33 4 rfl ?_
      refine gg_callVi (own := RX2) (yt := gm_X1_parts) rfl gl_RX2_59 gk_X1_parts gr_X1_parts dX2_hasName_34 (c_X1_parts (d := d - 1) hF hA hW.1 (j := j) (by omega) (by omega) hK) (gFsh hF) (gFlt hF) (by decide) rfl rfl rfl (Nat.le_of_ble_eq_true rfl) (by show _ ≤ d; omega) ⟨Nat.le_refl _, Nat.le_refl _⟩ (fun e16 μ' hc => ?_)
      obtain ⟨rfl, rfl⟩ := hc
      refine gg_toI (b := 2) (by rw [hk]; rfl) ?_
      refine gg_icmp_ge_f (tgt := 72) dX2_hasName_37 (by decide) (by decide) (by decide) ?_
      refine gg_iload dX2_hasName_40 1 rfl ?_
      refine gg_if_ne_f (tgt := 59) dX2_hasName_42 (by decide) (by decide) (by decide) ?_
      refine gg_aload_n dX2_hasName_45 2 rfl ?_
      refine gg_aload_n dX2_hasName_46 3 rfl ?_
      refine gg_iload_n dX2_hasName_47 4 rfl ?_
      refine gg_iload dX2_hasName_48 0 rfl ?_
      refine gg_callVi (own := RX2) (yt := gm_X1_part) rfl gl_RX2_52 gk_X1_part gr_X1_part dX2_hasName_50 (c_X1_part1 (d := d - 1) hF hA hW.1 (j := j) (hc1 (by rw [hk]; decide)) hj (by omega)) (gFsh hF) (gFlt hF) (by decide) rfl rfl rfl (Nat.le_of_ble_eq_true rfl) (by show _ ≤ d; omega) ⟨Nat.le_refl _, Nat.le_refl _⟩ (fun e17 μ' hc => ?_)
      obtain ⟨rfl, rfl⟩ := hc
      refine gg_callVi (own := RX2) (yt := gm_X2_namedAt) rfl gl_RX2_69 gk_X2_namedAt gr_X2_namedAt dX2_hasName_53 (c_X2_namedAt (d := d - 1) (k := gPt Z j 1) (P := gHn K N Z nm (gPt Z j 1)) (by have := hc2 (by rw [hk]; decide); omega) (hN _ (by first | omega | exact gPt_gt Z j _) (hc2 (by rw [hk]; decide)))) sh_38 pl_38 (by decide) rfl rfl rfl (Nat.le_of_ble_eq_true rfl) (by show _ ≤ d; omega) ⟨Nat.le_refl _, Nat.le_refl _⟩ (fun e18 μ' hc => ?_)
      obtain ⟨rfl, ⟨rfl, hn2⟩ | ⟨rfl, hn2⟩⟩ := hc
      · refine gg_if_eq_f (tgt := 63) dX2_hasName_56 (by decide) (by decide) (by decide) ?_
        refine gg_iconst dX2_hasName_59 ?_
        refine gg_goto (tgt := 64) dX2_hasName_60 (by decide) ?_
        refine gg_istore (ls' := [(4, .int (iv 1)), (5, .int (iv 1)), (0, .ref (gad (gSS ad) 38)), (1, .ref (gad (gSS ad) a)), (2, .int (iv (j : Int))), (3, .int (iv (nm : Int)))]) dX2_hasName_64 (by decide) rfl ?_
        refine gg_iincv (ls' := [(5, .int (iv 2)), (4, .int (iv 1)), (0, .ref (gad (gSS ad) 38)), (1, .ref (gad (gSS ad) a)), (2, .int (iv (j : Int))), (3, .int (iv (nm : Int)))]) dX2_hasName_66 1 rfl rfl (by decide) rfl ?_
        refine gg_goto (tgt := 30) dX2_hasName_69 (by decide) ?_
        refine gg_iload dX2_hasName_30 0 rfl ?_
        refine gg_aload_n dX2_hasName_32 3 rfl ?_
        refine gg_iload_n dX2_hasName_33 4 rfl ?_
        refine gg_callVi (own := RX2) (yt := gm_X1_parts) rfl gl_RX2_59 gk_X1_parts gr_X1_parts dX2_hasName_34 (c_X1_parts (d := d - 1) hF hA hW.1 (j := j) (by omega) (by omega) hK) (gFsh hF) (gFlt hF) (by decide) rfl rfl rfl (Nat.le_of_ble_eq_true rfl) (by show _ ≤ d; omega) ⟨Nat.le_refl _, Nat.le_refl _⟩ (fun e19 μ' hc => ?_)
        obtain ⟨rfl, rfl⟩ := hc
        refine gg_toI (b := 2) (by rw [hk]; rfl) ?_
        refine gg_icmp_ge_t (tgt := 72) dX2_hasName_37 (by decide) (by decide) (by decide) ?_
        refine gg_iload dX2_hasName_72 1 rfl ?_
        refine gg_iretz dX2_hasName_74 rfl (by decide) ⟨rfl, rfl⟩ ?_
        refine ⟨rfl, Or.inl ⟨rfl, ?_⟩⟩
        rw [gHn_rec hW hj, hk]
        simp only [show gPar 3 = 2 from rfl]
        first | simp [hn1, hn2, hn3] | simp [hn1, hn2] | simp [hn1] | simp [hne] | simp
      · refine gg_if_eq_t (tgt := 63) dX2_hasName_56 (by decide) (by decide) (by decide) ?_
        refine gg_iconst dX2_hasName_63 ?_
        refine gg_istore (ls' := [(4, .int (iv 0)), (5, .int (iv 1)), (0, .ref (gad (gSS ad) 38)), (1, .ref (gad (gSS ad) a)), (2, .int (iv (j : Int))), (3, .int (iv (nm : Int)))]) dX2_hasName_64 (by decide) rfl ?_
        refine gg_iincv (ls' := [(5, .int (iv 2)), (4, .int (iv 0)), (0, .ref (gad (gSS ad) 38)), (1, .ref (gad (gSS ad) a)), (2, .int (iv (j : Int))), (3, .int (iv (nm : Int)))]) dX2_hasName_66 1 rfl rfl (by decide) rfl ?_
        refine gg_goto (tgt := 30) dX2_hasName_69 (by decide) ?_
        refine gg_iload dX2_hasName_30 0 rfl ?_
        refine gg_aload_n dX2_hasName_32 3 rfl ?_
        refine gg_iload_n dX2_hasName_33 4 rfl ?_
        refine gg_callVi (own := RX2) (yt := gm_X1_parts) rfl gl_RX2_59 gk_X1_parts gr_X1_parts dX2_hasName_34 (c_X1_parts (d := d - 1) hF hA hW.1 (j := j) (by omega) (by omega) hK) (gFsh hF) (gFlt hF) (by decide) rfl rfl rfl (Nat.le_of_ble_eq_true rfl) (by show _ ≤ d; omega) ⟨Nat.le_refl _, Nat.le_refl _⟩ (fun e20 μ' hc => ?_)
        obtain ⟨rfl, rfl⟩ := hc
        refine gg_toI (b := 2) (by rw [hk]; rfl) ?_
        refine gg_icmp_ge_t (tgt := 72) dX2_hasName_37 (by decide) (by decide) (by decide) ?_
        refine gg_iload dX2_hasName_72 1 rfl ?_
        refine gg_iretz dX2_hasName_74 rfl (by decide) ⟨rfl, rfl⟩ ?_
        refine ⟨rfl, Or.inr ⟨rfl, ?_⟩⟩
        rw [gHn_rec hW hj, hk]
        simp only [show gPar 3 = 2 from rfl]
        first | simp [hn1, hn2, hn3] | simp [hn1, hn2] | simp [hn1] | simp [hne] | simp
  · refine gg_toI (b := 4) (by omega) ?_
    refine gg_iconst dX2_hasName_5 ?_
    refine gg_icmp_ne_t (tgt := 24) dX2_hasName_6 (by decide) (by decide) (by decide) ?_
    refine gg_iconst dX2_hasName_24 ?_
    refine gg_istore (ls' := [(4, .int (iv 0)), (0, .ref (gad (gSS ad) 38)), (1, .ref (gad (gSS ad) a)), (2, .int (iv (j : Int))), (3, .int (iv (nm : Int)))]) dX2_hasName_25 (by decide) rfl ?_
    refine gg_iconst dX2_hasName_27 ?_
    refine gg_istore (ls' := [(5, .int (iv 0)), (4, .int (iv 0)), (0, .ref (gad (gSS ad) 38)), (1, .ref (gad (gSS ad) a)), (2, .int (iv (j : Int))), (3, .int (iv (nm : Int)))]) dX2_hasName_28 (by decide) rfl ?_
    refine gg_iload dX2_hasName_30 0 rfl ?_
    refine gg_aload_n dX2_hasName_32 3 rfl ?_
    refine gg_iload_n dX2_hasName_33 4 rfl ?_
    refine gg_callVi (own := RX2) (yt := gm_X1_parts) rfl gl_RX2_59 gk_X1_parts gr_X1_parts dX2_hasName_34 (c_X1_parts (d := d - 1) hF hA hW.1 (j := j) (by omega) (by omega) hK) (gFsh hF) (gFlt hF) (by decide) rfl rfl rfl (Nat.le_of_ble_eq_true rfl) (by show _ ≤ d; omega) ⟨Nat.le_refl _, Nat.le_refl _⟩ (fun e21 μ' hc => ?_)
    obtain ⟨rfl, rfl⟩ := hc
    refine gg_toI (b := 2) (by rw [hk]; rfl) ?_
    refine gg_icmp_ge_f (tgt := 72) dX2_hasName_37 (by decide) (by decide) (by decide) ?_
    refine gg_iload dX2_hasName_40 1 rfl ?_
    refine gg_if_ne_f (tgt := 59) dX2_hasName_42 (by decide) (by decide) (by decide) ?_
    refine gg_aload_n dX2_hasName_45 2 rfl ?_
    refine gg_aload_n dX2_hasName_46 3 rfl ?_
    refine gg_iload_n dX2_hasName_47 4 rfl ?_
    refine gg_iload dX2_hasName_48 0 rfl ?_
    refine gg_callVi (own := RX2) (yt := gm_X1_part) rfl gl_RX2_52 gk_X1_part gr_X1_part dX2_hasName_50 (c_X1_part0 (d := d - 1) hF hA hW.1 (j := j) hj (by omega)) (gFsh hF) (gFlt hF) (by decide) rfl rfl rfl (Nat.le_of_ble_eq_true rfl) (by show _ ≤ d; omega) ⟨Nat.le_refl _, Nat.le_refl _⟩ (fun e22 μ' hc => ?_)
    obtain ⟨rfl, rfl⟩ := hc
    refine gg_callVi (own := RX2) (yt := gm_X2_namedAt) rfl gl_RX2_69 gk_X2_namedAt gr_X2_namedAt dX2_hasName_53 (c_X2_namedAt (d := d - 1) (k := j + 1) (P := gHn K N Z nm (j + 1)) (by have := hc1 (by rw [hk]; decide); omega) (hN _ (by first | omega | exact gPt_gt Z j _) (hc1 (by rw [hk]; decide)))) sh_38 pl_38 (by decide) rfl rfl rfl (Nat.le_of_ble_eq_true rfl) (by show _ ≤ d; omega) ⟨Nat.le_refl _, Nat.le_refl _⟩ (fun e23 μ' hc => ?_)
    obtain ⟨rfl, ⟨rfl, hn1⟩ | ⟨rfl, hn1⟩⟩ := hc
    · refine gg_if_eq_f (tgt := 63) dX2_hasName_56 (by decide) (by decide) (by decide) ?_
      refine gg_iconst dX2_hasName_59 ?_
      refine gg_goto (tgt := 64) dX2_hasName_60 (by decide) ?_
      refine gg_istore (ls' := [(4, .int (iv 1)), (5, .int (iv 0)), (0, .ref (gad (gSS ad) 38)), (1, .ref (gad (gSS ad) a)), (2, .int (iv (j : Int))), (3, .int (iv (nm : Int)))]) dX2_hasName_64 (by decide) rfl ?_
      refine gg_iincv (ls' := [(5, .int (iv 1)), (4, .int (iv 1)), (0, .ref (gad (gSS ad) 38)), (1, .ref (gad (gSS ad) a)), (2, .int (iv (j : Int))), (3, .int (iv (nm : Int)))]) dX2_hasName_66 1 rfl rfl (by decide) rfl ?_
      refine gg_goto (tgt := 30) dX2_hasName_69 (by decide) ?_
      refine gg_iload dX2_hasName_30 0 rfl ?_
      refine gg_aload_n dX2_hasName_32 3 rfl ?_
      refine gg_iload_n dX2_hasName_33 4 rfl ?_
      refine gg_callVi (own := RX2) (yt := gm_X1_parts) rfl gl_RX2_59 gk_X1_parts gr_X1_parts dX2_hasName_34 (c_X1_parts (d := d - 1) hF hA hW.1 (j := j) (by omega) (by omega) hK) (gFsh hF) (gFlt hF) (by decide) rfl rfl rfl (Nat.le_of_ble_eq_true rfl) (by show _ ≤ d; omega) ⟨Nat.le_refl _, Nat.le_refl _⟩ (fun e24 μ' hc => ?_)
      obtain ⟨rfl, rfl⟩ := hc
      refine gg_toI (b := 2) (by rw [hk]; rfl) ?_
      refine gg_icmp_ge_f (tgt := 72) dX2_hasName_37 (by decide) (by decide) (by decide) ?_
      refine gg_iload dX2_hasName_40 1 rfl ?_
      refine gg_if_ne_t (tgt := 59) dX2_hasName_42 (by decide) (by decide) (by decide) ?_
      refine gg_iconst dX2_hasName_59 ?_
      refine gg_goto (tgt := 64) dX2_hasName_60 (by decide) ?_
      refine gg_istore (ls' := [(4, .int (iv 1)), (5, .int (iv 1)), (0, .ref (gad (gSS ad) 38)), (1, .ref (gad (gSS ad) a)), (2, .int (iv (j : Int))), (3, .int (iv (nm : Int)))]) dX2_hasName_64 (by decide) rfl ?_
      refine gg_iincv (ls' := [(5, .int (iv 2)), (4, .int (iv 1)), (0, .ref (gad (gSS ad) 38)), (1, .ref (gad (gSS ad) a)), (2, .int (iv (j : Int))), (3, .int (iv (nm : Int)))]) dX2_hasName_66 1 rfl rfl (by decide) rfl ?_
      refine gg_goto (tgt := 30) dX2_hasName_69 (by decide) ?_
      refine gg_iload dX2_hasName_30 0 rfl ?_
      refine gg_aload_n dX2_hasName_32 3 rfl ?_
      refine gg_iload_n dX2_hasName_33 4 rfl ?_
      refine gg_callVi (own := RX2) (yt := gm_X1_parts) rfl gl_RX2_59 gk_X1_parts gr_X1_parts dX2_hasName_34 (c_X1_parts (d := d - 1) hF hA hW.1 (j := j) (by omega) (by omega) hK) (gFsh hF) (gFlt hF) (by decide) rfl rfl rfl (Nat.le_of_ble_eq_true rfl) (by show _ ≤ d; omega) ⟨Nat.le_refl _, Nat.le_refl _⟩ (fun e25 μ' hc => ?_)
      obtain ⟨rfl, rfl⟩ := hc
      refine gg_toI (b := 2) (by rw [hk]; rfl) ?_
      refine gg_icmp_ge_t (tgt := 72) dX2_hasName_37 (by decide) (by decide) (by decide) ?_
      refine gg_iload dX2_hasName_72 1 rfl ?_
      refine gg_iretz dX2_hasName_74 rfl (by decide) ⟨rfl, rfl⟩ ?_
      refine ⟨rfl, Or.inl ⟨rfl, ?_⟩⟩
      rw [gHn_rec hW hj, hk]
      simp only [show gPar 4 = 2 from rfl]
      first | simp [hn1, hn2, hn3] | simp [hn1, hn2] | simp [hn1] | simp [hne] | simp
    · refine gg_if_eq_t (tgt := 63) dX2_hasName_56 (by decide) (by decide) (by decide) ?_
      refine gg_iconst dX2_hasName_63 ?_
      refine gg_istore (ls' := [(4, .int (iv 0)), (5, .int (iv 0)), (0, .ref (gad (gSS ad) 38)), (1, .ref (gad (gSS ad) a)), (2, .int (iv (j : Int))), (3, .int (iv (nm : Int)))]) dX2_hasName_64 (by decide) rfl ?_
      refine gg_iincv (ls' := [(5, .int (iv 1)), (4, .int (iv 0)), (0, .ref (gad (gSS ad) 38)), (1, .ref (gad (gSS ad) a)), (2, .int (iv (j : Int))), (3, .int (iv (nm : Int)))]) dX2_hasName_66 1 rfl rfl (by decide) rfl ?_
      refine gg_goto (tgt := 30) dX2_hasName_69 (by decide) ?_
      refine gg_iload dX2_hasName_30 0 rfl ?_
      refine gg_aload_n dX2_hasName_32 3 rfl ?_
      refine gg_iload_n dX2_hasName_33 4 rfl ?_
      refine gg_callVi (own := RX2) (yt := gm_X1_parts) rfl gl_RX2_59 gk_X1_parts gr_X1_parts dX2_hasName_34 (c_X1_parts (d := d - 1) hF hA hW.1 (j := j) (by omega) (by omega) hK) (gFsh hF) (gFlt hF) (by decide) rfl rfl rfl (Nat.le_of_ble_eq_true rfl) (by show _ ≤ d; omega) ⟨Nat.le_refl _, Nat.le_refl _⟩ (fun e26 μ' hc => ?_)
      obtain ⟨rfl, rfl⟩ := hc
      refine gg_toI (b := 2) (by rw [hk]; rfl) ?_
      refine gg_icmp_ge_f (tgt := 72) dX2_hasName_37 (by decide) (by decide) (by decide) ?_
      refine gg_iload dX2_hasName_40 1 rfl ?_
      refine gg_if_ne_f (tgt := 59) dX2_hasName_42 (by decide) (by decide) (by decide) ?_
      refine gg_aload_n dX2_hasName_45 2 rfl ?_
      refine gg_aload_n dX2_hasName_46 3 rfl ?_
      refine gg_iload_n dX2_hasName_47 4 rfl ?_
      refine gg_iload dX2_hasName_48 0 rfl ?_
      refine gg_callVi (own := RX2) (yt := gm_X1_part) rfl gl_RX2_52 gk_X1_part gr_X1_part dX2_hasName_50 (c_X1_part1 (d := d - 1) hF hA hW.1 (j := j) (hc1 (by rw [hk]; decide)) hj (by omega)) (gFsh hF) (gFlt hF) (by decide) rfl rfl rfl (Nat.le_of_ble_eq_true rfl) (by show _ ≤ d; omega) ⟨Nat.le_refl _, Nat.le_refl _⟩ (fun e27 μ' hc => ?_)
      obtain ⟨rfl, rfl⟩ := hc
      refine gg_callVi (own := RX2) (yt := gm_X2_namedAt) rfl gl_RX2_69 gk_X2_namedAt gr_X2_namedAt dX2_hasName_53 (c_X2_namedAt (d := d - 1) (k := gPt Z j 1) (P := gHn K N Z nm (gPt Z j 1)) (by have := hc2 (by rw [hk]; decide); omega) (hN _ (by first | omega | exact gPt_gt Z j _) (hc2 (by rw [hk]; decide)))) sh_38 pl_38 (by decide) rfl rfl rfl (Nat.le_of_ble_eq_true rfl) (by show _ ≤ d; omega) ⟨Nat.le_refl _, Nat.le_refl _⟩ (fun e28 μ' hc => ?_)
      obtain ⟨rfl, ⟨rfl, hn2⟩ | ⟨rfl, hn2⟩⟩ := hc
      · refine gg_if_eq_f (tgt := 63) dX2_hasName_56 (by decide) (by decide) (by decide) ?_
        refine gg_iconst dX2_hasName_59 ?_
        refine gg_goto (tgt := 64) dX2_hasName_60 (by decide) ?_
        refine gg_istore (ls' := [(4, .int (iv 1)), (5, .int (iv 1)), (0, .ref (gad (gSS ad) 38)), (1, .ref (gad (gSS ad) a)), (2, .int (iv (j : Int))), (3, .int (iv (nm : Int)))]) dX2_hasName_64 (by decide) rfl ?_
        refine gg_iincv (ls' := [(5, .int (iv 2)), (4, .int (iv 1)), (0, .ref (gad (gSS ad) 38)), (1, .ref (gad (gSS ad) a)), (2, .int (iv (j : Int))), (3, .int (iv (nm : Int)))]) dX2_hasName_66 1 rfl rfl (by decide) rfl ?_
        refine gg_goto (tgt := 30) dX2_hasName_69 (by decide) ?_
        refine gg_iload dX2_hasName_30 0 rfl ?_
        refine gg_aload_n dX2_hasName_32 3 rfl ?_
        refine gg_iload_n dX2_hasName_33 4 rfl ?_
        refine gg_callVi (own := RX2) (yt := gm_X1_parts) rfl gl_RX2_59 gk_X1_parts gr_X1_parts dX2_hasName_34 (c_X1_parts (d := d - 1) hF hA hW.1 (j := j) (by omega) (by omega) hK) (gFsh hF) (gFlt hF) (by decide) rfl rfl rfl (Nat.le_of_ble_eq_true rfl) (by show _ ≤ d; omega) ⟨Nat.le_refl _, Nat.le_refl _⟩ (fun e29 μ' hc => ?_)
        obtain ⟨rfl, rfl⟩ := hc
        refine gg_toI (b := 2) (by rw [hk]; rfl) ?_
        refine gg_icmp_ge_t (tgt := 72) dX2_hasName_37 (by decide) (by decide) (by decide) ?_
        refine gg_iload dX2_hasName_72 1 rfl ?_
        refine gg_iretz dX2_hasName_74 rfl (by decide) ⟨rfl, rfl⟩ ?_
        refine ⟨rfl, Or.inl ⟨rfl, ?_⟩⟩
        rw [gHn_rec hW hj, hk]
        simp only [show gPar 4 = 2 from rfl]
        first | simp [hn1, hn2, hn3] | simp [hn1, hn2] | simp [hn1] | simp [hne] | simp
      · refine gg_if_eq_t (tgt := 63) dX2_hasName_56 (by decide) (by decide) (by decide) ?_
        refine gg_iconst dX2_hasName_63 ?_
        refine gg_istore (ls' := [(4, .int (iv 0)), (5, .int (iv 1)), (0, .ref (gad (gSS ad) 38)), (1, .ref (gad (gSS ad) a)), (2, .int (iv (j : Int))), (3, .int (iv (nm : Int)))]) dX2_hasName_64 (by decide) rfl ?_
        refine gg_iincv (ls' := [(5, .int (iv 2)), (4, .int (iv 0)), (0, .ref (gad (gSS ad) 38)), (1, .ref (gad (gSS ad) a)), (2, .int (iv (j : Int))), (3, .int (iv (nm : Int)))]) dX2_hasName_66 1 rfl rfl (by decide) rfl ?_
        refine gg_goto (tgt := 30) dX2_hasName_69 (by decide) ?_
        refine gg_iload dX2_hasName_30 0 rfl ?_
        refine gg_aload_n dX2_hasName_32 3 rfl ?_
        refine gg_iload_n dX2_hasName_33 4 rfl ?_
        refine gg_callVi (own := RX2) (yt := gm_X1_parts) rfl gl_RX2_59 gk_X1_parts gr_X1_parts dX2_hasName_34 (c_X1_parts (d := d - 1) hF hA hW.1 (j := j) (by omega) (by omega) hK) (gFsh hF) (gFlt hF) (by decide) rfl rfl rfl (Nat.le_of_ble_eq_true rfl) (by show _ ≤ d; omega) ⟨Nat.le_refl _, Nat.le_refl _⟩ (fun e30 μ' hc => ?_)
        obtain ⟨rfl, rfl⟩ := hc
        refine gg_toI (b := 2) (by rw [hk]; rfl) ?_
        refine gg_icmp_ge_t (tgt := 72) dX2_hasName_37 (by decide) (by decide) (by decide) ?_
        refine gg_iload dX2_hasName_72 1 rfl ?_
        refine gg_iretz dX2_hasName_74 rfl (by decide) ⟨rfl, rfl⟩ ?_
        refine ⟨rfl, Or.inr ⟨rfl, ?_⟩⟩
        rw [gHn_rec hW hj, hk]
        simp only [show gPar 4 = 2 from rfl]
        first | simp [hn1, hn2, hn3] | simp [hn1, hn2] | simp [hn1] | simp [hne] | simp
  · refine gg_toI (b := 5) (by omega) ?_
    refine gg_iconst dX2_hasName_5 ?_
    refine gg_icmp_ne_t (tgt := 24) dX2_hasName_6 (by decide) (by decide) (by decide) ?_
    refine gg_iconst dX2_hasName_24 ?_
    refine gg_istore (ls' := [(4, .int (iv 0)), (0, .ref (gad (gSS ad) 38)), (1, .ref (gad (gSS ad) a)), (2, .int (iv (j : Int))), (3, .int (iv (nm : Int)))]) dX2_hasName_25 (by decide) rfl ?_
    refine gg_iconst dX2_hasName_27 ?_
    refine gg_istore (ls' := [(5, .int (iv 0)), (4, .int (iv 0)), (0, .ref (gad (gSS ad) 38)), (1, .ref (gad (gSS ad) a)), (2, .int (iv (j : Int))), (3, .int (iv (nm : Int)))]) dX2_hasName_28 (by decide) rfl ?_
    refine gg_iload dX2_hasName_30 0 rfl ?_
    refine gg_aload_n dX2_hasName_32 3 rfl ?_
    refine gg_iload_n dX2_hasName_33 4 rfl ?_
    refine gg_callVi (own := RX2) (yt := gm_X1_parts) rfl gl_RX2_59 gk_X1_parts gr_X1_parts dX2_hasName_34 (c_X1_parts (d := d - 1) hF hA hW.1 (j := j) (by omega) (by omega) hK) (gFsh hF) (gFlt hF) (by decide) rfl rfl rfl (Nat.le_of_ble_eq_true rfl) (by show _ ≤ d; omega) ⟨Nat.le_refl _, Nat.le_refl _⟩ (fun e31 μ' hc => ?_)
    obtain ⟨rfl, rfl⟩ := hc
    refine gg_toI (b := 1) (by rw [hk]; rfl) ?_
    refine gg_icmp_ge_f (tgt := 72) dX2_hasName_37 (by decide) (by decide) (by decide) ?_
    refine gg_iload dX2_hasName_40 1 rfl ?_
    refine gg_if_ne_f (tgt := 59) dX2_hasName_42 (by decide) (by decide) (by decide) ?_
    refine gg_aload_n dX2_hasName_45 2 rfl ?_
    refine gg_aload_n dX2_hasName_46 3 rfl ?_
    refine gg_iload_n dX2_hasName_47 4 rfl ?_
    refine gg_iload dX2_hasName_48 0 rfl ?_
    refine gg_callVi (own := RX2) (yt := gm_X1_part) rfl gl_RX2_52 gk_X1_part gr_X1_part dX2_hasName_50 (c_X1_part0 (d := d - 1) hF hA hW.1 (j := j) hj (by omega)) (gFsh hF) (gFlt hF) (by decide) rfl rfl rfl (Nat.le_of_ble_eq_true rfl) (by show _ ≤ d; omega) ⟨Nat.le_refl _, Nat.le_refl _⟩ (fun e32 μ' hc => ?_)
    obtain ⟨rfl, rfl⟩ := hc
    refine gg_callVi (own := RX2) (yt := gm_X2_namedAt) rfl gl_RX2_69 gk_X2_namedAt gr_X2_namedAt dX2_hasName_53 (c_X2_namedAt (d := d - 1) (k := j + 1) (P := gHn K N Z nm (j + 1)) (by have := hc1 (by rw [hk]; decide); omega) (hN _ (by first | omega | exact gPt_gt Z j _) (hc1 (by rw [hk]; decide)))) sh_38 pl_38 (by decide) rfl rfl rfl (Nat.le_of_ble_eq_true rfl) (by show _ ≤ d; omega) ⟨Nat.le_refl _, Nat.le_refl _⟩ (fun e33 μ' hc => ?_)
    obtain ⟨rfl, ⟨rfl, hn1⟩ | ⟨rfl, hn1⟩⟩ := hc
    · refine gg_if_eq_f (tgt := 63) dX2_hasName_56 (by decide) (by decide) (by decide) ?_
      refine gg_iconst dX2_hasName_59 ?_
      refine gg_goto (tgt := 64) dX2_hasName_60 (by decide) ?_
      refine gg_istore (ls' := [(4, .int (iv 1)), (5, .int (iv 0)), (0, .ref (gad (gSS ad) 38)), (1, .ref (gad (gSS ad) a)), (2, .int (iv (j : Int))), (3, .int (iv (nm : Int)))]) dX2_hasName_64 (by decide) rfl ?_
      refine gg_iincv (ls' := [(5, .int (iv 1)), (4, .int (iv 1)), (0, .ref (gad (gSS ad) 38)), (1, .ref (gad (gSS ad) a)), (2, .int (iv (j : Int))), (3, .int (iv (nm : Int)))]) dX2_hasName_66 1 rfl rfl (by decide) rfl ?_
      refine gg_goto (tgt := 30) dX2_hasName_69 (by decide) ?_
      refine gg_iload dX2_hasName_30 0 rfl ?_
      refine gg_aload_n dX2_hasName_32 3 rfl ?_
      refine gg_iload_n dX2_hasName_33 4 rfl ?_
      refine gg_callVi (own := RX2) (yt := gm_X1_parts) rfl gl_RX2_59 gk_X1_parts gr_X1_parts dX2_hasName_34 (c_X1_parts (d := d - 1) hF hA hW.1 (j := j) (by omega) (by omega) hK) (gFsh hF) (gFlt hF) (by decide) rfl rfl rfl (Nat.le_of_ble_eq_true rfl) (by show _ ≤ d; omega) ⟨Nat.le_refl _, Nat.le_refl _⟩ (fun e34 μ' hc => ?_)
      obtain ⟨rfl, rfl⟩ := hc
      refine gg_toI (b := 1) (by rw [hk]; rfl) ?_
      refine gg_icmp_ge_t (tgt := 72) dX2_hasName_37 (by decide) (by decide) (by decide) ?_
      refine gg_iload dX2_hasName_72 1 rfl ?_
      refine gg_iretz dX2_hasName_74 rfl (by decide) ⟨rfl, rfl⟩ ?_
      refine ⟨rfl, Or.inl ⟨rfl, ?_⟩⟩
      rw [gHn_rec hW hj, hk]
      simp only [show gPar 5 = 1 from rfl]
      first | simp [hn1, hn2, hn3] | simp [hn1, hn2] | simp [hn1] | simp [hne] | simp
    · refine gg_if_eq_t (tgt := 63) dX2_hasName_56 (by decide) (by decide) (by decide) ?_
      refine gg_iconst dX2_hasName_63 ?_
      refine gg_istore (ls' := [(4, .int (iv 0)), (5, .int (iv 0)), (0, .ref (gad (gSS ad) 38)), (1, .ref (gad (gSS ad) a)), (2, .int (iv (j : Int))), (3, .int (iv (nm : Int)))]) dX2_hasName_64 (by decide) rfl ?_
      refine gg_iincv (ls' := [(5, .int (iv 1)), (4, .int (iv 0)), (0, .ref (gad (gSS ad) 38)), (1, .ref (gad (gSS ad) a)), (2, .int (iv (j : Int))), (3, .int (iv (nm : Int)))]) dX2_hasName_66 1 rfl rfl (by decide) rfl ?_
      refine gg_goto (tgt := 30) dX2_hasName_69 (by decide) ?_
      refine gg_iload dX2_hasName_30 0 rfl ?_
      refine gg_aload_n dX2_hasName_32 3 rfl ?_
      refine gg_iload_n dX2_hasName_33 4 rfl ?_
      refine gg_callVi (own := RX2) (yt := gm_X1_parts) rfl gl_RX2_59 gk_X1_parts gr_X1_parts dX2_hasName_34 (c_X1_parts (d := d - 1) hF hA hW.1 (j := j) (by omega) (by omega) hK) (gFsh hF) (gFlt hF) (by decide) rfl rfl rfl (Nat.le_of_ble_eq_true rfl) (by show _ ≤ d; omega) ⟨Nat.le_refl _, Nat.le_refl _⟩ (fun e35 μ' hc => ?_)
      obtain ⟨rfl, rfl⟩ := hc
      refine gg_toI (b := 1) (by rw [hk]; rfl) ?_
      refine gg_icmp_ge_t (tgt := 72) dX2_hasName_37 (by decide) (by decide) (by decide) ?_
      refine gg_iload dX2_hasName_72 1 rfl ?_
      refine gg_iretz dX2_hasName_74 rfl (by decide) ⟨rfl, rfl⟩ ?_
      refine ⟨rfl, Or.inr ⟨rfl, ?_⟩⟩
      rw [gHn_rec hW hj, hk]
      simp only [show gPar 5 = 1 from rfl]
      first | simp [hn1, hn2, hn3] | simp [hn1, hn2] | simp [hn1] | simp [hne] | simp
  · refine gg_toI (b := 6) (by omega) ?_
    refine gg_iconst dX2_hasName_5 ?_
    refine gg_icmp_ne_t (tgt := 24) dX2_hasName_6 (by decide) (by decide) (by decide) ?_
    refine gg_iconst dX2_hasName_24 ?_
    refine gg_istore (ls' := [(4, .int (iv 0)), (0, .ref (gad (gSS ad) 38)), (1, .ref (gad (gSS ad) a)), (2, .int (iv (j : Int))), (3, .int (iv (nm : Int)))]) dX2_hasName_25 (by decide) rfl ?_
    refine gg_iconst dX2_hasName_27 ?_
    refine gg_istore (ls' := [(5, .int (iv 0)), (4, .int (iv 0)), (0, .ref (gad (gSS ad) 38)), (1, .ref (gad (gSS ad) a)), (2, .int (iv (j : Int))), (3, .int (iv (nm : Int)))]) dX2_hasName_28 (by decide) rfl ?_
    refine gg_iload dX2_hasName_30 0 rfl ?_
    refine gg_aload_n dX2_hasName_32 3 rfl ?_
    refine gg_iload_n dX2_hasName_33 4 rfl ?_
    refine gg_callVi (own := RX2) (yt := gm_X1_parts) rfl gl_RX2_59 gk_X1_parts gr_X1_parts dX2_hasName_34 (c_X1_parts (d := d - 1) hF hA hW.1 (j := j) (by omega) (by omega) hK) (gFsh hF) (gFlt hF) (by decide) rfl rfl rfl (Nat.le_of_ble_eq_true rfl) (by show _ ≤ d; omega) ⟨Nat.le_refl _, Nat.le_refl _⟩ (fun e36 μ' hc => ?_)
    obtain ⟨rfl, rfl⟩ := hc
    refine gg_toI (b := 3) (by rw [hk]; rfl) ?_
    refine gg_icmp_ge_f (tgt := 72) dX2_hasName_37 (by decide) (by decide) (by decide) ?_
    refine gg_iload dX2_hasName_40 1 rfl ?_
    refine gg_if_ne_f (tgt := 59) dX2_hasName_42 (by decide) (by decide) (by decide) ?_
    refine gg_aload_n dX2_hasName_45 2 rfl ?_
    refine gg_aload_n dX2_hasName_46 3 rfl ?_
    refine gg_iload_n dX2_hasName_47 4 rfl ?_
    refine gg_iload dX2_hasName_48 0 rfl ?_
    refine gg_callVi (own := RX2) (yt := gm_X1_part) rfl gl_RX2_52 gk_X1_part gr_X1_part dX2_hasName_50 (c_X1_part0 (d := d - 1) hF hA hW.1 (j := j) hj (by omega)) (gFsh hF) (gFlt hF) (by decide) rfl rfl rfl (Nat.le_of_ble_eq_true rfl) (by show _ ≤ d; omega) ⟨Nat.le_refl _, Nat.le_refl _⟩ (fun e37 μ' hc => ?_)
    obtain ⟨rfl, rfl⟩ := hc
    refine gg_callVi (own := RX2) (yt := gm_X2_namedAt) rfl gl_RX2_69 gk_X2_namedAt gr_X2_namedAt dX2_hasName_53 (c_X2_namedAt (d := d - 1) (k := j + 1) (P := gHn K N Z nm (j + 1)) (by have := hc1 (by rw [hk]; decide); omega) (hN _ (by first | omega | exact gPt_gt Z j _) (hc1 (by rw [hk]; decide)))) sh_38 pl_38 (by decide) rfl rfl rfl (Nat.le_of_ble_eq_true rfl) (by show _ ≤ d; omega) ⟨Nat.le_refl _, Nat.le_refl _⟩ (fun e38 μ' hc => ?_)
    obtain ⟨rfl, ⟨rfl, hn1⟩ | ⟨rfl, hn1⟩⟩ := hc
    · refine gg_if_eq_f (tgt := 63) dX2_hasName_56 (by decide) (by decide) (by decide) ?_
      refine gg_iconst dX2_hasName_59 ?_
      refine gg_goto (tgt := 64) dX2_hasName_60 (by decide) ?_
      refine gg_istore (ls' := [(4, .int (iv 1)), (5, .int (iv 0)), (0, .ref (gad (gSS ad) 38)), (1, .ref (gad (gSS ad) a)), (2, .int (iv (j : Int))), (3, .int (iv (nm : Int)))]) dX2_hasName_64 (by decide) rfl ?_
      refine gg_iincv (ls' := [(5, .int (iv 1)), (4, .int (iv 1)), (0, .ref (gad (gSS ad) 38)), (1, .ref (gad (gSS ad) a)), (2, .int (iv (j : Int))), (3, .int (iv (nm : Int)))]) dX2_hasName_66 1 rfl rfl (by decide) rfl ?_
      refine gg_goto (tgt := 30) dX2_hasName_69 (by decide) ?_
      refine gg_iload dX2_hasName_30 0 rfl ?_
      refine gg_aload_n dX2_hasName_32 3 rfl ?_
      refine gg_iload_n dX2_hasName_33 4 rfl ?_
      refine gg_callVi (own := RX2) (yt := gm_X1_parts) rfl gl_RX2_59 gk_X1_parts gr_X1_parts dX2_hasName_34 (c_X1_parts (d := d - 1) hF hA hW.1 (j := j) (by omega) (by omega) hK) (gFsh hF) (gFlt hF) (by decide) rfl rfl rfl (Nat.le_of_ble_eq_true rfl) (by show _ ≤ d; omega) ⟨Nat.le_refl _, Nat.le_refl _⟩ (fun e39 μ' hc => ?_)
      obtain ⟨rfl, rfl⟩ := hc
      refine gg_toI (b := 3) (by rw [hk]; rfl) ?_
      refine gg_icmp_ge_f (tgt := 72) dX2_hasName_37 (by decide) (by decide) (by decide) ?_
      refine gg_iload dX2_hasName_40 1 rfl ?_
      refine gg_if_ne_t (tgt := 59) dX2_hasName_42 (by decide) (by decide) (by decide) ?_
      refine gg_iconst dX2_hasName_59 ?_
      refine gg_goto (tgt := 64) dX2_hasName_60 (by decide) ?_
      refine gg_istore (ls' := [(4, .int (iv 1)), (5, .int (iv 1)), (0, .ref (gad (gSS ad) 38)), (1, .ref (gad (gSS ad) a)), (2, .int (iv (j : Int))), (3, .int (iv (nm : Int)))]) dX2_hasName_64 (by decide) rfl ?_
      refine gg_iincv (ls' := [(5, .int (iv 2)), (4, .int (iv 1)), (0, .ref (gad (gSS ad) 38)), (1, .ref (gad (gSS ad) a)), (2, .int (iv (j : Int))), (3, .int (iv (nm : Int)))]) dX2_hasName_66 1 rfl rfl (by decide) rfl ?_
      refine gg_goto (tgt := 30) dX2_hasName_69 (by decide) ?_
      refine gg_iload dX2_hasName_30 0 rfl ?_
      refine gg_aload_n dX2_hasName_32 3 rfl ?_
      refine gg_iload_n dX2_hasName_33 4 rfl ?_
      refine gg_callVi (own := RX2) (yt := gm_X1_parts) rfl gl_RX2_59 gk_X1_parts gr_X1_parts dX2_hasName_34 (c_X1_parts (d := d - 1) hF hA hW.1 (j := j) (by omega) (by omega) hK) (gFsh hF) (gFlt hF) (by decide) rfl rfl rfl (Nat.le_of_ble_eq_true rfl) (by show _ ≤ d; omega) ⟨Nat.le_refl _, Nat.le_refl _⟩ (fun e40 μ' hc => ?_)
      obtain ⟨rfl, rfl⟩ := hc
      refine gg_toI (b := 3) (by rw [hk]; rfl) ?_
      refine gg_icmp_ge_f (tgt := 72) dX2_hasName_37 (by decide) (by decide) (by decide) ?_
      refine gg_iload dX2_hasName_40 1 rfl ?_
      refine gg_if_ne_t (tgt := 59) dX2_hasName_42 (by decide) (by decide) (by decide) ?_
      refine gg_iconst dX2_hasName_59 ?_
      refine gg_goto (tgt := 64) dX2_hasName_60 (by decide) ?_
      refine gg_istore (ls' := [(4, .int (iv 1)), (5, .int (iv 2)), (0, .ref (gad (gSS ad) 38)), (1, .ref (gad (gSS ad) a)), (2, .int (iv (j : Int))), (3, .int (iv (nm : Int)))]) dX2_hasName_64 (by decide) rfl ?_
      refine gg_iincv (ls' := [(5, .int (iv 3)), (4, .int (iv 1)), (0, .ref (gad (gSS ad) 38)), (1, .ref (gad (gSS ad) a)), (2, .int (iv (j : Int))), (3, .int (iv (nm : Int)))]) dX2_hasName_66 1 rfl rfl (by decide) rfl ?_
      refine gg_goto (tgt := 30) dX2_hasName_69 (by decide) ?_
      refine gg_iload dX2_hasName_30 0 rfl ?_
      refine gg_aload_n dX2_hasName_32 3 rfl ?_
      refine gg_iload_n dX2_hasName_33 4 rfl ?_
      refine gg_callVi (own := RX2) (yt := gm_X1_parts) rfl gl_RX2_59 gk_X1_parts gr_X1_parts dX2_hasName_34 (c_X1_parts (d := d - 1) hF hA hW.1 (j := j) (by omega) (by omega) hK) (gFsh hF) (gFlt hF) (by decide) rfl rfl rfl (Nat.le_of_ble_eq_true rfl) (by show _ ≤ d; omega) ⟨Nat.le_refl _, Nat.le_refl _⟩ (fun e41 μ' hc => ?_)
      obtain ⟨rfl, rfl⟩ := hc
      refine gg_toI (b := 3) (by rw [hk]; rfl) ?_
      refine gg_icmp_ge_t (tgt := 72) dX2_hasName_37 (by decide) (by decide) (by decide) ?_
      refine gg_iload dX2_hasName_72 1 rfl ?_
      refine gg_iretz dX2_hasName_74 rfl (by decide) ⟨rfl, rfl⟩ ?_
      refine ⟨rfl, Or.inl ⟨rfl, ?_⟩⟩
      rw [gHn_rec hW hj, hk]
      simp only [show gPar 6 = 3 from rfl]
      first | simp [hn1, hn2, hn3] | simp [hn1, hn2] | simp [hn1] | simp [hne] | simp
    · refine gg_if_eq_t (tgt := 63) dX2_hasName_56 (by decide) (by decide) (by decide) ?_
      refine gg_iconst dX2_hasName_63 ?_
      refine gg_istore (ls' := [(4, .int (iv 0)), (5, .int (iv 0)), (0, .ref (gad (gSS ad) 38)), (1, .ref (gad (gSS ad) a)), (2, .int (iv (j : Int))), (3, .int (iv (nm : Int)))]) dX2_hasName_64 (by decide) rfl ?_
      refine gg_iincv (ls' := [(5, .int (iv 1)), (4, .int (iv 0)), (0, .ref (gad (gSS ad) 38)), (1, .ref (gad (gSS ad) a)), (2, .int (iv (j : Int))), (3, .int (iv (nm : Int)))]) dX2_hasName_66 1 rfl rfl (by decide) rfl ?_
      refine gg_goto (tgt := 30) dX2_hasName_69 (by decide) ?_
      refine gg_iload dX2_hasName_30 0 rfl ?_
      refine gg_aload_n dX2_hasName_32 3 rfl ?_
      refine gg_iload_n dX2_hasName_33 4 rfl ?_
      refine gg_callVi (own := RX2) (yt := gm_X1_parts) rfl gl_RX2_59 gk_X1_parts gr_X1_parts dX2_hasName_34 (c_X1_parts (d := d - 1) hF hA hW.1 (j := j) (by omega) (by omega) hK) (gFsh hF) (gFlt hF) (by decide) rfl rfl rfl (Nat.le_of_ble_eq_true rfl) (by show _ ≤ d; omega) ⟨Nat.le_refl _, Nat.le_refl _⟩ (fun e42 μ' hc => ?_)
      obtain ⟨rfl, rfl⟩ := hc
      refine gg_toI (b := 3) (by rw [hk]; rfl) ?_
      refine gg_icmp_ge_f (tgt := 72) dX2_hasName_37 (by decide) (by decide) (by decide) ?_
      refine gg_iload dX2_hasName_40 1 rfl ?_
      refine gg_if_ne_f (tgt := 59) dX2_hasName_42 (by decide) (by decide) (by decide) ?_
      refine gg_aload_n dX2_hasName_45 2 rfl ?_
      refine gg_aload_n dX2_hasName_46 3 rfl ?_
      refine gg_iload_n dX2_hasName_47 4 rfl ?_
      refine gg_iload dX2_hasName_48 0 rfl ?_
      refine gg_callVi (own := RX2) (yt := gm_X1_part) rfl gl_RX2_52 gk_X1_part gr_X1_part dX2_hasName_50 (c_X1_part1 (d := d - 1) hF hA hW.1 (j := j) (hc1 (by rw [hk]; decide)) hj (by omega)) (gFsh hF) (gFlt hF) (by decide) rfl rfl rfl (Nat.le_of_ble_eq_true rfl) (by show _ ≤ d; omega) ⟨Nat.le_refl _, Nat.le_refl _⟩ (fun e43 μ' hc => ?_)
      obtain ⟨rfl, rfl⟩ := hc
      refine gg_callVi (own := RX2) (yt := gm_X2_namedAt) rfl gl_RX2_69 gk_X2_namedAt gr_X2_namedAt dX2_hasName_53 (c_X2_namedAt (d := d - 1) (k := gPt Z j 1) (P := gHn K N Z nm (gPt Z j 1)) (by have := hc2 (by rw [hk]; decide); omega) (hN _ (by first | omega | exact gPt_gt Z j _) (hc2 (by rw [hk]; decide)))) sh_38 pl_38 (by decide) rfl rfl rfl (Nat.le_of_ble_eq_true rfl) (by show _ ≤ d; omega) ⟨Nat.le_refl _, Nat.le_refl _⟩ (fun e44 μ' hc => ?_)
      obtain ⟨rfl, ⟨rfl, hn2⟩ | ⟨rfl, hn2⟩⟩ := hc
      · refine gg_if_eq_f (tgt := 63) dX2_hasName_56 (by decide) (by decide) (by decide) ?_
        refine gg_iconst dX2_hasName_59 ?_
        refine gg_goto (tgt := 64) dX2_hasName_60 (by decide) ?_
        refine gg_istore (ls' := [(4, .int (iv 1)), (5, .int (iv 1)), (0, .ref (gad (gSS ad) 38)), (1, .ref (gad (gSS ad) a)), (2, .int (iv (j : Int))), (3, .int (iv (nm : Int)))]) dX2_hasName_64 (by decide) rfl ?_
        refine gg_iincv (ls' := [(5, .int (iv 2)), (4, .int (iv 1)), (0, .ref (gad (gSS ad) 38)), (1, .ref (gad (gSS ad) a)), (2, .int (iv (j : Int))), (3, .int (iv (nm : Int)))]) dX2_hasName_66 1 rfl rfl (by decide) rfl ?_
        refine gg_goto (tgt := 30) dX2_hasName_69 (by decide) ?_
        refine gg_iload dX2_hasName_30 0 rfl ?_
        refine gg_aload_n dX2_hasName_32 3 rfl ?_
        refine gg_iload_n dX2_hasName_33 4 rfl ?_
        refine gg_callVi (own := RX2) (yt := gm_X1_parts) rfl gl_RX2_59 gk_X1_parts gr_X1_parts dX2_hasName_34 (c_X1_parts (d := d - 1) hF hA hW.1 (j := j) (by omega) (by omega) hK) (gFsh hF) (gFlt hF) (by decide) rfl rfl rfl (Nat.le_of_ble_eq_true rfl) (by show _ ≤ d; omega) ⟨Nat.le_refl _, Nat.le_refl _⟩ (fun e45 μ' hc => ?_)
        obtain ⟨rfl, rfl⟩ := hc
        refine gg_toI (b := 3) (by rw [hk]; rfl) ?_
        refine gg_icmp_ge_f (tgt := 72) dX2_hasName_37 (by decide) (by decide) (by decide) ?_
        refine gg_iload dX2_hasName_40 1 rfl ?_
        refine gg_if_ne_t (tgt := 59) dX2_hasName_42 (by decide) (by decide) (by decide) ?_
        refine gg_iconst dX2_hasName_59 ?_
        refine gg_goto (tgt := 64) dX2_hasName_60 (by decide) ?_
        refine gg_istore (ls' := [(4, .int (iv 1)), (5, .int (iv 2)), (0, .ref (gad (gSS ad) 38)), (1, .ref (gad (gSS ad) a)), (2, .int (iv (j : Int))), (3, .int (iv (nm : Int)))]) dX2_hasName_64 (by decide) rfl ?_
        refine gg_iincv (ls' := [(5, .int (iv 3)), (4, .int (iv 1)), (0, .ref (gad (gSS ad) 38)), (1, .ref (gad (gSS ad) a)), (2, .int (iv (j : Int))), (3, .int (iv (nm : Int)))]) dX2_hasName_66 1 rfl rfl (by decide) rfl ?_
        refine gg_goto (tgt := 30) dX2_hasName_69 (by decide) ?_
        refine gg_iload dX2_hasName_30 0 rfl ?_
        refine gg_aload_n dX2_hasName_32 3 rfl ?_
        refine gg_iload_n dX2_hasName_33 4 rfl ?_
        refine gg_callVi (own := RX2) (yt := gm_X1_parts) rfl gl_RX2_59 gk_X1_parts gr_X1_parts dX2_hasName_34 (c_X1_parts (d := d - 1) hF hA hW.1 (j := j) (by omega) (by omega) hK) (gFsh hF) (gFlt hF) (by decide) rfl rfl rfl (Nat.le_of_ble_eq_true rfl) (by show _ ≤ d; omega) ⟨Nat.le_refl _, Nat.le_refl _⟩ (fun e46 μ' hc => ?_)
        obtain ⟨rfl, rfl⟩ := hc
        refine gg_toI (b := 3) (by rw [hk]; rfl) ?_
        refine gg_icmp_ge_t (tgt := 72) dX2_hasName_37 (by decide) (by decide) (by decide) ?_
        refine gg_iload dX2_hasName_72 1 rfl ?_
        refine gg_iretz dX2_hasName_74 rfl (by decide) ⟨rfl, rfl⟩ ?_
        refine ⟨rfl, Or.inl ⟨rfl, ?_⟩⟩
        rw [gHn_rec hW hj, hk]
        simp only [show gPar 6 = 3 from rfl]
        first | simp [hn1, hn2, hn3] | simp [hn1, hn2] | simp [hn1] | simp [hne] | simp
      · refine gg_if_eq_t (tgt := 63) dX2_hasName_56 (by decide) (by decide) (by decide) ?_
        refine gg_iconst dX2_hasName_63 ?_
        refine gg_istore (ls' := [(4, .int (iv 0)), (5, .int (iv 1)), (0, .ref (gad (gSS ad) 38)), (1, .ref (gad (gSS ad) a)), (2, .int (iv (j : Int))), (3, .int (iv (nm : Int)))]) dX2_hasName_64 (by decide) rfl ?_
        refine gg_iincv (ls' := [(5, .int (iv 2)), (4, .int (iv 0)), (0, .ref (gad (gSS ad) 38)), (1, .ref (gad (gSS ad) a)), (2, .int (iv (j : Int))), (3, .int (iv (nm : Int)))]) dX2_hasName_66 1 rfl rfl (by decide) rfl ?_
        refine gg_goto (tgt := 30) dX2_hasName_69 (by decide) ?_
        refine gg_iload dX2_hasName_30 0 rfl ?_
        refine gg_aload_n dX2_hasName_32 3 rfl ?_
        refine gg_iload_n dX2_hasName_33 4 rfl ?_
        refine gg_callVi (own := RX2) (yt := gm_X1_parts) rfl gl_RX2_59 gk_X1_parts gr_X1_parts dX2_hasName_34 (c_X1_parts (d := d - 1) hF hA hW.1 (j := j) (by omega) (by omega) hK) (gFsh hF) (gFlt hF) (by decide) rfl rfl rfl (Nat.le_of_ble_eq_true rfl) (by show _ ≤ d; omega) ⟨Nat.le_refl _, Nat.le_refl _⟩ (fun e47 μ' hc => ?_)
        obtain ⟨rfl, rfl⟩ := hc
        refine gg_toI (b := 3) (by rw [hk]; rfl) ?_
        refine gg_icmp_ge_f (tgt := 72) dX2_hasName_37 (by decide) (by decide) (by decide) ?_
        refine gg_iload dX2_hasName_40 1 rfl ?_
        refine gg_if_ne_f (tgt := 59) dX2_hasName_42 (by decide) (by decide) (by decide) ?_
        refine gg_aload_n dX2_hasName_45 2 rfl ?_
        refine gg_aload_n dX2_hasName_46 3 rfl ?_
        refine gg_iload_n dX2_hasName_47 4 rfl ?_
        refine gg_iload dX2_hasName_48 0 rfl ?_
        refine gg_callVi (own := RX2) (yt := gm_X1_part) rfl gl_RX2_52 gk_X1_part gr_X1_part dX2_hasName_50 (c_X1_part2 (d := d - 1) hF hA hW.1 (j := j) (hc1 (by rw [hk]; decide)) (hc2 (by rw [hk]; decide)) hj (by omega)) (gFsh hF) (gFlt hF) (by decide) rfl rfl rfl (Nat.le_of_ble_eq_true rfl) (by show _ ≤ d; omega) ⟨Nat.le_refl _, Nat.le_refl _⟩ (fun e48 μ' hc => ?_)
        obtain ⟨rfl, rfl⟩ := hc
        refine gg_callVi (own := RX2) (yt := gm_X2_namedAt) rfl gl_RX2_69 gk_X2_namedAt gr_X2_namedAt dX2_hasName_53 (c_X2_namedAt (d := d - 1) (k := gPt Z j 2) (P := gHn K N Z nm (gPt Z j 2)) (by have := hc3 (by rw [hk]; decide); omega) (hN _ (by first | omega | exact gPt_gt Z j _) (hc3 (by rw [hk]; decide)))) sh_38 pl_38 (by decide) rfl rfl rfl (Nat.le_of_ble_eq_true rfl) (by show _ ≤ d; omega) ⟨Nat.le_refl _, Nat.le_refl _⟩ (fun e49 μ' hc => ?_)
        obtain ⟨rfl, ⟨rfl, hn3⟩ | ⟨rfl, hn3⟩⟩ := hc
        · refine gg_if_eq_f (tgt := 63) dX2_hasName_56 (by decide) (by decide) (by decide) ?_
          refine gg_iconst dX2_hasName_59 ?_
          refine gg_goto (tgt := 64) dX2_hasName_60 (by decide) ?_
          refine gg_istore (ls' := [(4, .int (iv 1)), (5, .int (iv 2)), (0, .ref (gad (gSS ad) 38)), (1, .ref (gad (gSS ad) a)), (2, .int (iv (j : Int))), (3, .int (iv (nm : Int)))]) dX2_hasName_64 (by decide) rfl ?_
          refine gg_iincv (ls' := [(5, .int (iv 3)), (4, .int (iv 1)), (0, .ref (gad (gSS ad) 38)), (1, .ref (gad (gSS ad) a)), (2, .int (iv (j : Int))), (3, .int (iv (nm : Int)))]) dX2_hasName_66 1 rfl rfl (by decide) rfl ?_
          refine gg_goto (tgt := 30) dX2_hasName_69 (by decide) ?_
          refine gg_iload dX2_hasName_30 0 rfl ?_
          refine gg_aload_n dX2_hasName_32 3 rfl ?_
          refine gg_iload_n dX2_hasName_33 4 rfl ?_
          refine gg_callVi (own := RX2) (yt := gm_X1_parts) rfl gl_RX2_59 gk_X1_parts gr_X1_parts dX2_hasName_34 (c_X1_parts (d := d - 1) hF hA hW.1 (j := j) (by omega) (by omega) hK) (gFsh hF) (gFlt hF) (by decide) rfl rfl rfl (Nat.le_of_ble_eq_true rfl) (by show _ ≤ d; omega) ⟨Nat.le_refl _, Nat.le_refl _⟩ (fun e50 μ' hc => ?_)
          obtain ⟨rfl, rfl⟩ := hc
          refine gg_toI (b := 3) (by rw [hk]; rfl) ?_
          refine gg_icmp_ge_t (tgt := 72) dX2_hasName_37 (by decide) (by decide) (by decide) ?_
          refine gg_iload dX2_hasName_72 1 rfl ?_
          refine gg_iretz dX2_hasName_74 rfl (by decide) ⟨rfl, rfl⟩ ?_
          refine ⟨rfl, Or.inl ⟨rfl, ?_⟩⟩
          rw [gHn_rec hW hj, hk]
          simp only [show gPar 6 = 3 from rfl]
          first | simp [hn1, hn2, hn3] | simp [hn1, hn2] | simp [hn1] | simp [hne] | simp
        · refine gg_if_eq_t (tgt := 63) dX2_hasName_56 (by decide) (by decide) (by decide) ?_
          refine gg_iconst dX2_hasName_63 ?_
          refine gg_istore (ls' := [(4, .int (iv 0)), (5, .int (iv 2)), (0, .ref (gad (gSS ad) 38)), (1, .ref (gad (gSS ad) a)), (2, .int (iv (j : Int))), (3, .int (iv (nm : Int)))]) dX2_hasName_64 (by decide) rfl ?_
          refine gg_iincv (ls' := [(5, .int (iv 3)), (4, .int (iv 0)), (0, .ref (gad (gSS ad) 38)), (1, .ref (gad (gSS ad) a)), (2, .int (iv (j : Int))), (3, .int (iv (nm : Int)))]) dX2_hasName_66 1 rfl rfl (by decide) rfl ?_
          refine gg_goto (tgt := 30) dX2_hasName_69 (by decide) ?_
          refine gg_iload dX2_hasName_30 0 rfl ?_
          refine gg_aload_n dX2_hasName_32 3 rfl ?_
          refine gg_iload_n dX2_hasName_33 4 rfl ?_
          refine gg_callVi (own := RX2) (yt := gm_X1_parts) rfl gl_RX2_59 gk_X1_parts gr_X1_parts dX2_hasName_34 (c_X1_parts (d := d - 1) hF hA hW.1 (j := j) (by omega) (by omega) hK) (gFsh hF) (gFlt hF) (by decide) rfl rfl rfl (Nat.le_of_ble_eq_true rfl) (by show _ ≤ d; omega) ⟨Nat.le_refl _, Nat.le_refl _⟩ (fun e51 μ' hc => ?_)
          obtain ⟨rfl, rfl⟩ := hc
          refine gg_toI (b := 3) (by rw [hk]; rfl) ?_
          refine gg_icmp_ge_t (tgt := 72) dX2_hasName_37 (by decide) (by decide) (by decide) ?_
          refine gg_iload dX2_hasName_72 1 rfl ?_
          refine gg_iretz dX2_hasName_74 rfl (by decide) ⟨rfl, rfl⟩ ?_
          refine ⟨rfl, Or.inr ⟨rfl, ?_⟩⟩
          rw [gHn_rec hW hj, hk]
          simp only [show gPar 6 = 3 from rfl]
          first | simp [hn1, hn2, hn3] | simp [hn1, hn2] | simp [hn1] | simp [hne] | simp
  · refine gg_toI (b := 7) (by omega) ?_
    refine gg_iconst dX2_hasName_5 ?_
    refine gg_icmp_ne_t (tgt := 24) dX2_hasName_6 (by decide) (by decide) (by decide) ?_
    refine gg_iconst dX2_hasName_24 ?_
    refine gg_istore (ls' := [(4, .int (iv 0)), (0, .ref (gad (gSS ad) 38)), (1, .ref (gad (gSS ad) a)), (2, .int (iv (j : Int))), (3, .int (iv (nm : Int)))]) dX2_hasName_25 (by decide) rfl ?_
    refine gg_iconst dX2_hasName_27 ?_
    refine gg_istore (ls' := [(5, .int (iv 0)), (4, .int (iv 0)), (0, .ref (gad (gSS ad) 38)), (1, .ref (gad (gSS ad) a)), (2, .int (iv (j : Int))), (3, .int (iv (nm : Int)))]) dX2_hasName_28 (by decide) rfl ?_
    refine gg_iload dX2_hasName_30 0 rfl ?_
    refine gg_aload_n dX2_hasName_32 3 rfl ?_
    refine gg_iload_n dX2_hasName_33 4 rfl ?_
    refine gg_callVi (own := RX2) (yt := gm_X1_parts) rfl gl_RX2_59 gk_X1_parts gr_X1_parts dX2_hasName_34 (c_X1_parts (d := d - 1) hF hA hW.1 (j := j) (by omega) (by omega) hK) (gFsh hF) (gFlt hF) (by decide) rfl rfl rfl (Nat.le_of_ble_eq_true rfl) (by show _ ≤ d; omega) ⟨Nat.le_refl _, Nat.le_refl _⟩ (fun e52 μ' hc => ?_)
    obtain ⟨rfl, rfl⟩ := hc
    refine gg_toI (b := 1) (by rw [hk]; rfl) ?_
    refine gg_icmp_ge_f (tgt := 72) dX2_hasName_37 (by decide) (by decide) (by decide) ?_
    refine gg_iload dX2_hasName_40 1 rfl ?_
    refine gg_if_ne_f (tgt := 59) dX2_hasName_42 (by decide) (by decide) (by decide) ?_
    refine gg_aload_n dX2_hasName_45 2 rfl ?_
    refine gg_aload_n dX2_hasName_46 3 rfl ?_
    refine gg_iload_n dX2_hasName_47 4 rfl ?_
    refine gg_iload dX2_hasName_48 0 rfl ?_
    refine gg_callVi (own := RX2) (yt := gm_X1_part) rfl gl_RX2_52 gk_X1_part gr_X1_part dX2_hasName_50 (c_X1_part0 (d := d - 1) hF hA hW.1 (j := j) hj (by omega)) (gFsh hF) (gFlt hF) (by decide) rfl rfl rfl (Nat.le_of_ble_eq_true rfl) (by show _ ≤ d; omega) ⟨Nat.le_refl _, Nat.le_refl _⟩ (fun e53 μ' hc => ?_)
    obtain ⟨rfl, rfl⟩ := hc
    refine gg_callVi (own := RX2) (yt := gm_X2_namedAt) rfl gl_RX2_69 gk_X2_namedAt gr_X2_namedAt dX2_hasName_53 (c_X2_namedAt (d := d - 1) (k := j + 1) (P := gHn K N Z nm (j + 1)) (by have := hc1 (by rw [hk]; decide); omega) (hN _ (by first | omega | exact gPt_gt Z j _) (hc1 (by rw [hk]; decide)))) sh_38 pl_38 (by decide) rfl rfl rfl (Nat.le_of_ble_eq_true rfl) (by show _ ≤ d; omega) ⟨Nat.le_refl _, Nat.le_refl _⟩ (fun e54 μ' hc => ?_)
    obtain ⟨rfl, ⟨rfl, hn1⟩ | ⟨rfl, hn1⟩⟩ := hc
    · refine gg_if_eq_f (tgt := 63) dX2_hasName_56 (by decide) (by decide) (by decide) ?_
      refine gg_iconst dX2_hasName_59 ?_
      refine gg_goto (tgt := 64) dX2_hasName_60 (by decide) ?_
      refine gg_istore (ls' := [(4, .int (iv 1)), (5, .int (iv 0)), (0, .ref (gad (gSS ad) 38)), (1, .ref (gad (gSS ad) a)), (2, .int (iv (j : Int))), (3, .int (iv (nm : Int)))]) dX2_hasName_64 (by decide) rfl ?_
      refine gg_iincv (ls' := [(5, .int (iv 1)), (4, .int (iv 1)), (0, .ref (gad (gSS ad) 38)), (1, .ref (gad (gSS ad) a)), (2, .int (iv (j : Int))), (3, .int (iv (nm : Int)))]) dX2_hasName_66 1 rfl rfl (by decide) rfl ?_
      refine gg_goto (tgt := 30) dX2_hasName_69 (by decide) ?_
      refine gg_iload dX2_hasName_30 0 rfl ?_
      refine gg_aload_n dX2_hasName_32 3 rfl ?_
      refine gg_iload_n dX2_hasName_33 4 rfl ?_
      refine gg_callVi (own := RX2) (yt := gm_X1_parts) rfl gl_RX2_59 gk_X1_parts gr_X1_parts dX2_hasName_34 (c_X1_parts (d := d - 1) hF hA hW.1 (j := j) (by omega) (by omega) hK) (gFsh hF) (gFlt hF) (by decide) rfl rfl rfl (Nat.le_of_ble_eq_true rfl) (by show _ ≤ d; omega) ⟨Nat.le_refl _, Nat.le_refl _⟩ (fun e55 μ' hc => ?_)
      obtain ⟨rfl, rfl⟩ := hc
      refine gg_toI (b := 1) (by rw [hk]; rfl) ?_
      refine gg_icmp_ge_t (tgt := 72) dX2_hasName_37 (by decide) (by decide) (by decide) ?_
      refine gg_iload dX2_hasName_72 1 rfl ?_
      refine gg_iretz dX2_hasName_74 rfl (by decide) ⟨rfl, rfl⟩ ?_
      refine ⟨rfl, Or.inl ⟨rfl, ?_⟩⟩
      rw [gHn_rec hW hj, hk]
      simp only [show gPar 7 = 1 from rfl]
      first | simp [hn1, hn2, hn3] | simp [hn1, hn2] | simp [hn1] | simp [hne] | simp
    · refine gg_if_eq_t (tgt := 63) dX2_hasName_56 (by decide) (by decide) (by decide) ?_
      refine gg_iconst dX2_hasName_63 ?_
      refine gg_istore (ls' := [(4, .int (iv 0)), (5, .int (iv 0)), (0, .ref (gad (gSS ad) 38)), (1, .ref (gad (gSS ad) a)), (2, .int (iv (j : Int))), (3, .int (iv (nm : Int)))]) dX2_hasName_64 (by decide) rfl ?_
      refine gg_iincv (ls' := [(5, .int (iv 1)), (4, .int (iv 0)), (0, .ref (gad (gSS ad) 38)), (1, .ref (gad (gSS ad) a)), (2, .int (iv (j : Int))), (3, .int (iv (nm : Int)))]) dX2_hasName_66 1 rfl rfl (by decide) rfl ?_
      refine gg_goto (tgt := 30) dX2_hasName_69 (by decide) ?_
      refine gg_iload dX2_hasName_30 0 rfl ?_
      refine gg_aload_n dX2_hasName_32 3 rfl ?_
      refine gg_iload_n dX2_hasName_33 4 rfl ?_
      refine gg_callVi (own := RX2) (yt := gm_X1_parts) rfl gl_RX2_59 gk_X1_parts gr_X1_parts dX2_hasName_34 (c_X1_parts (d := d - 1) hF hA hW.1 (j := j) (by omega) (by omega) hK) (gFsh hF) (gFlt hF) (by decide) rfl rfl rfl (Nat.le_of_ble_eq_true rfl) (by show _ ≤ d; omega) ⟨Nat.le_refl _, Nat.le_refl _⟩ (fun e56 μ' hc => ?_)
      obtain ⟨rfl, rfl⟩ := hc
      refine gg_toI (b := 1) (by rw [hk]; rfl) ?_
      refine gg_icmp_ge_t (tgt := 72) dX2_hasName_37 (by decide) (by decide) (by decide) ?_
      refine gg_iload dX2_hasName_72 1 rfl ?_
      refine gg_iretz dX2_hasName_74 rfl (by decide) ⟨rfl, rfl⟩ ?_
      refine ⟨rfl, Or.inr ⟨rfl, ?_⟩⟩
      rw [gHn_rec hW hj, hk]
      simp only [show gPar 7 = 1 from rfl]
      first | simp [hn1, hn2, hn3] | simp [hn1, hn2] | simp [hn1] | simp [hne] | simp

set_option maxRecDepth 10000 in
theorem c_X2_hasNoneOf {l : Launch} {Γ : gC} {ad : Nat → Nat} {I : Nat → Nat → Int} {J : Nat → Nat → Int64} {d : Nat} {a n : Nat} {K : Nat → Nat} {N : Nat → Int64} {Z : Nat → Nat} (hF : gF a) (hA : gAt I J a n K N Z) (hW : gWf n K N Z) {nm j : Nat} (hj : j < n) (ht : ∀ t, j < t → t < n → I 39 t = gGc n nm K N Z t) (hd : 3 ≤ d) : gKi l Γ gm_X2_hasNoneOf d [.ref (gad (gSS ad) 38), .ref (gad (gSS ad) a), .int (iv (j : Int))] (gSS ad, I, J) (fun e μ => μ = (gSS ad, I, J) ∧ ((e = 1 ∧ gNn K Z (gGc n nm K N Z) j) ∨ (e = 0 ∧ ¬ gNn K Z (gGc n nm K N Z) j))) := by
  refine gKi_of gk_X2_hasNoneOf.1 (Nat.le_of_ble_eq_true rfl) ?_
  show gG l Γ gm_X2_hasNoneOf (d, 0, 0, 0, 0) 0 [(0, .ref (gad (gSS ad) 38)), (1, .ref (gad (gSS ad) a)), (2, .int (iv (j : Int)))] [] _ _
  obtain ⟨hK, hZ1, hZ2, he0, he1, he2, he3, hc1, hc2, hc3, hnm, hpw, hz⟩ := hW.2.2 j hj
  have hn := hW.1
  clear hnm hpw hz
  have hp3 := gPar3 hK
  refine gg_iconst dX2_hasNoneOf_0 ?_
  refine gg_istore_n (ls' := [(3, .int (iv 0)), (0, .ref (gad (gSS ad) 38)), (1, .ref (gad (gSS ad) a)), (2, .int (iv (j : Int)))]) dX2_hasNoneOf_1 rfl (by decide) rfl ?_
  refine gg_iload_n dX2_hasNoneOf_2 0 rfl ?_
  refine gg_aload_n dX2_hasNoneOf_3 2 rfl ?_
  refine gg_iload_n dX2_hasNoneOf_4 3 rfl ?_
  refine gg_callVi (own := RX2) (yt := gm_X1_parts) rfl gl_RX2_59 gk_X1_parts gr_X1_parts dX2_hasNoneOf_5 (c_X1_parts (d := d - 1) hF hA hW.1 (j := j) (by omega) (by omega) hK) (gFsh hF) (gFlt hF) (by decide) rfl rfl rfl (Nat.le_of_ble_eq_true rfl) (by show _ ≤ d; omega) ⟨Nat.le_refl _, Nat.le_refl _⟩ (fun e1 μ' hc => ?_)
  obtain ⟨rfl, rfl⟩ := hc
  obtain hk | hk | hk | hk := (by omega : gPar (K j) = 0 ∨ gPar (K j) = 1 ∨ gPar (K j) = 2 ∨ gPar (K j) = 3)
  · refine gg_toI (b := 0) (by omega) ?_
    refine gg_icmp_ge_t (tgt := 33) dX2_hasNoneOf_8 (by decide) (by decide) (by decide) ?_
    refine gg_iconst dX2_hasNoneOf_33 ?_
    refine gg_iretz dX2_hasNoneOf_34 rfl (by decide) ⟨rfl, rfl⟩ ?_
    exact ⟨rfl, Or.inr ⟨rfl, by unfold gNn; omega⟩⟩
  · refine gg_toI (b := 1) (by omega) ?_
    refine gg_icmp_ge_f (tgt := 33) dX2_hasNoneOf_8 (by decide) (by decide) (by decide) ?_
    refine gg_aload_n dX2_hasNoneOf_11 1 rfl ?_
    refine gg_aload_n dX2_hasNoneOf_12 2 rfl ?_
    refine gg_iload_n dX2_hasNoneOf_13 3 rfl ?_
    refine gg_iload_n dX2_hasNoneOf_14 0 rfl ?_
    refine gg_callVi (own := RX2) (yt := gm_X1_part) rfl gl_RX2_52 gk_X1_part gr_X1_part dX2_hasNoneOf_15 (c_X1_part0 (d := d - 1) hF hA hW.1 (j := j) hj (by omega)) (gFsh hF) (gFlt hF) (by decide) rfl rfl rfl (Nat.le_of_ble_eq_true rfl) (by show _ ≤ d; omega) ⟨Nat.le_refl _, Nat.le_refl _⟩ (fun e2 μ' hc => ?_)
    obtain ⟨rfl, rfl⟩ := hc
    refine gg_callVi (own := RX2) (yt := gm_X2_toldOf) rfl gl_RX2_49 gk_X2_toldOf gr_X2_toldOf dX2_hasNoneOf_18 (c_X2_toldOf (d := d - 1) (k := j + 1) (by have := hc1 (by omega); omega)) sh_38 pl_38 (by decide) rfl rfl rfl (Nat.le_of_ble_eq_true rfl) (by show _ ≤ d; omega) ⟨Nat.le_refl _, Nat.le_refl _⟩ (fun e3 μ' hc => ?_)
    obtain ⟨rfl, rfl⟩ := hc
    refine gg_toI (b := gGc n nm K N Z (j + 1)) (by have hlt : j + 1 < n := hc1 (by omega); rw [if_pos (show j + 1 < 200 by omega)]; exact ht _ (by first | omega | exact gPt_gt Z j _) hlt) ?_
    have g1 := gG_rng (nm := nm) hW _ (hc1 (by omega))
    refine gg_iconst dX2_hasNoneOf_21 ?_
    refine gg_icmp_ne (tgt := 27) dX2_hasNoneOf_22 (by decide) (by omega) (fun hv0 => ?_) (fun hv0 => ?_)
    · refine gg_iincv (ls' := [(3, .int (iv 1)), (0, .ref (gad (gSS ad) 38)), (1, .ref (gad (gSS ad) a)), (2, .int (iv (j : Int)))]) dX2_hasNoneOf_27 0 rfl rfl (by decide) rfl ?_
      refine gg_goto (tgt := 2) dX2_hasNoneOf_30 (by decide) ?_
      refine gg_iload_n dX2_hasNoneOf_2 0 rfl ?_
      refine gg_aload_n dX2_hasNoneOf_3 2 rfl ?_
      refine gg_iload_n dX2_hasNoneOf_4 3 rfl ?_
      refine gg_callVi (own := RX2) (yt := gm_X1_parts) rfl gl_RX2_59 gk_X1_parts gr_X1_parts dX2_hasNoneOf_5 (c_X1_parts (d := d - 1) hF hA hW.1 (j := j) (by omega) (by omega) hK) (gFsh hF) (gFlt hF) (by decide) rfl rfl rfl (Nat.le_of_ble_eq_true rfl) (by show _ ≤ d; omega) ⟨Nat.le_refl _, Nat.le_refl _⟩ (fun e4 μ' hc => ?_)
      obtain ⟨rfl, rfl⟩ := hc
      refine gg_toI (b := 1) (by omega) ?_
      refine gg_icmp_ge_t (tgt := 33) dX2_hasNoneOf_8 (by decide) (by decide) (by decide) ?_
      refine gg_iconst dX2_hasNoneOf_33 ?_
      refine gg_iretz dX2_hasNoneOf_34 rfl (by decide) ⟨rfl, rfl⟩ ?_
      exact ⟨rfl, Or.inr ⟨rfl, by unfold gNn; omega⟩⟩
    · refine gg_iconst dX2_hasNoneOf_25 ?_
      refine gg_iretz dX2_hasNoneOf_26 rfl (by decide) ⟨rfl, rfl⟩ ?_
      exact ⟨rfl, Or.inl ⟨rfl, by unfold gNn; omega⟩⟩
  · refine gg_toI (b := 2) (by omega) ?_
    refine gg_icmp_ge_f (tgt := 33) dX2_hasNoneOf_8 (by decide) (by decide) (by decide) ?_
    refine gg_aload_n dX2_hasNoneOf_11 1 rfl ?_
    refine gg_aload_n dX2_hasNoneOf_12 2 rfl ?_
    refine gg_iload_n dX2_hasNoneOf_13 3 rfl ?_
    refine gg_iload_n dX2_hasNoneOf_14 0 rfl ?_
    refine gg_callVi (own := RX2) (yt := gm_X1_part) rfl gl_RX2_52 gk_X1_part gr_X1_part dX2_hasNoneOf_15 (c_X1_part0 (d := d - 1) hF hA hW.1 (j := j) hj (by omega)) (gFsh hF) (gFlt hF) (by decide) rfl rfl rfl (Nat.le_of_ble_eq_true rfl) (by show _ ≤ d; omega) ⟨Nat.le_refl _, Nat.le_refl _⟩ (fun e5 μ' hc => ?_)
    obtain ⟨rfl, rfl⟩ := hc
    refine gg_callVi (own := RX2) (yt := gm_X2_toldOf) rfl gl_RX2_49 gk_X2_toldOf gr_X2_toldOf dX2_hasNoneOf_18 (c_X2_toldOf (d := d - 1) (k := j + 1) (by have := hc1 (by omega); omega)) sh_38 pl_38 (by decide) rfl rfl rfl (Nat.le_of_ble_eq_true rfl) (by show _ ≤ d; omega) ⟨Nat.le_refl _, Nat.le_refl _⟩ (fun e6 μ' hc => ?_)
    obtain ⟨rfl, rfl⟩ := hc
    refine gg_toI (b := gGc n nm K N Z (j + 1)) (by have hlt : j + 1 < n := hc1 (by omega); rw [if_pos (show j + 1 < 200 by omega)]; exact ht _ (by first | omega | exact gPt_gt Z j _) hlt) ?_
    have g1 := gG_rng (nm := nm) hW _ (hc1 (by omega))
    refine gg_iconst dX2_hasNoneOf_21 ?_
    refine gg_icmp_ne (tgt := 27) dX2_hasNoneOf_22 (by decide) (by omega) (fun hv0 => ?_) (fun hv0 => ?_)
    · refine gg_iincv (ls' := [(3, .int (iv 1)), (0, .ref (gad (gSS ad) 38)), (1, .ref (gad (gSS ad) a)), (2, .int (iv (j : Int)))]) dX2_hasNoneOf_27 0 rfl rfl (by decide) rfl ?_
      refine gg_goto (tgt := 2) dX2_hasNoneOf_30 (by decide) ?_
      refine gg_iload_n dX2_hasNoneOf_2 0 rfl ?_
      refine gg_aload_n dX2_hasNoneOf_3 2 rfl ?_
      refine gg_iload_n dX2_hasNoneOf_4 3 rfl ?_
      refine gg_callVi (own := RX2) (yt := gm_X1_parts) rfl gl_RX2_59 gk_X1_parts gr_X1_parts dX2_hasNoneOf_5 (c_X1_parts (d := d - 1) hF hA hW.1 (j := j) (by omega) (by omega) hK) (gFsh hF) (gFlt hF) (by decide) rfl rfl rfl (Nat.le_of_ble_eq_true rfl) (by show _ ≤ d; omega) ⟨Nat.le_refl _, Nat.le_refl _⟩ (fun e7 μ' hc => ?_)
      obtain ⟨rfl, rfl⟩ := hc
      refine gg_toI (b := 2) (by omega) ?_
      refine gg_icmp_ge_f (tgt := 33) dX2_hasNoneOf_8 (by decide) (by decide) (by decide) ?_
      refine gg_aload_n dX2_hasNoneOf_11 1 rfl ?_
      refine gg_aload_n dX2_hasNoneOf_12 2 rfl ?_
      refine gg_iload_n dX2_hasNoneOf_13 3 rfl ?_
      refine gg_iload_n dX2_hasNoneOf_14 0 rfl ?_
      refine gg_callVi (own := RX2) (yt := gm_X1_part) rfl gl_RX2_52 gk_X1_part gr_X1_part dX2_hasNoneOf_15 (c_X1_part1 (d := d - 1) hF hA hW.1 (j := j) (hc1 (by omega)) hj (by omega)) (gFsh hF) (gFlt hF) (by decide) rfl rfl rfl (Nat.le_of_ble_eq_true rfl) (by show _ ≤ d; omega) ⟨Nat.le_refl _, Nat.le_refl _⟩ (fun e8 μ' hc => ?_)
      obtain ⟨rfl, rfl⟩ := hc
      refine gg_callVi (own := RX2) (yt := gm_X2_toldOf) rfl gl_RX2_49 gk_X2_toldOf gr_X2_toldOf dX2_hasNoneOf_18 (c_X2_toldOf (d := d - 1) (k := gPt Z j 1) (by have := hc2 (by omega); omega)) sh_38 pl_38 (by decide) rfl rfl rfl (Nat.le_of_ble_eq_true rfl) (by show _ ≤ d; omega) ⟨Nat.le_refl _, Nat.le_refl _⟩ (fun e9 μ' hc => ?_)
      obtain ⟨rfl, rfl⟩ := hc
      refine gg_toI (b := gGc n nm K N Z (gPt Z j 1)) (by have hlt : gPt Z j 1 < n := hc2 (by omega); rw [if_pos (show gPt Z j 1 < 200 by omega)]; exact ht _ (by first | omega | exact gPt_gt Z j _) hlt) ?_
      have g2 := gG_rng (nm := nm) hW _ (hc2 (by omega))
      refine gg_iconst dX2_hasNoneOf_21 ?_
      refine gg_icmp_ne (tgt := 27) dX2_hasNoneOf_22 (by decide) (by omega) (fun hv1 => ?_) (fun hv1 => ?_)
      · refine gg_iincv (ls' := [(3, .int (iv 2)), (0, .ref (gad (gSS ad) 38)), (1, .ref (gad (gSS ad) a)), (2, .int (iv (j : Int)))]) dX2_hasNoneOf_27 0 rfl rfl (by decide) rfl ?_
        refine gg_goto (tgt := 2) dX2_hasNoneOf_30 (by decide) ?_
        refine gg_iload_n dX2_hasNoneOf_2 0 rfl ?_
        refine gg_aload_n dX2_hasNoneOf_3 2 rfl ?_
        refine gg_iload_n dX2_hasNoneOf_4 3 rfl ?_
        refine gg_callVi (own := RX2) (yt := gm_X1_parts) rfl gl_RX2_59 gk_X1_parts gr_X1_parts dX2_hasNoneOf_5 (c_X1_parts (d := d - 1) hF hA hW.1 (j := j) (by omega) (by omega) hK) (gFsh hF) (gFlt hF) (by decide) rfl rfl rfl (Nat.le_of_ble_eq_true rfl) (by show _ ≤ d; omega) ⟨Nat.le_refl _, Nat.le_refl _⟩ (fun e10 μ' hc => ?_)
        obtain ⟨rfl, rfl⟩ := hc
        refine gg_toI (b := 2) (by omega) ?_
        refine gg_icmp_ge_t (tgt := 33) dX2_hasNoneOf_8 (by decide) (by decide) (by decide) ?_
        refine gg_iconst dX2_hasNoneOf_33 ?_
        refine gg_iretz dX2_hasNoneOf_34 rfl (by decide) ⟨rfl, rfl⟩ ?_
        exact ⟨rfl, Or.inr ⟨rfl, by unfold gNn; omega⟩⟩
      · refine gg_iconst dX2_hasNoneOf_25 ?_
        refine gg_iretz dX2_hasNoneOf_26 rfl (by decide) ⟨rfl, rfl⟩ ?_
        exact ⟨rfl, Or.inl ⟨rfl, by unfold gNn; omega⟩⟩
    · refine gg_iconst dX2_hasNoneOf_25 ?_
      refine gg_iretz dX2_hasNoneOf_26 rfl (by decide) ⟨rfl, rfl⟩ ?_
      exact ⟨rfl, Or.inl ⟨rfl, by unfold gNn; omega⟩⟩
  · refine gg_toI (b := 3) (by omega) ?_
    refine gg_icmp_ge_f (tgt := 33) dX2_hasNoneOf_8 (by decide) (by decide) (by decide) ?_
    refine gg_aload_n dX2_hasNoneOf_11 1 rfl ?_
    refine gg_aload_n dX2_hasNoneOf_12 2 rfl ?_
    refine gg_iload_n dX2_hasNoneOf_13 3 rfl ?_
    refine gg_iload_n dX2_hasNoneOf_14 0 rfl ?_
    refine gg_callVi (own := RX2) (yt := gm_X1_part) rfl gl_RX2_52 gk_X1_part gr_X1_part dX2_hasNoneOf_15 (c_X1_part0 (d := d - 1) hF hA hW.1 (j := j) hj (by omega)) (gFsh hF) (gFlt hF) (by decide) rfl rfl rfl (Nat.le_of_ble_eq_true rfl) (by show _ ≤ d; omega) ⟨Nat.le_refl _, Nat.le_refl _⟩ (fun e11 μ' hc => ?_)
    obtain ⟨rfl, rfl⟩ := hc
    refine gg_callVi (own := RX2) (yt := gm_X2_toldOf) rfl gl_RX2_49 gk_X2_toldOf gr_X2_toldOf dX2_hasNoneOf_18 (c_X2_toldOf (d := d - 1) (k := j + 1) (by have := hc1 (by omega); omega)) sh_38 pl_38 (by decide) rfl rfl rfl (Nat.le_of_ble_eq_true rfl) (by show _ ≤ d; omega) ⟨Nat.le_refl _, Nat.le_refl _⟩ (fun e12 μ' hc => ?_)
    obtain ⟨rfl, rfl⟩ := hc
    refine gg_toI (b := gGc n nm K N Z (j + 1)) (by have hlt : j + 1 < n := hc1 (by omega); rw [if_pos (show j + 1 < 200 by omega)]; exact ht _ (by first | omega | exact gPt_gt Z j _) hlt) ?_
    have g1 := gG_rng (nm := nm) hW _ (hc1 (by omega))
    refine gg_iconst dX2_hasNoneOf_21 ?_
    refine gg_icmp_ne (tgt := 27) dX2_hasNoneOf_22 (by decide) (by omega) (fun hv0 => ?_) (fun hv0 => ?_)
    · refine gg_iincv (ls' := [(3, .int (iv 1)), (0, .ref (gad (gSS ad) 38)), (1, .ref (gad (gSS ad) a)), (2, .int (iv (j : Int)))]) dX2_hasNoneOf_27 0 rfl rfl (by decide) rfl ?_
      refine gg_goto (tgt := 2) dX2_hasNoneOf_30 (by decide) ?_
      refine gg_iload_n dX2_hasNoneOf_2 0 rfl ?_
      refine gg_aload_n dX2_hasNoneOf_3 2 rfl ?_
      refine gg_iload_n dX2_hasNoneOf_4 3 rfl ?_
      refine gg_callVi (own := RX2) (yt := gm_X1_parts) rfl gl_RX2_59 gk_X1_parts gr_X1_parts dX2_hasNoneOf_5 (c_X1_parts (d := d - 1) hF hA hW.1 (j := j) (by omega) (by omega) hK) (gFsh hF) (gFlt hF) (by decide) rfl rfl rfl (Nat.le_of_ble_eq_true rfl) (by show _ ≤ d; omega) ⟨Nat.le_refl _, Nat.le_refl _⟩ (fun e13 μ' hc => ?_)
      obtain ⟨rfl, rfl⟩ := hc
      refine gg_toI (b := 3) (by omega) ?_
      refine gg_icmp_ge_f (tgt := 33) dX2_hasNoneOf_8 (by decide) (by decide) (by decide) ?_
      refine gg_aload_n dX2_hasNoneOf_11 1 rfl ?_
      refine gg_aload_n dX2_hasNoneOf_12 2 rfl ?_
      refine gg_iload_n dX2_hasNoneOf_13 3 rfl ?_
      refine gg_iload_n dX2_hasNoneOf_14 0 rfl ?_
      refine gg_callVi (own := RX2) (yt := gm_X1_part) rfl gl_RX2_52 gk_X1_part gr_X1_part dX2_hasNoneOf_15 (c_X1_part1 (d := d - 1) hF hA hW.1 (j := j) (hc1 (by omega)) hj (by omega)) (gFsh hF) (gFlt hF) (by decide) rfl rfl rfl (Nat.le_of_ble_eq_true rfl) (by show _ ≤ d; omega) ⟨Nat.le_refl _, Nat.le_refl _⟩ (fun e14 μ' hc => ?_)
      obtain ⟨rfl, rfl⟩ := hc
      refine gg_callVi (own := RX2) (yt := gm_X2_toldOf) rfl gl_RX2_49 gk_X2_toldOf gr_X2_toldOf dX2_hasNoneOf_18 (c_X2_toldOf (d := d - 1) (k := gPt Z j 1) (by have := hc2 (by omega); omega)) sh_38 pl_38 (by decide) rfl rfl rfl (Nat.le_of_ble_eq_true rfl) (by show _ ≤ d; omega) ⟨Nat.le_refl _, Nat.le_refl _⟩ (fun e15 μ' hc => ?_)
      obtain ⟨rfl, rfl⟩ := hc
      refine gg_toI (b := gGc n nm K N Z (gPt Z j 1)) (by have hlt : gPt Z j 1 < n := hc2 (by omega); rw [if_pos (show gPt Z j 1 < 200 by omega)]; exact ht _ (by first | omega | exact gPt_gt Z j _) hlt) ?_
      have g2 := gG_rng (nm := nm) hW _ (hc2 (by omega))
      refine gg_iconst dX2_hasNoneOf_21 ?_
      refine gg_icmp_ne (tgt := 27) dX2_hasNoneOf_22 (by decide) (by omega) (fun hv1 => ?_) (fun hv1 => ?_)
      · refine gg_iincv (ls' := [(3, .int (iv 2)), (0, .ref (gad (gSS ad) 38)), (1, .ref (gad (gSS ad) a)), (2, .int (iv (j : Int)))]) dX2_hasNoneOf_27 0 rfl rfl (by decide) rfl ?_
        refine gg_goto (tgt := 2) dX2_hasNoneOf_30 (by decide) ?_
        refine gg_iload_n dX2_hasNoneOf_2 0 rfl ?_
        refine gg_aload_n dX2_hasNoneOf_3 2 rfl ?_
        refine gg_iload_n dX2_hasNoneOf_4 3 rfl ?_
        refine gg_callVi (own := RX2) (yt := gm_X1_parts) rfl gl_RX2_59 gk_X1_parts gr_X1_parts dX2_hasNoneOf_5 (c_X1_parts (d := d - 1) hF hA hW.1 (j := j) (by omega) (by omega) hK) (gFsh hF) (gFlt hF) (by decide) rfl rfl rfl (Nat.le_of_ble_eq_true rfl) (by show _ ≤ d; omega) ⟨Nat.le_refl _, Nat.le_refl _⟩ (fun e16 μ' hc => ?_)
        obtain ⟨rfl, rfl⟩ := hc
        refine gg_toI (b := 3) (by omega) ?_
        refine gg_icmp_ge_f (tgt := 33) dX2_hasNoneOf_8 (by decide) (by decide) (by decide) ?_
        refine gg_aload_n dX2_hasNoneOf_11 1 rfl ?_
        refine gg_aload_n dX2_hasNoneOf_12 2 rfl ?_
        refine gg_iload_n dX2_hasNoneOf_13 3 rfl ?_
        refine gg_iload_n dX2_hasNoneOf_14 0 rfl ?_
        refine gg_callVi (own := RX2) (yt := gm_X1_part) rfl gl_RX2_52 gk_X1_part gr_X1_part dX2_hasNoneOf_15 (c_X1_part2 (d := d - 1) hF hA hW.1 (j := j) (hc1 (by omega)) (hc2 (by omega)) hj (by omega)) (gFsh hF) (gFlt hF) (by decide) rfl rfl rfl (Nat.le_of_ble_eq_true rfl) (by show _ ≤ d; omega) ⟨Nat.le_refl _, Nat.le_refl _⟩ (fun e17 μ' hc => ?_)
        obtain ⟨rfl, rfl⟩ := hc
        refine gg_callVi (own := RX2) (yt := gm_X2_toldOf) rfl gl_RX2_49 gk_X2_toldOf gr_X2_toldOf dX2_hasNoneOf_18 (c_X2_toldOf (d := d - 1) (k := gPt Z j 2) (by have := hc3 (by omega); omega)) sh_38 pl_38 (by decide) rfl rfl rfl (Nat.le_of_ble_eq_true rfl) (by show _ ≤ d; omega) ⟨Nat.le_refl _, Nat.le_refl _⟩ (fun e18 μ' hc => ?_)
        obtain ⟨rfl, rfl⟩ := hc
        refine gg_toI (b := gGc n nm K N Z (gPt Z j 2)) (by have hlt : gPt Z j 2 < n := hc3 (by omega); rw [if_pos (show gPt Z j 2 < 200 by omega)]; exact ht _ (by first | omega | exact gPt_gt Z j _) hlt) ?_
        have g3 := gG_rng (nm := nm) hW _ (hc3 (by omega))
        refine gg_iconst dX2_hasNoneOf_21 ?_
        refine gg_icmp_ne (tgt := 27) dX2_hasNoneOf_22 (by decide) (by omega) (fun hv2 => ?_) (fun hv2 => ?_)
        · refine gg_iincv (ls' := [(3, .int (iv 3)), (0, .ref (gad (gSS ad) 38)), (1, .ref (gad (gSS ad) a)), (2, .int (iv (j : Int)))]) dX2_hasNoneOf_27 0 rfl rfl (by decide) rfl ?_
          refine gg_goto (tgt := 2) dX2_hasNoneOf_30 (by decide) ?_
          refine gg_iload_n dX2_hasNoneOf_2 0 rfl ?_
          refine gg_aload_n dX2_hasNoneOf_3 2 rfl ?_
          refine gg_iload_n dX2_hasNoneOf_4 3 rfl ?_
          refine gg_callVi (own := RX2) (yt := gm_X1_parts) rfl gl_RX2_59 gk_X1_parts gr_X1_parts dX2_hasNoneOf_5 (c_X1_parts (d := d - 1) hF hA hW.1 (j := j) (by omega) (by omega) hK) (gFsh hF) (gFlt hF) (by decide) rfl rfl rfl (Nat.le_of_ble_eq_true rfl) (by show _ ≤ d; omega) ⟨Nat.le_refl _, Nat.le_refl _⟩ (fun e19 μ' hc => ?_)
          obtain ⟨rfl, rfl⟩ := hc
          refine gg_toI (b := 3) (by omega) ?_
          refine gg_icmp_ge_t (tgt := 33) dX2_hasNoneOf_8 (by decide) (by decide) (by decide) ?_
          refine gg_iconst dX2_hasNoneOf_33 ?_
          refine gg_iretz dX2_hasNoneOf_34 rfl (by decide) ⟨rfl, rfl⟩ ?_
          exact ⟨rfl, Or.inr ⟨rfl, by unfold gNn; omega⟩⟩
        · refine gg_iconst dX2_hasNoneOf_25 ?_
          refine gg_iretz dX2_hasNoneOf_26 rfl (by decide) ⟨rfl, rfl⟩ ?_
          exact ⟨rfl, Or.inl ⟨rfl, by unfold gNn; omega⟩⟩
      · refine gg_iconst dX2_hasNoneOf_25 ?_
        refine gg_iretz dX2_hasNoneOf_26 rfl (by decide) ⟨rfl, rfl⟩ ?_
        exact ⟨rfl, Or.inl ⟨rfl, by unfold gNn; omega⟩⟩
    · refine gg_iconst dX2_hasNoneOf_25 ?_
      refine gg_iretz dX2_hasNoneOf_26 rfl (by decide) ⟨rfl, rfl⟩ ?_
      exact ⟨rfl, Or.inl ⟨rfl, by unfold gNn; omega⟩⟩

set_option maxRecDepth 10000 in
theorem c_X2_nodeDegree {l : Launch} {Γ : gC} {ad : Nat → Nat} {I : Nat → Nat → Int} {J : Nat → Nat → Int64} {d : Nat} {a n : Nat} {K : Nat → Nat} {N : Nat → Int64} {Z : Nat → Nat} (hF : gF a) (hA : gAt I J a n K N Z) (hW : gWf n K N Z) {nm j : Nat} (hj : j < n) (ht : ∀ t, j < t → t < n → I 39 t = gGc n nm K N Z t) (hN : ∀ t, j < t → t < n → (I 40 t = 1 ∧ gHn K N Z nm t) ∨ (I 40 t = 0 ∧ ¬ gHn K N Z nm t)) (hd : 4 ≤ d) : gKi l Γ gm_X2_nodeDegree d [.ref (gad (gSS ad) 38), .ref (gad (gSS ad) a), .int (iv (j : Int)), .int (iv (nm : Int))] (gSS ad, I, J) (fun e μ => μ = (gSS ad, I, J) ∧ min 9999 e = gGF nm K N Z (gGc n nm K N Z) j ∧ -1 ≤ e ∧ e ≤ 100000) := by
  refine gKi_of gk_X2_nodeDegree.1 (Nat.le_of_ble_eq_true rfl) ?_
  show gG l Γ gm_X2_nodeDegree (d, 0, 0, 0, 0) 0 [(0, .ref (gad (gSS ad) 38)), (1, .ref (gad (gSS ad) a)), (2, .int (iv (j : Int))), (3, .int (iv (nm : Int)))] [] _ _
  obtain ⟨hK, hZ1, hZ2, he0, he1, he2, he3, hc1, hc2, hc3, hnm, hpw, hz⟩ := hW.2.2 j hj
  have hn := hW.1
  clear hnm hpw hz
  refine gg_aload_n dX2_nodeDegree_0 0 rfl ?_
  refine gg_aload_n dX2_nodeDegree_1 1 rfl ?_
  refine gg_iload_n dX2_nodeDegree_2 2 rfl ?_
  refine gg_callVi (own := RX2) (yt := gm_X2_hasNoneOf) rfl gl_RX2_73 gk_X2_hasNoneOf gr_X2_hasNoneOf dX2_nodeDegree_3 (c_X2_hasNoneOf (d := d - 1) hF hA hW hj ht (by omega)) sh_38 pl_38 (by decide) rfl rfl rfl (Nat.le_of_ble_eq_true rfl) (by show _ ≤ d; omega) ⟨Nat.le_refl _, Nat.le_refl _⟩ (fun e1 μ' hc => ?_)
  obtain ⟨rfl, ⟨rfl, hno⟩ | ⟨rfl, hno⟩⟩ := hc
  · refine gg_if_eq_f (tgt := 11) dX2_nodeDegree_6 (by decide) (by decide) (by decide) ?_
    refine gg_iconst dX2_nodeDegree_9 ?_
    refine gg_ireti dX2_nodeDegree_10 rfl ⟨rfl, rfl⟩ ?_
    refine ⟨rfl, ?_, by omega, by omega⟩
    rw [gGF_no hW hj hno]
    decide
  · refine gg_if_eq_t (tgt := 11) dX2_nodeDegree_6 (by decide) (by decide) (by decide) ?_
    refine gg_aload_n dX2_nodeDegree_11 0 rfl ?_
    refine gg_iload_n dX2_nodeDegree_12 2 rfl ?_
    refine gg_iconst dX2_nodeDegree_13 ?_
    refine gg_iadd dX2_nodeDegree_14 ?_
    refine gg_callVi (own := RX2) (yt := gm_X2_toldOf) rfl gl_RX2_49 gk_X2_toldOf gr_X2_toldOf dX2_nodeDegree_15 (c_X2_toldOf (d := d - 1) (k := j + 1) (by omega)) sh_38 pl_38 (by decide) rfl rfl rfl (Nat.le_of_ble_eq_true rfl) (by show _ ≤ d; omega) ⟨Nat.le_refl _, Nat.le_refl _⟩ (fun e2 μ' hc => ?_)
    obtain ⟨rfl, rfl⟩ := hc
    refine gg_istore (ls' := [(4, .int (iv (if j + 1 < 200 then I 39 (j + 1) else 0))), (0, .ref (gad (gSS ad) 38)), (1, .ref (gad (gSS ad) a)), (2, .int (iv (j : Int))), (3, .int (iv (nm : Int)))]) dX2_nodeDegree_18 (by decide) rfl ?_
    refine gg_aload_n dX2_nodeDegree_20 2 rfl ?_
    refine gg_iload_n dX2_nodeDegree_21 3 rfl ?_
    refine gg_callVi (own := RX2) (yt := gm_X1_kind) rfl gl_RX2_41 gk_X1_kind gr_X1_kind dX2_nodeDegree_22 (c_X1_kind (d := d - 1) hF hA hW.1 (j := j) (by omega) (by omega)) (gFsh hF) (gFlt hF) (by decide) rfl rfl rfl (Nat.le_of_ble_eq_true rfl) (by show _ ≤ d; omega) ⟨Nat.le_refl _, Nat.le_refl _⟩ (fun e3 μ' hc => ?_)
    obtain ⟨rfl, rfl⟩ := hc
    obtain hk | hk | hk | hk | hk | hk | hk | hk := (by omega : K j = 0 ∨ K j = 1 ∨ K j = 2 ∨ K j = 3 ∨ K j = 4 ∨ K j = 5 ∨ K j = 6 ∨ K j = 7)
    · refine gg_toI (b := 0) (by omega) ?_
      refine gg_tsw (off := 43) (tgt := 68) dX2_nodeDegree_25 (by decide) (by decide) rfl (by decide) ?_
      refine gg_iconst dX2_nodeDegree_68 ?_
      refine gg_ireti dX2_nodeDegree_69 rfl ⟨rfl, rfl⟩ ?_
      refine ⟨rfl, ?_, by omega, by omega⟩
      unfold gGF
      rw [hk, if_pos rfl]
      decide
    · refine gg_toI (b := 1) (by omega) ?_
      refine gg_tsw (off := 45) (tgt := 70) dX2_nodeDegree_25 (by decide) (by decide) rfl (by decide) ?_
      refine gg_aload_n dX2_nodeDegree_70 2 rfl ?_
      refine gg_iload_n dX2_nodeDegree_71 3 rfl ?_
      refine gg_callVl (own := RX2) (yt := gm_X1_number) rfl gl_RX2_45 gk_X1_number gr_X1_number dX2_nodeDegree_72 (c_X1_number (d := d - 1) hF hA hW.1 (j := j) (by omega) (by omega)) (gFsh hF) (gFlt hF) (by decide) rfl rfl rfl (Nat.le_of_ble_eq_true rfl) (by show _ ≤ d; omega) ⟨Nat.le_refl _, Nat.le_refl _⟩ (fun e4 μ' hc => ?_)
      obtain ⟨rfl, rfl⟩ := hc
      refine gg_iload_n dX2_nodeDegree_75 4 rfl ?_
      refine gg_i2l dX2_nodeDegree_76 ?_
      refine gg_lcmp_ne (tgt := 85) dX2_nodeDegree_77 dX2_nodeDegree_78 (by decide) (fun hne => ?_) (fun hne => ?_)
      · refine gg_iconst dX2_nodeDegree_85 ?_
        refine gg_ireti dX2_nodeDegree_86 rfl ⟨rfl, rfl⟩ ?_
        refine ⟨rfl, ?_, by omega, by omega⟩
        unfold gGF
        rw [hk, if_neg (show ¬ (1 : Nat) = 0 by decide), if_pos rfl, if_neg hne]
        decide
      · refine gg_iconst dX2_nodeDegree_81 ?_
        refine gg_goto (tgt := 86) dX2_nodeDegree_82 (by decide) ?_
        refine gg_ireti dX2_nodeDegree_86 rfl ⟨rfl, rfl⟩ ?_
        refine ⟨rfl, ?_, by omega, by omega⟩
        unfold gGF
        rw [hk, if_neg (show ¬ (1 : Nat) = 0 by decide), if_pos rfl, if_pos hne]
        decide
    · refine gg_toI (b := 2) (by omega) ?_
      rw [show (if j + 1 < 200 then I 39 (j + 1) else 0) = gGc n nm K N Z (j + 1) from by have hlt : j + 1 < n := hc1 (by rw [hk]; decide); rw [if_pos (show j + 1 < 200 by omega)]; exact ht _ (by omega) hlt]
      have g1 := gG_rng (nm := nm) hW _ (hc1 (by rw [hk]; decide))
      refine gg_tsw (off := 62) (tgt := 87) dX2_nodeDegree_25 (by decide) (by decide) rfl (by decide) ?_
      refine gg_iload dX2_nodeDegree_87 0 rfl ?_
      refine gg_ireti dX2_nodeDegree_89 rfl ⟨rfl, rfl⟩ ?_
      unfold gNn at hno
      rw [hk] at hno
      simp only [show gPar 2 = 1 from rfl] at hno
      refine ⟨rfl, ?_, by omega, by omega⟩
      unfold gGF
      rw [hk, if_neg (show ¬ (2 : Nat) = 0 by decide), if_neg (show ¬ (2 : Nat) = 1 by decide), if_neg (show ¬ (2 : Nat) = 6 by decide), if_neg (show ¬ (gGc n nm K N Z (j + 1) = -1 ∨ (2 ≤ gPar 2 ∧ gGc n nm K N Z (gPt Z j 1) = -1)) by simp only [show gPar 2 = 1 from rfl]; omega)]
      exact rfl
    · refine gg_toI (b := 3) (by omega) ?_
      rw [show (if j + 1 < 200 then I 39 (j + 1) else 0) = gGc n nm K N Z (j + 1) from by have hlt : j + 1 < n := hc1 (by rw [hk]; decide); rw [if_pos (show j + 1 < 200 by omega)]; exact ht _ (by omega) hlt]
      have g1 := gG_rng (nm := nm) hW _ (hc1 (by rw [hk]; decide))
      have g2 := gG_rng (nm := nm) hW _ (hc2 (by rw [hk]; decide))
      refine gg_tsw (off := 65) (tgt := 90) dX2_nodeDegree_25 (by decide) (by decide) rfl (by decide) ?_
      refine gg_iload dX2_nodeDegree_90 0 rfl ?_
      refine gg_aload_n dX2_nodeDegree_92 1 rfl ?_
      refine gg_aload_n dX2_nodeDegree_93 2 rfl ?_
      refine gg_iload_n dX2_nodeDegree_94 3 rfl ?_
      refine gg_iconst dX2_nodeDegree_95 ?_
      refine gg_callVi (own := RX2) (yt := gm_X1_part) rfl gl_RX2_52 gk_X1_part gr_X1_part dX2_nodeDegree_96 (c_X1_part1 (d := d - 1) hF hA hW.1 (j := j) (hc1 (by rw [hk]; decide)) hj (by omega)) (gFsh hF) (gFlt hF) (by decide) rfl rfl rfl (Nat.le_of_ble_eq_true rfl) (by show _ ≤ d; omega) ⟨Nat.le_refl _, Nat.le_refl _⟩ (fun e5 μ' hc => ?_)
      obtain ⟨rfl, rfl⟩ := hc
      refine gg_callVi (own := RX2) (yt := gm_X2_toldOf) rfl gl_RX2_49 gk_X2_toldOf gr_X2_toldOf dX2_nodeDegree_99 (c_X2_toldOf (d := d - 1) (k := gPt Z j 1) (by have := hc2 (by rw [hk]; decide); omega)) sh_38 pl_38 (by decide) rfl rfl rfl (Nat.le_of_ble_eq_true rfl) (by show _ ≤ d; omega) ⟨Nat.le_refl _, Nat.le_refl _⟩ (fun e6 μ' hc => ?_)
      obtain ⟨rfl, rfl⟩ := hc
      refine gg_toI (b := gGc n nm K N Z (gPt Z j 1)) (by have hlt : gPt Z j 1 < n := hc2 (by rw [hk]; decide); rw [if_pos (show gPt Z j 1 < 200 by omega)]; exact ht _ (by first | omega | exact gPt_gt Z j _) hlt) ?_
      have g2 := gG_rng (nm := nm) hW _ (hc2 (by rw [hk]; decide))
      refine gg_mmax rfl gl_RX2_38 dX2_nodeDegree_102 (by omega) (Nat.le_of_ble_eq_true rfl) (by omega) ⟨Nat.le_refl _, Nat.le_refl _⟩ ?_
      refine gg_ireti dX2_nodeDegree_105 rfl ⟨rfl, rfl⟩ ?_
      unfold gNn at hno
      rw [hk] at hno
      simp only [show gPar 3 = 2 from rfl] at hno
      refine ⟨rfl, ?_, by omega, by omega⟩
      unfold gGF
      rw [hk, if_neg (show ¬ (3 : Nat) = 0 by decide), if_neg (show ¬ (3 : Nat) = 1 by decide), if_neg (show ¬ (3 : Nat) = 6 by decide), if_neg (show ¬ (gGc n nm K N Z (j + 1) = -1 ∨ (2 ≤ gPar 3 ∧ gGc n nm K N Z (gPt Z j 1) = -1)) by simp only [show gPar 3 = 2 from rfl]; omega)]
      exact rfl
    · refine gg_toI (b := 4) (by omega) ?_
      rw [show (if j + 1 < 200 then I 39 (j + 1) else 0) = gGc n nm K N Z (j + 1) from by have hlt : j + 1 < n := hc1 (by rw [hk]; decide); rw [if_pos (show j + 1 < 200 by omega)]; exact ht _ (by omega) hlt]
      have g1 := gG_rng (nm := nm) hW _ (hc1 (by rw [hk]; decide))
      have g2 := gG_rng (nm := nm) hW _ (hc2 (by rw [hk]; decide))
      refine gg_tsw (off := 81) (tgt := 106) dX2_nodeDegree_25 (by decide) (by decide) rfl (by decide) ?_
      refine gg_iload dX2_nodeDegree_106 0 rfl ?_
      refine gg_aload_n dX2_nodeDegree_108 1 rfl ?_
      refine gg_aload_n dX2_nodeDegree_109 2 rfl ?_
      refine gg_iload_n dX2_nodeDegree_110 3 rfl ?_
      refine gg_iconst dX2_nodeDegree_111 ?_
      refine gg_callVi (own := RX2) (yt := gm_X1_part) rfl gl_RX2_52 gk_X1_part gr_X1_part dX2_nodeDegree_112 (c_X1_part1 (d := d - 1) hF hA hW.1 (j := j) (hc1 (by rw [hk]; decide)) hj (by omega)) (gFsh hF) (gFlt hF) (by decide) rfl rfl rfl (Nat.le_of_ble_eq_true rfl) (by show _ ≤ d; omega) ⟨Nat.le_refl _, Nat.le_refl _⟩ (fun e7 μ' hc => ?_)
      obtain ⟨rfl, rfl⟩ := hc
      refine gg_callVi (own := RX2) (yt := gm_X2_toldOf) rfl gl_RX2_49 gk_X2_toldOf gr_X2_toldOf dX2_nodeDegree_115 (c_X2_toldOf (d := d - 1) (k := gPt Z j 1) (by have := hc2 (by rw [hk]; decide); omega)) sh_38 pl_38 (by decide) rfl rfl rfl (Nat.le_of_ble_eq_true rfl) (by show _ ≤ d; omega) ⟨Nat.le_refl _, Nat.le_refl _⟩ (fun e8 μ' hc => ?_)
      obtain ⟨rfl, rfl⟩ := hc
      refine gg_toI (b := gGc n nm K N Z (gPt Z j 1)) (by have hlt : gPt Z j 1 < n := hc2 (by rw [hk]; decide); rw [if_pos (show gPt Z j 1 < 200 by omega)]; exact ht _ (by first | omega | exact gPt_gt Z j _) hlt) ?_
      have g2 := gG_rng (nm := nm) hW _ (hc2 (by rw [hk]; decide))
      refine gg_iadd dX2_nodeDegree_118 ?_
      refine gg_ireti dX2_nodeDegree_119 rfl ⟨rfl, rfl⟩ ?_
      unfold gNn at hno
      rw [hk] at hno
      simp only [show gPar 4 = 2 from rfl] at hno
      refine ⟨rfl, ?_, by omega, by omega⟩
      unfold gGF
      rw [hk, if_neg (show ¬ (4 : Nat) = 0 by decide), if_neg (show ¬ (4 : Nat) = 1 by decide), if_neg (show ¬ (4 : Nat) = 6 by decide), if_neg (show ¬ (gGc n nm K N Z (j + 1) = -1 ∨ (2 ≤ gPar 4 ∧ gGc n nm K N Z (gPt Z j 1) = -1)) by simp only [show gPar 4 = 2 from rfl]; omega)]
      exact rfl
    · refine gg_toI (b := 5) (by omega) ?_
      rw [show (if j + 1 < 200 then I 39 (j + 1) else 0) = gGc n nm K N Z (j + 1) from by have hlt : j + 1 < n := hc1 (by rw [hk]; decide); rw [if_pos (show j + 1 < 200 by omega)]; exact ht _ (by omega) hlt]
      have g1 := gG_rng (nm := nm) hW _ (hc1 (by rw [hk]; decide))
      have hd5 := gdig hW hj hk
      refine gg_tsw (off := 95) (tgt := 120) dX2_nodeDegree_25 (by decide) (by decide) rfl (by decide) ?_
      refine gg_aload_n dX2_nodeDegree_120 2 rfl ?_
      refine gg_iload_n dX2_nodeDegree_121 3 rfl ?_
      refine gg_callVl (own := RX2) (yt := gm_X1_number) rfl gl_RX2_45 gk_X1_number gr_X1_number dX2_nodeDegree_122 (c_X1_number (d := d - 1) hF hA hW.1 (j := j) (by omega) (by omega)) (gFsh hF) (gFlt hF) (by decide) rfl rfl rfl (Nat.le_of_ble_eq_true rfl) (by show _ ≤ d; omega) ⟨Nat.le_refl _, Nat.le_refl _⟩ (fun e9 μ' hc => ?_)
      obtain ⟨rfl, rfl⟩ := hc
      refine gg_l2i dX2_nodeDegree_125 ?_
      refine gg_iload dX2_nodeDegree_126 0 rfl ?_
      refine gg_imul dX2_nodeDegree_128 ?_
      refine gg_ireti dX2_nodeDegree_129 rfl ⟨rfl, rfl⟩ ?_
      unfold gNn at hno
      rw [hk] at hno
      simp only [show gPar 5 = 1 from rfl] at hno
      have hmr := gmul_rng (a := gGc n nm K N Z (j + 1)) (x := gl2i (N j)) (by omega) hd5
      have hmc := Int.mul_comm (gl2i (N j)) (gGc n nm K N Z (j + 1))
      refine ⟨rfl, ?_, by omega, by omega⟩
      unfold gGF
      rw [hk, if_neg (show ¬ (5 : Nat) = 0 by decide), if_neg (show ¬ (5 : Nat) = 1 by decide), if_neg (show ¬ (5 : Nat) = 6 by decide), if_neg (show ¬ (gGc n nm K N Z (j + 1) = -1 ∨ (2 ≤ gPar 5 ∧ gGc n nm K N Z (gPt Z j 1) = -1)) by simp only [show gPar 5 = 1 from rfl]; omega)]
      rw [hmc]
      exact rfl
    · refine gg_toI (b := 6) (by omega) ?_
      rw [show (if j + 1 < 200 then I 39 (j + 1) else 0) = gGc n nm K N Z (j + 1) from by have hlt : j + 1 < n := hc1 (by rw [hk]; decide); rw [if_pos (show j + 1 < 200 by omega)]; exact ht _ (by omega) hlt]
      have g1 := gG_rng (nm := nm) hW _ (hc1 (by rw [hk]; decide))
      have g2 := gG_rng (nm := nm) hW _ (hc2 (by rw [hk]; decide))
      have g3 := gG_rng (nm := nm) hW _ (hc3 (by rw [hk]; decide))
      refine gg_tsw (off := 105) (tgt := 130) dX2_nodeDegree_25 (by decide) (by decide) rfl (by decide) ?_
      refine gg_aload_n dX2_nodeDegree_130 1 rfl ?_
      refine gg_iload_n dX2_nodeDegree_131 3 rfl ?_
      refine gg_iconst dX2_nodeDegree_132 ?_
      refine gg_iadd dX2_nodeDegree_133 ?_
      refine gg_callVi (own := RX2) (yt := gm_X2_namedAt) rfl gl_RX2_69 gk_X2_namedAt gr_X2_namedAt dX2_nodeDegree_134 (c_X2_namedAt (d := d - 1) (k := j + 1) (P := gHn K N Z nm (j + 1)) (by have := hc1 (by rw [hk]; decide); omega) (hN _ (by first | omega | exact gPt_gt Z j _) (hc1 (by rw [hk]; decide)))) sh_38 pl_38 (by decide) rfl rfl rfl (Nat.le_of_ble_eq_true rfl) (by show _ ≤ d; omega) ⟨Nat.le_refl _, Nat.le_refl _⟩ (fun e10 μ' hc => ?_)
      obtain ⟨rfl, ⟨rfl, hq⟩ | ⟨rfl, hq⟩⟩ := hc
      · refine gg_if_eq_f (tgt := 144) dX2_nodeDegree_137 (by decide) (by decide) (by decide) ?_
        refine gg_iconst dX2_nodeDegree_140 ?_
        refine gg_goto (tgt := 167) dX2_nodeDegree_141 (by decide) ?_
        refine gg_ireti dX2_nodeDegree_167 rfl ⟨rfl, rfl⟩ ?_
        refine ⟨rfl, ?_, by omega, by omega⟩
        unfold gGF
        rw [hk, if_neg (show ¬ (6 : Nat) = 0 by decide), if_neg (show ¬ (6 : Nat) = 1 by decide), if_pos rfl, if_pos (Or.inr (Or.inr hq))]
        decide
      · refine gg_if_eq_t (tgt := 144) dX2_nodeDegree_137 (by decide) (by decide) (by decide) ?_
        refine gg_aload_n dX2_nodeDegree_144 1 rfl ?_
        refine gg_aload_n dX2_nodeDegree_145 2 rfl ?_
        refine gg_iload_n dX2_nodeDegree_146 3 rfl ?_
        refine gg_iconst dX2_nodeDegree_147 ?_
        refine gg_callVi (own := RX2) (yt := gm_X1_part) rfl gl_RX2_52 gk_X1_part gr_X1_part dX2_nodeDegree_148 (c_X1_part1 (d := d - 1) hF hA hW.1 (j := j) (hc1 (by rw [hk]; decide)) hj (by omega)) (gFsh hF) (gFlt hF) (by decide) rfl rfl rfl (Nat.le_of_ble_eq_true rfl) (by show _ ≤ d; omega) ⟨Nat.le_refl _, Nat.le_refl _⟩ (fun e11 μ' hc => ?_)
        obtain ⟨rfl, rfl⟩ := hc
        refine gg_callVi (own := RX2) (yt := gm_X2_toldOf) rfl gl_RX2_49 gk_X2_toldOf gr_X2_toldOf dX2_nodeDegree_151 (c_X2_toldOf (d := d - 1) (k := gPt Z j 1) (by have := hc2 (by rw [hk]; decide); omega)) sh_38 pl_38 (by decide) rfl rfl rfl (Nat.le_of_ble_eq_true rfl) (by show _ ≤ d; omega) ⟨Nat.le_refl _, Nat.le_refl _⟩ (fun e12 μ' hc => ?_)
        obtain ⟨rfl, rfl⟩ := hc
        refine gg_toI (b := gGc n nm K N Z (gPt Z j 1)) (by have hlt : gPt Z j 1 < n := hc2 (by rw [hk]; decide); rw [if_pos (show gPt Z j 1 < 200 by omega)]; exact ht _ (by first | omega | exact gPt_gt Z j _) hlt) ?_
        have g2 := gG_rng (nm := nm) hW _ (hc2 (by rw [hk]; decide))
        refine gg_aload_n dX2_nodeDegree_154 1 rfl ?_
        refine gg_aload_n dX2_nodeDegree_155 2 rfl ?_
        refine gg_iload_n dX2_nodeDegree_156 3 rfl ?_
        refine gg_iconst dX2_nodeDegree_157 ?_
        refine gg_callVi (own := RX2) (yt := gm_X1_part) rfl gl_RX2_52 gk_X1_part gr_X1_part dX2_nodeDegree_158 (c_X1_part2 (d := d - 1) hF hA hW.1 (j := j) (hc1 (by rw [hk]; decide)) (hc2 (by rw [hk]; decide)) hj (by omega)) (gFsh hF) (gFlt hF) (by decide) rfl rfl rfl (Nat.le_of_ble_eq_true rfl) (by show _ ≤ d; omega) ⟨Nat.le_refl _, Nat.le_refl _⟩ (fun e13 μ' hc => ?_)
        obtain ⟨rfl, rfl⟩ := hc
        refine gg_callVi (own := RX2) (yt := gm_X2_toldOf) rfl gl_RX2_49 gk_X2_toldOf gr_X2_toldOf dX2_nodeDegree_161 (c_X2_toldOf (d := d - 1) (k := gPt Z j 2) (by have := hc3 (by rw [hk]; decide); omega)) sh_38 pl_38 (by decide) rfl rfl rfl (Nat.le_of_ble_eq_true rfl) (by show _ ≤ d; omega) ⟨Nat.le_refl _, Nat.le_refl _⟩ (fun e14 μ' hc => ?_)
        obtain ⟨rfl, rfl⟩ := hc
        refine gg_toI (b := gGc n nm K N Z (gPt Z j 2)) (by have hlt : gPt Z j 2 < n := hc3 (by rw [hk]; decide); rw [if_pos (show gPt Z j 2 < 200 by omega)]; exact ht _ (by first | omega | exact gPt_gt Z j _) hlt) ?_
        have g3 := gG_rng (nm := nm) hW _ (hc3 (by rw [hk]; decide))
        refine gg_mmax rfl gl_RX2_38 dX2_nodeDegree_164 (by omega) (Nat.le_of_ble_eq_true rfl) (by omega) ⟨Nat.le_refl _, Nat.le_refl _⟩ ?_
        refine gg_ireti dX2_nodeDegree_167 rfl ⟨rfl, rfl⟩ ?_
        unfold gNn at hno
        rw [hk] at hno
        simp only [show gPar 6 = 3 from rfl] at hno
        refine ⟨rfl, ?_, by omega, by omega⟩
        unfold gGF
        rw [hk, if_neg (show ¬ (6 : Nat) = 0 by decide), if_neg (show ¬ (6 : Nat) = 1 by decide), if_pos rfl, if_neg]
        rintro (h | h | h)
        · exact absurd h (by omega)
        · exact absurd h (by omega)
        · exact hq h
    · refine gg_toI (b := 7) (by omega) ?_
      rw [show (if j + 1 < 200 then I 39 (j + 1) else 0) = gGc n nm K N Z (j + 1) from by have hlt : j + 1 < n := hc1 (by rw [hk]; decide); rw [if_pos (show j + 1 < 200 by omega)]; exact ht _ (by omega) hlt]
      have g1 := gG_rng (nm := nm) hW _ (hc1 (by rw [hk]; decide))
      refine gg_tsw_out (tgt := 168) dX2_nodeDegree_25 (by decide) (by decide) (by decide) ?_
      refine gg_iconst dX2_nodeDegree_168 ?_
      refine gg_iload dX2_nodeDegree_169 0 rfl ?_
      refine gg_imul dX2_nodeDegree_171 ?_
      refine gg_ireti dX2_nodeDegree_172 rfl ⟨rfl, rfl⟩ ?_
      unfold gNn at hno
      rw [hk] at hno
      simp only [show gPar 7 = 1 from rfl] at hno
      refine ⟨rfl, ?_, by omega, by omega⟩
      unfold gGF
      rw [hk, if_neg (show ¬ (7 : Nat) = 0 by decide), if_neg (show ¬ (7 : Nat) = 1 by decide), if_neg (show ¬ (7 : Nat) = 6 by decide), if_neg (show ¬ (gGc n nm K N Z (j + 1) = -1 ∨ (2 ≤ gPar 7 ∧ gGc n nm K N Z (gPt Z j 1) = -1)) by simp only [show gPar 7 = 1 from rfl]; omega)]
      exact rfl

set_option maxRecDepth 10000 in
theorem w_X2_degreeOf {l : Launch} {Γ : gC} {ad : Nat → Nat} {I0 : Nat → Nat → Int} {J : Nat → Nat → Int64} {d : Nat} {a n : Nat} {K : Nat → Nat} {N : Nat → Int64} {Z : Nat → Nat} (hF : gF a) (hA : gAt I0 J a n K N Z) (hW : gWf n K N Z) {nm : Nat} (hn0 : 0 < n) (hd : 5 ≤ d) : ∀ (m : Nat) (k : Nat) (I : Nat → Nat → Int), k < m → (k ≤ n) → (∀ p, p ≠ 39 → p ≠ 40 → I p = I0 p) → (∀ t, k ≤ t → t < n → I 39 t = gGc n nm K N Z t) → (∀ t, k ≤ t → t < n → (I 40 t = 1 ∧ gHn K N Z nm t) ∨ (I 40 t = 0 ∧ ¬ gHn K N Z nm t)) → gG l Γ gm_X2_degreeOf (d, 0, 0, 0, 0) 7 [(3, .int (iv ((k : Int) - 1))), (0, .ref (gad (gSS ad) 38)), (1, .ref (gad (gSS ad) a)), (2, .int (iv (nm : Int)))] [] (gSS ad, I, J) (gDi (fun e μ => ∃ I', μ = (gSS ad, I', J) ∧ (∀ p, p ≠ 39 → p ≠ 40 → I' p = I0 p) ∧ e = gGc n nm K N Z 0)) := by
  intro m
  induction m with
  | zero => intros; omega
  | succ m ih =>
    intro k I hm hk hI ht hN
    have hn := hW.1
    refine gg_iload_n dX2_degreeOf_7 0 rfl ?_
    refine gg_if_lt (tgt := 49) dX2_degreeOf_8 (by decide) (by omega) (fun hb => ?_) (fun hb => ?_)
    · have hk0 : k = 0 := by omega
      refine gg_aload_n dX2_degreeOf_49 1 rfl ?_
      refine gg_getR (k' := 39) rfl gf_RX2_9 dX2_degreeOf_50 sh_38 pl_38 (by decide) (by decide) rr_38_0 ?_
      refine gg_iconst dX2_degreeOf_53 ?_
      refine gg_ialdj 0 dX2_degreeOf_54 sh_39 pl_39 (by decide) rfl (by omega) ?_
      refine gg_ireti dX2_degreeOf_55 rfl ⟨rfl, rfl⟩ ?_
      exact ⟨I, rfl, hI, ht 0 (by omega) hn0⟩
    · obtain ⟨j, rfl⟩ : ∃ j : Nat, k = j + 1 := ⟨k - 1, by omega⟩
      rw [show (((j + 1 : Nat) : Int) - 1) = (j : Int) by omega]
      refine gg_aload_n dX2_degreeOf_11 1 rfl ?_
      refine gg_getR (k' := 40) rfl gf_RX2_15 dX2_degreeOf_12 sh_38 pl_38 (by decide) (by decide) rr_38_1 ?_
      refine gg_iload_n dX2_degreeOf_15 0 rfl ?_
      refine gg_aload_n dX2_degreeOf_16 1 rfl ?_
      refine gg_aload_n dX2_degreeOf_17 2 rfl ?_
      refine gg_iload_n dX2_degreeOf_18 0 rfl ?_
      refine gg_iload_n dX2_degreeOf_19 3 rfl ?_
      refine gg_callVi (own := RX2) (yt := gm_X2_hasName) rfl gl_RX2_62 gk_X2_hasName gr_X2_hasName dX2_degreeOf_20 (c_X2_hasName (d := d - 1) hF (gAt_p hF hA (fun p => ⟨fun _ _ => hI p (by omega) (by omega), fun _ _ => hI p (by omega) (by omega)⟩)) hW (nm := nm) (j := j) (by omega) (fun t h1 h2 => hN t (by omega) h2) (by omega)) sh_38 pl_38 (by decide) rfl rfl rfl (Nat.le_of_ble_eq_true rfl) (by show _ ≤ d; omega) ⟨Nat.le_refl _, Nat.le_refl _⟩ (fun eh μ' hc => ?_)
      obtain ⟨rfl, hHe⟩ := hc
      refine gg_zastj j dX2_degreeOf_23 sh_40 pl_40 (by decide) rfl (by omega) (by rcases hHe with h | h; exact Or.inr h.1; exact Or.inl h.1) ?_
      refine gg_memI (fun I1 hI1 => ?_)
      have hI1o : ∀ p, p ≠ 39 → p ≠ 40 → I1 p = I0 p := fun p h1 h2 => by rw [hI1, gu_other h2]; exact hI p h1 h2
      have ht1 : ∀ t, j < t → t < n → I1 39 t = gGc n nm K N Z t := fun t h1 h2 => by rw [hI1, gu_other (by omega)]; exact ht t (by omega) h2
      have hN1 : ∀ t, j ≤ t → t < n → (I1 40 t = 1 ∧ gHn K N Z nm t) ∨ (I1 40 t = 0 ∧ ¬ gHn K N Z nm t) := fun t h1 h2 => by
        by_cases htj : t = j
        · rw [hI1, htj, gu_s]
          exact hHe
        · rw [hI1, gu_n (by omega)]
          exact hN t (by omega) h2
      clear hI1
      refine gg_aload_n dX2_degreeOf_24 1 rfl ?_
      refine gg_getR (k' := 39) rfl gf_RX2_9 dX2_degreeOf_25 sh_38 pl_38 (by decide) (by decide) rr_38_0 ?_
      refine gg_iload_n dX2_degreeOf_28 0 rfl ?_
      refine gg_sipush dX2_degreeOf_29 (by decide) ?_
      refine gg_aload_n dX2_degreeOf_32 1 rfl ?_
      refine gg_aload_n dX2_degreeOf_33 2 rfl ?_
      refine gg_iload_n dX2_degreeOf_34 0 rfl ?_
      refine gg_iload_n dX2_degreeOf_35 3 rfl ?_
      refine gg_callVi (own := RX2) (yt := gm_X2_nodeDegree) rfl gl_RX2_66 gk_X2_nodeDegree gr_X2_nodeDegree dX2_degreeOf_36 (c_X2_nodeDegree (d := d - 1) hF (gAt_p hF hA (fun p => ⟨fun _ _ => hI1o p (by omega) (by omega), fun _ _ => hI1o p (by omega) (by omega)⟩)) hW (nm := nm) (j := j) (by omega) ht1 (fun t h1 h2 => hN1 t (by omega) h2) (by omega)) sh_38 pl_38 (by decide) rfl rfl rfl (Nat.le_of_ble_eq_true rfl) (by show _ ≤ d; omega) ⟨Nat.le_refl _, Nat.le_refl _⟩ (fun ed μ' hc => ?_)
      obtain ⟨rfl, hmin, hr1, hr2⟩ := hc
      refine gg_mmin rfl gl_RX2_32 dX2_degreeOf_39 (by omega) (Nat.le_of_ble_eq_true rfl) (by omega) ⟨Nat.le_refl _, Nat.le_refl _⟩ ?_
      refine gg_toI (b := gGc n nm K N Z j) (by rw [hmin]; exact (gGc_is n nm K N Z j (by omega)).symm) ?_
      refine gg_iastj j dX2_degreeOf_42 sh_39 pl_39 (by decide) rfl (by omega) ?_
      refine gg_memI (fun I2 hI2 => ?_)
      refine gg_iincv (ls' := [(3, .int (iv ((j : Int) - 1))), (0, .ref (gad (gSS ad) 38)), (1, .ref (gad (gSS ad) a)), (2, .int (iv (nm : Int)))]) dX2_degreeOf_43 0 rfl (by omega) (by decide) rfl ?_
      refine gg_goto (tgt := 7) dX2_degreeOf_46 (by decide) ?_
      refine ih j I2 (by omega) (by omega) (fun p h1 h2 => by rw [hI2, gu_other h1]; exact hI1o p h1 h2) (fun t h1 h2 => ?_) (fun t h1 h2 => by rw [hI2, gu_other (by omega)]; exact hN1 t h1 h2)
      rw [hI2]
      by_cases htj : t = j
      · rw [htj, gu_s]
      · rw [gu_n (by omega)]
        exact ht1 t (by omega) h2

set_option maxRecDepth 10000 in
theorem c_X2_degreeOf {l : Launch} {Γ : gC} {ad : Nat → Nat} {I : Nat → Nat → Int} {J : Nat → Nat → Int64} {d : Nat} {a n : Nat} {K : Nat → Nat} {N : Nat → Int64} {Z : Nat → Nat} (hF : gF a) (hA : gAt I J a n K N Z) (hW : gWf n K N Z) {nm : Nat} (hn0 : 0 < n) (hd : 5 ≤ d) : gKi l Γ gm_X2_degreeOf d [.ref (gad (gSS ad) 38), .ref (gad (gSS ad) a), .int (iv (nm : Int))] (gSS ad, I, J) (fun e μ => ∃ I', μ = (gSS ad, I', J) ∧ (∀ p, p ≠ 39 → p ≠ 40 → I' p = I p) ∧ e = gGc n nm K N Z 0) := by
  refine gKi_of gk_X2_degreeOf.1 (Nat.le_of_ble_eq_true rfl) ?_
  show gG l Γ gm_X2_degreeOf (d, 0, 0, 0, 0) 0 [(0, .ref (gad (gSS ad) 38)), (1, .ref (gad (gSS ad) a)), (2, .int (iv (nm : Int)))] [] _ _
  refine gg_aload_n dX2_degreeOf_0 1 rfl ?_
  refine gg_callVi (own := RX2) (yt := gm_X1_size) rfl gl_RX2_19 gk_X1_size gr_X1_size dX2_degreeOf_1 (c_X1_size (d := d - 1) hF hA) (gFsh hF) (gFlt hF) (by decide) rfl rfl rfl (Nat.le_of_ble_eq_true rfl) (by show _ ≤ d; omega) ⟨Nat.le_refl _, Nat.le_refl _⟩ (fun e1 μ' hc => ?_)
  obtain ⟨rfl, rfl⟩ := hc
  refine gg_iconst dX2_degreeOf_4 ?_
  refine gg_isub dX2_degreeOf_5 ?_
  refine gg_istore_n (ls' := [(3, .int (iv ((n : Int) - 1))), (0, .ref (gad (gSS ad) 38)), (1, .ref (gad (gSS ad) a)), (2, .int (iv (nm : Int)))]) dX2_degreeOf_6 rfl (by decide) rfl ?_
  refine gg_sub [0, 1, 2, 3] rfl ?_
  exact w_X2_degreeOf hF hA hW hn0 hd (n + 1) n I (by omega) (by omega) (fun _ _ _ => rfl) (fun t h1 h2 => by omega) (fun t h1 h2 => by omega)

set_option maxRecDepth 10000 in
theorem c_X9_degree {l : Launch} {Γ : gC} {ad : Nat → Nat} {I : Nat → Nat → Int} {J : Nat → Nat → Int64} {d : Nat} {f n : Nat} {K : Nat → Nat} {N : Nat → Int64} {Z : Nat → Nat} (hf : f < 12) (hA : gAt I J (41 + 8 * f) n K N Z) (hW : gWf n K N Z) {nm : Nat} (hnm : nm < 8) (hd : 6 ≤ d) : gKi l Γ gm_X9_degree d [.ref (gad (gSS ad) 0), .int (iv (f : Int)), .int (iv (nm : Int))] (gSS ad, I, J) (fun e μ => ∃ I', μ = (gSS ad, I', J) ∧ (∀ p, p ≠ 39 → p ≠ 40 → I' p = I p) ∧ e = (if n = 0 then -3 else gGc n nm K N Z 0)) := by
  refine gKi_of gk_X9_degree.1 (Nat.le_of_ble_eq_true rfl) ?_
  show gG l Γ gm_X9_degree (d, 0, 0, 0, 0) 0 [(0, .ref (gad (gSS ad) 0)), (1, .int (iv (f : Int))), (2, .int (iv (nm : Int)))] [] _ _
  refine gg_aload_n dX9_degree_0 0 rfl ?_
  refine gg_iload_n dX9_degree_1 1 rfl ?_
  refine gg_iload_n dX9_degree_2 2 rfl ?_
  refine gg_callSi (own := RX9) (yt := gm_X9_isName) rfl gl_RX9_122 gk_X9_isName gr_X9_isName dX9_degree_3 (c_X9_isName (d := d - 1) (by omega)) rfl rfl (Nat.le_of_ble_eq_true rfl) (by show _ ≤ d; omega) ⟨Nat.le_refl _, Nat.le_refl _⟩ (fun e1 μ' hc => ?_)
  obtain ⟨rfl, ⟨rfl, hb2⟩ | ⟨rfl, hb2⟩⟩ := hc
  rotate_left
  · omega
  refine gg_callVi (own := RX9) (yt := gm_X9_refusalOf) rfl gl_RX9_166 gk_X9_refusalOf gr_X9_refusalOf dX9_degree_6 (c_X9_refusalOf (d := d - 1) hf hA hW (by omega)) sh_0 pl_0 (by decide) rfl rfl rfl (Nat.le_of_ble_eq_true rfl) (by show _ ≤ d; omega) ⟨Nat.le_refl _, Nat.le_refl _⟩ (fun e3 μ' hc => ?_)
  obtain ⟨rfl, ⟨rfl, hn0⟩ | ⟨rfl, hn0⟩⟩ := hc
  · refine gg_istore_n (ls' := [(3, .int (iv (-3))), (0, .ref (gad (gSS ad) 0)), (1, .int (iv (f : Int))), (2, .int (iv (nm : Int)))]) dX9_degree_9 rfl (by decide) rfl ?_
    refine gg_iload_n dX9_degree_10 0 rfl ?_
    refine gg_if_eq_f (tgt := 18) dX9_degree_11 (by decide) (by decide) (by decide) ?_
    refine gg_iload_n dX9_degree_14 0 rfl ?_
    refine gg_goto (tgt := 32) dX9_degree_15 (by decide) ?_
    refine gg_ireti dX9_degree_32 rfl ⟨rfl, rfl⟩ ?_
    exact ⟨I, rfl, fun _ _ _ => rfl, by rw [if_pos hn0]⟩
  · refine gg_istore_n (ls' := [(3, .int (iv 0)), (0, .ref (gad (gSS ad) 0)), (1, .int (iv (f : Int))), (2, .int (iv (nm : Int)))]) dX9_degree_9 rfl (by decide) rfl ?_
    refine gg_iload_n dX9_degree_10 0 rfl ?_
    refine gg_if_eq_t (tgt := 18) dX9_degree_11 (by decide) (by decide) (by decide) ?_
    refine gg_aload_n dX9_degree_18 1 rfl ?_
    refine gg_getR (k' := 38) rfl gf_RX9_89 dX9_degree_19 sh_0 pl_0 (by decide) (by decide) rr_0_15 ?_
    refine gg_aload_n dX9_degree_22 1 rfl ?_
    refine gg_getR (k' := 1) rfl gf_RX9_11 dX9_degree_23 sh_0 pl_0 (by decide) (by decide) rr_0_0 ?_
    refine gg_iload_n dX9_degree_26 2 rfl ?_
    refine gg_aaldj (t := 4) f (k' := (41 + 8 * f)) dX9_degree_27 sh_1 (by decide) pl_1 (by decide) rfl hf (rr_1 hf) ?_
    refine gg_iload_n dX9_degree_28 3 rfl ?_
    refine gg_callVi (own := RX9) (yt := gm_X2_degreeOf) rfl gl_RX9_223 gk_X2_degreeOf gr_X2_degreeOf dX9_degree_29 (c_X2_degreeOf (d := d - 1) (gF_fo f hf) hA hW (by omega) (by omega)) sh_38 pl_38 (by decide) rfl rfl rfl (Nat.le_of_ble_eq_true rfl) (by show _ ≤ d; omega) ⟨Nat.le_refl _, Nat.le_refl _⟩ (fun e4 μ' hc => ?_)
    obtain ⟨I2, rfl, hI2, rfl⟩ := hc
    refine gg_ireti dX9_degree_32 rfl ⟨rfl, rfl⟩ ?_
    exact ⟨I2, rfl, hI2, by rw [if_neg hn0]⟩

set_option maxRecDepth 10000 in
theorem c_X9_degree_out {l : Launch} {Γ : gC} {ad : Nat → Nat} {I : Nat → Nat → Int} {J : Nat → Nat → Int64} {d : Nat} {i nm : Int} (hi : -2147483648 ≤ i ∧ i ≤ 2147483647) (hq : -2147483648 ≤ nm ∧ nm ≤ 2147483647) (ho : ¬ (0 ≤ i ∧ i ≤ 11 ∧ 0 ≤ nm ∧ nm ≤ 7)) (hd : 3 ≤ d) : gKi l Γ gm_X9_degree d [.ref (gad (gSS ad) 0), .int (iv i), .int (iv nm)] (gSS ad, I, J) (fun e μ => μ = (gSS ad, I, J) ∧ e = -2) := by
  refine gKi_of gk_X9_degree.1 (Nat.le_of_ble_eq_true rfl) ?_
  show gG l Γ gm_X9_degree (d, 0, 0, 0, 0) 0 [(0, .ref (gad (gSS ad) 0)), (1, .int (iv i)), (2, .int (iv nm))] [] _ _
  refine gg_aload_n dX9_degree_0 0 rfl ?_
  refine gg_iload_n dX9_degree_1 1 rfl ?_
  refine gg_iload_n dX9_degree_2 2 rfl ?_
  refine gg_callSi (own := RX9) (yt := gm_X9_isName) rfl gl_RX9_122 gk_X9_isName gr_X9_isName dX9_degree_3 (c_X9_isName (d := d - 1) (by omega)) rfl rfl (Nat.le_of_ble_eq_true rfl) (by show _ ≤ d; omega) ⟨Nat.le_refl _, Nat.le_refl _⟩ (fun e1 μ' hc => ?_)
  obtain ⟨rfl, ⟨rfl, hb2⟩ | ⟨rfl, hb2⟩⟩ := hc
  · refine gg_callVi (own := RX9) (yt := gm_X9_refusalOf) rfl gl_RX9_166 gk_X9_refusalOf gr_X9_refusalOf dX9_degree_6 (c_X9_refusalOf_out (d := d - 1) (b := 1) (by omega) (by omega) (by omega) (by omega)) sh_0 pl_0 (by decide) rfl rfl rfl (Nat.le_of_ble_eq_true rfl) (by show _ ≤ d; omega) ⟨Nat.le_refl _, Nat.le_refl _⟩ (fun e3 μ' hc => ?_)
    obtain ⟨rfl, rfl⟩ := hc
    refine gg_istore_n (ls' := [(3, .int (iv (-2))), (0, .ref (gad (gSS ad) 0)), (1, .int (iv i)), (2, .int (iv nm))]) dX9_degree_9 rfl (by decide) rfl ?_
    refine gg_iload_n dX9_degree_10 0 rfl ?_
    refine gg_if_eq_f (tgt := 18) dX9_degree_11 (by decide) (by decide) (by decide) ?_
    refine gg_iload_n dX9_degree_14 0 rfl ?_
    refine gg_goto (tgt := 32) dX9_degree_15 (by decide) ?_
    refine gg_ireti dX9_degree_32 rfl ⟨rfl, rfl⟩ ?_
    exact ⟨rfl, rfl⟩
  · refine gg_callVi (own := RX9) (yt := gm_X9_refusalOf) rfl gl_RX9_166 gk_X9_refusalOf gr_X9_refusalOf dX9_degree_6 (c_X9_refusalOf_out (d := d - 1) (b := 0) (by omega) (by omega) (by omega) (by omega)) sh_0 pl_0 (by decide) rfl rfl rfl (Nat.le_of_ble_eq_true rfl) (by show _ ≤ d; omega) ⟨Nat.le_refl _, Nat.le_refl _⟩ (fun e4 μ' hc => ?_)
    obtain ⟨rfl, rfl⟩ := hc
    refine gg_istore_n (ls' := [(3, .int (iv (-2))), (0, .ref (gad (gSS ad) 0)), (1, .int (iv i)), (2, .int (iv nm))]) dX9_degree_9 rfl (by decide) rfl ?_
    refine gg_iload_n dX9_degree_10 0 rfl ?_
    refine gg_if_eq_f (tgt := 18) dX9_degree_11 (by decide) (by decide) (by decide) ?_
    refine gg_iload_n dX9_degree_14 0 rfl ?_
    refine gg_goto (tgt := 32) dX9_degree_15 (by decide) ?_
    refine gg_ireti dX9_degree_32 rfl ⟨rfl, rfl⟩ ?_
    exact ⟨rfl, rfl⟩

set_option maxRecDepth 10000 in
theorem w_X10_hasName {l : Launch} {Γ : gC} {ad : Nat → Nat} {I : Nat → Nat → Int} {J : Nat → Nat → Int64} {d : Nat} {f n : Nat} {K : Nat → Nat} {N : Nat → Int64} {Z : Nat → Nat} (hf : f < 12) (hM : gMt I J f n K N Z) (hW : gWf n K N Z) {nm i : Nat} (hi : i < n) : ∀ (m : Nat) (t : Nat), i + Z i - t < m → (i ≤ t) → (t ≤ i + Z i) → (∀ u, i ≤ u → u < t → ¬ (K u = 1 ∧ N u = gi2l (nm : Int))) → gG l Γ gm_X10_hasName (d, 0, 0, 0, 0) 3 [(4, .int (iv (t : Int))), (0, .ref (gad (gSS ad) 145)), (1, .int (iv (f : Int))), (2, .int (iv (i : Int))), (3, .int (iv (nm : Int)))] [] (gSS ad, I, J) (gDi (fun e μ => μ = (gSS ad, I, J) ∧ ((e = 1 ∧ gHn K N Z nm i) ∨ (e = 0 ∧ ¬ gHn K N Z nm i)))) := by
  intro m
  induction m with
  | zero => intros; omega
  | succ m ih =>
    intro t hm ht0 ht1 hno
    have hn := hW.1
    have hzi := (hW.2.2 i hi).2.2.1
    refine gg_iload dX10_hasName_3 0 rfl ?_
    refine gg_aload_n dX10_hasName_5 1 rfl ?_
    refine gg_getR (k' := 173) rfl gf_RX10_23 dX10_hasName_6 sh_145 pl_145 (by decide) (by decide) rr_145_3 ?_
    refine gg_iload_n dX10_hasName_9 2 rfl ?_
    refine gg_aaldj (t := 6) f (k' := (174 + f)) dX10_hasName_10 sh_173 (by decide) pl_173 (by decide) rfl (by omega) (rr_173 (by omega)) ?_
    refine gg_iload_n dX10_hasName_11 3 rfl ?_
    refine gg_ialdj i dX10_hasName_12 (rs_173 (by omega)) (rl_173 (by omega)) (by decide) rfl (by omega) ?_
    refine gg_toI (b := ((i + Z i : Nat) : Int)) (by have := (hM.2 i hi).2.2; omega) ?_
    refine gg_icmp_ge (tgt := 52) dX10_hasName_13 (by decide) (by omega) (fun hx => ?_) (fun hx => ?_)
    · refine gg_iconst dX10_hasName_52 ?_
      refine gg_iretz dX10_hasName_53 rfl (by decide) ⟨rfl, rfl⟩ ?_
      refine ⟨rfl, Or.inr ⟨rfl, ?_⟩⟩
      rintro ⟨u, h1, h2, h3, h4⟩
      exact hno u h1 (by omega) ⟨h3, h4⟩
    · have h8 : t < n := by omega
      have hKt := (hW.2.2 t h8).1
      refine gg_aload_n dX10_hasName_16 1 rfl ?_
      refine gg_getR (k' := 147) rfl gf_RX10_15 dX10_hasName_17 sh_145 pl_145 (by decide) (by decide) rr_145_1 ?_
      refine gg_iload_n dX10_hasName_20 2 rfl ?_
      refine gg_aaldj (t := 6) f (k' := (148 + f)) dX10_hasName_21 sh_147 (by decide) pl_147 (by decide) rfl hf (rr_147 hf) ?_
      refine gg_iload dX10_hasName_22 0 rfl ?_
      refine gg_ialdj t dX10_hasName_24 (rs_147 hf) (rl_147 hf) (by decide) rfl (by omega) ?_
      refine gg_toI (b := (K t : Int)) (hM.2 t h8).1 ?_
      refine gg_iconst dX10_hasName_25 ?_
      refine gg_icmp_ne (tgt := 46) dX10_hasName_26 (by decide) (by omega) (fun hk1 => ?_) (fun hk1 => ?_)
      · have hnt : ¬ (K t = 1 ∧ N t = gi2l (nm : Int)) := fun h => by omega
        refine gg_iincv (ls' := [(4, .int (iv ((t + 1 : Nat) : Int))), (0, .ref (gad (gSS ad) 145)), (1, .int (iv (f : Int))), (2, .int (iv (i : Int))), (3, .int (iv (nm : Int)))]) dX10_hasName_46 0 rfl (by omega) (by decide) rfl ?_
        refine gg_goto (tgt := 3) dX10_hasName_49 (by decide) ?_
        refine ih (t + 1) (by omega) (by omega) (by omega) (fun u h1 h2 => ?_)
        by_cases hu : u = t
        · rw [hu]
          exact hnt
        · exact hno u h1 (by omega)
      · refine gg_aload_n dX10_hasName_29 1 rfl ?_
        refine gg_getR (k' := 160) rfl gf_RX10_20 dX10_hasName_30 sh_145 pl_145 (by decide) (by decide) rr_145_2 ?_
        refine gg_iload_n dX10_hasName_33 2 rfl ?_
        refine gg_aaldj (t := 7) f (k' := (161 + f)) dX10_hasName_34 sh_160 (by decide) pl_160 (by decide) rfl hf (rr_160 hf) ?_
        refine gg_iload dX10_hasName_35 0 rfl ?_
        refine gg_laldj t dX10_hasName_37 (rs_160 hf) (rl_160 hf) (by decide) rfl (by omega) ?_
        refine gg_toL (b := N t) (hM.2 t h8).2.1 ?_
        refine gg_iload_n dX10_hasName_38 4 rfl ?_
        refine gg_i2l dX10_hasName_39 ?_
        refine gg_lcmp_ne (tgt := 46) dX10_hasName_40 dX10_hasName_41 (by decide) (fun hne => ?_) (fun hne => ?_)
        · have hnt : ¬ (K t = 1 ∧ N t = gi2l (nm : Int)) := fun h => hne h.2
          refine gg_iincv (ls' := [(4, .int (iv ((t + 1 : Nat) : Int))), (0, .ref (gad (gSS ad) 145)), (1, .int (iv (f : Int))), (2, .int (iv (i : Int))), (3, .int (iv (nm : Int)))]) dX10_hasName_46 0 rfl (by omega) (by decide) rfl ?_
          refine gg_goto (tgt := 3) dX10_hasName_49 (by decide) ?_
          refine ih (t + 1) (by omega) (by omega) (by omega) (fun u h1 h2 => ?_)
          by_cases hu : u = t
          · rw [hu]
            exact hnt
          · exact hno u h1 (by omega)
        · refine gg_iconst dX10_hasName_44 ?_
          refine gg_iretz dX10_hasName_45 rfl (by decide) ⟨rfl, rfl⟩ ?_
          exact ⟨rfl, Or.inl ⟨rfl, t, ht0, by omega, by omega, hne⟩⟩

set_option maxRecDepth 10000 in
theorem c_X10_hasName {l : Launch} {Γ : gC} {ad : Nat → Nat} {I : Nat → Nat → Int} {J : Nat → Nat → Int64} {d : Nat} {f n : Nat} {K : Nat → Nat} {N : Nat → Int64} {Z : Nat → Nat} (hf : f < 12) (hM : gMt I J f n K N Z) (hW : gWf n K N Z) {nm i : Nat} (hi : i < n) : gKi l Γ gm_X10_hasName d [.ref (gad (gSS ad) 145), .int (iv (f : Int)), .int (iv (i : Int)), .int (iv (nm : Int))] (gSS ad, I, J) (fun e μ => μ = (gSS ad, I, J) ∧ ((e = 1 ∧ gHn K N Z nm i) ∨ (e = 0 ∧ ¬ gHn K N Z nm i))) := by
  refine gKi_of gk_X10_hasName.1 (Nat.le_of_ble_eq_true rfl) ?_
  show gG l Γ gm_X10_hasName (d, 0, 0, 0, 0) 0 [(0, .ref (gad (gSS ad) 145)), (1, .int (iv (f : Int))), (2, .int (iv (i : Int))), (3, .int (iv (nm : Int)))] [] _ _
  refine gg_iload_n dX10_hasName_0 2 rfl ?_
  refine gg_istore (ls' := [(4, .int (iv (i : Int))), (0, .ref (gad (gSS ad) 145)), (1, .int (iv (f : Int))), (2, .int (iv (i : Int))), (3, .int (iv (nm : Int)))]) dX10_hasName_1 (by decide) rfl ?_
  refine gg_sub [0, 1, 2, 3, 4] rfl ?_
  exact w_X10_hasName hf hM hW hi (Z i + 1) i (by omega) (by omega) (by omega) (fun u h1 h2 => by omega)

set_option maxRecDepth 10000 in
set_option maxHeartbeats 4000000 in
theorem r_X10_degreeOf {l : Launch} {Γ : gC} {ad : Nat → Nat} {I : Nat → Nat → Int} {J : Nat → Nat → Int64} {f n : Nat} {K : Nat → Nat} {N : Nat → Int64} {Z : Nat → Nat} (hf : f < 12) (hM : gMt I J f n K N Z) (hW : gWf n K N Z) {nm : Nat} : ∀ (m i : Nat), i < n → Z i ≤ m → ∀ d, m + 2 ≤ d → gKi l Γ gm_X10_degreeOf d [.ref (gad (gSS ad) 145), .int (iv (f : Int)), .int (iv (i : Int)), .int (iv (nm : Int))] (gSS ad, I, J) (fun e μ => μ = (gSS ad, I, J) ∧ e = gGc n nm K N Z i) := by
  intro m
  induction m with
  | zero => intro i hi hz; have := (hW.2.2 i hi).2.1; omega
  | succ m ih =>
    intro i hi hz d hd
    obtain ⟨hK, hZ1, hZ2, he0, he1, he2, he3, hc1, hc2, hc3, -⟩ := hW.2.2 i hi
    have hn := hW.1
    refine gKi_of gk_X10_degreeOf.1 (Nat.le_of_ble_eq_true rfl) ?_
    show gG l Γ gm_X10_degreeOf (d, 0, 0, 0, 0) 0 [(0, .ref (gad (gSS ad) 145)), (1, .int (iv (f : Int))), (2, .int (iv (i : Int))), (3, .int (iv (nm : Int)))] [] _ _
    refine gg_aload_n dX10_degreeOf_0 0 rfl ?_
    refine gg_getR (k' := 147) rfl gf_RX10_15 dX10_degreeOf_1 sh_145 pl_145 (by decide) (by decide) rr_145_1 ?_
    refine gg_iload_n dX10_degreeOf_4 1 rfl ?_
    refine gg_aaldj (t := 6) f (k' := (148 + f)) dX10_degreeOf_5 sh_147 (by decide) pl_147 (by decide) rfl hf (rr_147 hf) ?_
    refine gg_iload_n dX10_degreeOf_6 2 rfl ?_
    refine gg_ialdj i dX10_degreeOf_7 (rs_147 hf) (rl_147 hf) (by decide) rfl (by omega) ?_
    refine gg_toI (b := (K i : Int)) (hM.2 i hi).1 ?_
    obtain hk | hk | hk | hk | hk | hk | hk | hk := (by omega : K i = 0 ∨ K i = 1 ∨ K i = 2 ∨ K i = 3 ∨ K i = 4 ∨ K i = 5 ∨ K i = 6 ∨ K i = 7)
    · refine gg_toI (b := 0) (by omega) ?_
      refine gg_istore (ls' := [(4, .int (iv 0)), (0, .ref (gad (gSS ad) 145)), (1, .int (iv (f : Int))), (2, .int (iv (i : Int))), (3, .int (iv (nm : Int)))]) dX10_degreeOf_8 (by decide) rfl ?_
      refine gg_iload dX10_degreeOf_10 0 rfl ?_
      refine gg_if_ne_f (tgt := 17) dX10_degreeOf_12 (by decide) (by decide) (by decide) ?_
      refine gg_iconst dX10_degreeOf_15 ?_
      refine gg_ireti dX10_degreeOf_16 rfl ⟨rfl, rfl⟩ ?_
      refine ⟨rfl, ?_⟩
      rw [gGc_is n nm K N Z i hi]
      unfold gGF
      rw [hk, if_pos rfl]
    · refine gg_toI (b := 1) (by omega) ?_
      refine gg_istore (ls' := [(4, .int (iv 1)), (0, .ref (gad (gSS ad) 145)), (1, .int (iv (f : Int))), (2, .int (iv (i : Int))), (3, .int (iv (nm : Int)))]) dX10_degreeOf_8 (by decide) rfl ?_
      refine gg_iload dX10_degreeOf_10 0 rfl ?_
      refine gg_if_ne_t (tgt := 17) dX10_degreeOf_12 (by decide) (by decide) (by decide) ?_
      refine gg_iload dX10_degreeOf_17 0 rfl ?_
      refine gg_iconst dX10_degreeOf_19 ?_
      refine gg_icmp_ne_f (tgt := 43) dX10_degreeOf_20 (by decide) (by decide) (by decide) ?_
      refine gg_aload_n dX10_degreeOf_23 1 rfl ?_
      refine gg_getR (k' := 160) rfl gf_RX10_20 dX10_degreeOf_24 sh_145 pl_145 (by decide) (by decide) rr_145_2 ?_
      refine gg_iload_n dX10_degreeOf_27 2 rfl ?_
      refine gg_aaldj (t := 7) f (k' := (161 + f)) dX10_degreeOf_28 sh_160 (by decide) pl_160 (by decide) rfl hf (rr_160 hf) ?_
      refine gg_iload_n dX10_degreeOf_29 3 rfl ?_
      refine gg_laldj i dX10_degreeOf_30 (rs_160 hf) (rl_160 hf) (by decide) rfl (by omega) ?_
      refine gg_toL (b := N i) (hM.2 i hi).2.1 ?_
      refine gg_iload_n dX10_degreeOf_31 4 rfl ?_
      refine gg_i2l dX10_degreeOf_32 ?_
      refine gg_lcmp_ne (tgt := 41) dX10_degreeOf_33 dX10_degreeOf_34 (by decide) (fun hne => ?_) (fun hne => ?_)
      · refine gg_iconst dX10_degreeOf_41 ?_
        refine gg_ireti dX10_degreeOf_42 rfl ⟨rfl, rfl⟩ ?_
        refine ⟨rfl, ?_⟩
        rw [gGc_is n nm K N Z i hi]
        unfold gGF
        rw [hk, if_neg (show ¬ (1 : Nat) = 0 by decide), if_pos rfl, if_neg hne]
      · refine gg_iconst dX10_degreeOf_37 ?_
        refine gg_goto (tgt := 42) dX10_degreeOf_38 (by decide) ?_
        refine gg_ireti dX10_degreeOf_42 rfl ⟨rfl, rfl⟩ ?_
        refine ⟨rfl, ?_⟩
        rw [gGc_is n nm K N Z i hi]
        unfold gGF
        rw [hk, if_neg (show ¬ (1 : Nat) = 0 by decide), if_pos rfl, if_pos hne]
    · refine gg_toI (b := 2) (by omega) ?_
      refine gg_istore (ls' := [(4, .int (iv 2)), (0, .ref (gad (gSS ad) 145)), (1, .int (iv (f : Int))), (2, .int (iv (i : Int))), (3, .int (iv (nm : Int)))]) dX10_degreeOf_8 (by decide) rfl ?_
      have g1 := gG_rng (nm := nm) hW _ (hc1 (by rw [hk]; decide))
      refine gg_iload dX10_degreeOf_10 0 rfl ?_
      refine gg_if_ne_t (tgt := 17) dX10_degreeOf_12 (by decide) (by decide) (by decide) ?_
      refine gg_iload dX10_degreeOf_17 0 rfl ?_
      refine gg_iconst dX10_degreeOf_19 ?_
      refine gg_icmp_ne_t (tgt := 43) dX10_degreeOf_20 (by decide) (by decide) (by decide) ?_
      refine gg_aload_n dX10_degreeOf_43 1 rfl ?_
      refine gg_iload_n dX10_degreeOf_44 2 rfl ?_
      refine gg_iload dX10_degreeOf_45 0 rfl ?_
      refine gg_bipush dX10_degreeOf_47 (by decide) ?_
      refine gg_icmp_ne_t (tgt := 61) dX10_degreeOf_49 (by decide) (by decide) (by decide) ?_
      refine gg_iload_n dX10_degreeOf_61 3 rfl ?_
      refine gg_iconst dX10_degreeOf_62 ?_
      refine gg_iadd dX10_degreeOf_63 ?_
      refine gg_iload_n dX10_degreeOf_64 4 rfl ?_
      refine gg_callVi (own := RX10) (yt := gm_X10_degreeOf) rfl gl_RX10_331 gk_X10_degreeOf gr_X10_degreeOf dX10_degreeOf_65 (ih (i + 1) (hc1 (by rw [hk]; decide)) (by have := he1 (by rw [hk]; decide); omega) (d - 1) (by omega)) sh_145 pl_145 (by decide) rfl rfl rfl (Nat.le_of_ble_eq_true rfl) (by show _ ≤ d; omega) ⟨Nat.le_refl _, Nat.le_refl _⟩ (fun e1 μ' hc => ?_)
      obtain ⟨rfl, rfl⟩ := hc
      refine gg_istore (ls' := [(5, .int (iv (gGc n nm K N Z (i + 1)))), (4, .int (iv 2)), (0, .ref (gad (gSS ad) 145)), (1, .int (iv (f : Int))), (2, .int (iv (i : Int))), (3, .int (iv (nm : Int)))]) dX10_degreeOf_68 (by decide) rfl ?_
      refine gg_iload dX10_degreeOf_70 1 rfl ?_
      refine gg_callSi (own := RX10) (yt := gm_X10_parts) rfl gl_RX10_98 gk_X10_parts gr_X10_parts dX10_degreeOf_72 (c_X10_parts (d := d - 1) (k := 2) (by omega)) rfl rfl (Nat.le_of_ble_eq_true rfl) (by show _ ≤ d; omega) ⟨Nat.le_refl _, Nat.le_refl _⟩ (fun e2 μ' hc => ?_)
      obtain ⟨rfl, rfl⟩ := hc
      refine gg_toI (b := 1) rfl ?_
      refine gg_iconst dX10_degreeOf_75 ?_
      refine gg_icmp_ge_f (tgt := 83) dX10_degreeOf_76 (by decide) (by decide) (by decide) ?_
      refine gg_iconst dX10_degreeOf_79 ?_
      refine gg_goto (tgt := 111) dX10_degreeOf_80 (by decide) ?_
      refine gg_istore (ls' := [(6, .int (iv 0)), (5, .int (iv (gGc n nm K N Z (i + 1)))), (4, .int (iv 2)), (0, .ref (gad (gSS ad) 145)), (1, .int (iv (f : Int))), (2, .int (iv (i : Int))), (3, .int (iv (nm : Int)))]) dX10_degreeOf_111 (by decide) rfl ?_
      refine gg_iload dX10_degreeOf_113 1 rfl ?_
      refine gg_iconst dX10_degreeOf_115 ?_
      refine gg_icmp_eq (tgt := 144) dX10_degreeOf_116 (by decide) (by omega) (fun ha1 => ?_) (fun ha1 => ?_)
      · refine gg_iconst dX10_degreeOf_144 ?_
        refine gg_ireti dX10_degreeOf_145 rfl ⟨rfl, rfl⟩ ?_
        refine ⟨rfl, ?_⟩
        rw [gGc_is n nm K N Z i hi]
        unfold gGF
        rw [hk, if_neg (show ¬ (2 : Nat) = 0 by decide), if_neg (show ¬ (2 : Nat) = 1 by decide), if_neg (show ¬ (2 : Nat) = 6 by decide), if_pos (show gGc n nm K N Z (i + 1) = -1 ∨ (2 ≤ gPar 2 ∧ gGc n nm K N Z (gPt Z i 1) = -1) by simp only [show gPar 2 = 1 from rfl]; omega)]
      · refine gg_iload dX10_degreeOf_119 0 rfl ?_
        refine gg_iconst dX10_degreeOf_121 ?_
        refine gg_icmp_eq_f (tgt := 144) dX10_degreeOf_122 (by decide) (by decide) (by decide) ?_
        refine gg_iload dX10_degreeOf_125 2 rfl ?_
        refine gg_bipush dX10_degreeOf_127 (by decide) ?_
        refine gg_icmp_ne_t (tgt := 146) dX10_degreeOf_129 (by decide) (by decide) (by decide) ?_
        refine gg_iload dX10_degreeOf_146 2 rfl ?_
        refine gg_iconst dX10_degreeOf_148 ?_
        refine gg_icmp_eq_f (tgt := 159) dX10_degreeOf_149 (by decide) (by decide) (by decide) ?_
        refine gg_iload dX10_degreeOf_152 2 rfl ?_
        refine gg_bipush dX10_degreeOf_154 (by decide) ?_
        refine gg_icmp_ne_t (tgt := 169) dX10_degreeOf_156 (by decide) (by decide) (by decide) ?_
        refine gg_iload dX10_degreeOf_169 2 rfl ?_
        refine gg_iconst dX10_degreeOf_171 ?_
        refine gg_icmp_ne_t (tgt := 183) dX10_degreeOf_172 (by decide) (by decide) (by decide) ?_
        refine gg_iload dX10_degreeOf_183 2 rfl ?_
        refine gg_iconst dX10_degreeOf_185 ?_
        refine gg_icmp_ne_t (tgt := 204) dX10_degreeOf_186 (by decide) (by decide) (by decide) ?_
        refine gg_iload dX10_degreeOf_204 2 rfl ?_
        refine gg_bipush dX10_degreeOf_206 (by decide) ?_
        refine gg_icmp_ne_t (tgt := 218) dX10_degreeOf_208 (by decide) (by decide) (by decide) ?_
        refine gg_iload dX10_degreeOf_218 1 rfl ?_
        refine gg_istore (ls' := [(7, .int (iv (gGc n nm K N Z (i + 1)))), (6, .int (iv 0)), (5, .int (iv (gGc n nm K N Z (i + 1)))), (4, .int (iv 2)), (0, .ref (gad (gSS ad) 145)), (1, .int (iv (f : Int))), (2, .int (iv (i : Int))), (3, .int (iv (nm : Int)))]) dX10_degreeOf_220 (by decide) rfl ?_
        refine gg_sipush dX10_degreeOf_222 (by decide) ?_
        refine gg_iload dX10_degreeOf_225 0 rfl ?_
        refine gg_mmin rfl gl_RX10_299 dX10_degreeOf_227 (by first | omega | (have := hmr ha1; omega)) (Nat.le_of_ble_eq_true rfl) (by omega) ⟨Nat.le_refl _, Nat.le_refl _⟩ ?_
        refine gg_ireti dX10_degreeOf_230 rfl ⟨rfl, rfl⟩ ?_
        refine ⟨rfl, ?_⟩
        rw [gGc_is n nm K N Z i hi]
        unfold gGF
        rw [hk, if_neg (show ¬ (2 : Nat) = 0 by decide), if_neg (show ¬ (2 : Nat) = 1 by decide), if_neg (show ¬ (2 : Nat) = 6 by decide), if_neg (show ¬ (gGc n nm K N Z (i + 1) = -1 ∨ (2 ≤ gPar 2 ∧ gGc n nm K N Z (gPt Z i 1) = -1)) by simp only [show gPar 2 = 1 from rfl]; omega)]
        exact rfl
    · refine gg_toI (b := 3) (by omega) ?_
      refine gg_istore (ls' := [(4, .int (iv 3)), (0, .ref (gad (gSS ad) 145)), (1, .int (iv (f : Int))), (2, .int (iv (i : Int))), (3, .int (iv (nm : Int)))]) dX10_degreeOf_8 (by decide) rfl ?_
      have g1 := gG_rng (nm := nm) hW _ (hc1 (by rw [hk]; decide))
      have g2 := gG_rng (nm := nm) hW _ (hc2 (by rw [hk]; decide))
      refine gg_iload dX10_degreeOf_10 0 rfl ?_
      refine gg_if_ne_t (tgt := 17) dX10_degreeOf_12 (by decide) (by decide) (by decide) ?_
      refine gg_iload dX10_degreeOf_17 0 rfl ?_
      refine gg_iconst dX10_degreeOf_19 ?_
      refine gg_icmp_ne_t (tgt := 43) dX10_degreeOf_20 (by decide) (by decide) (by decide) ?_
      refine gg_aload_n dX10_degreeOf_43 1 rfl ?_
      refine gg_iload_n dX10_degreeOf_44 2 rfl ?_
      refine gg_iload dX10_degreeOf_45 0 rfl ?_
      refine gg_bipush dX10_degreeOf_47 (by decide) ?_
      refine gg_icmp_ne_t (tgt := 61) dX10_degreeOf_49 (by decide) (by decide) (by decide) ?_
      refine gg_iload_n dX10_degreeOf_61 3 rfl ?_
      refine gg_iconst dX10_degreeOf_62 ?_
      refine gg_iadd dX10_degreeOf_63 ?_
      refine gg_iload_n dX10_degreeOf_64 4 rfl ?_
      refine gg_callVi (own := RX10) (yt := gm_X10_degreeOf) rfl gl_RX10_331 gk_X10_degreeOf gr_X10_degreeOf dX10_degreeOf_65 (ih (i + 1) (hc1 (by rw [hk]; decide)) (by have := he2 (by rw [hk]; decide); omega) (d - 1) (by omega)) sh_145 pl_145 (by decide) rfl rfl rfl (Nat.le_of_ble_eq_true rfl) (by show _ ≤ d; omega) ⟨Nat.le_refl _, Nat.le_refl _⟩ (fun e3 μ' hc => ?_)
      obtain ⟨rfl, rfl⟩ := hc
      refine gg_istore (ls' := [(5, .int (iv (gGc n nm K N Z (i + 1)))), (4, .int (iv 3)), (0, .ref (gad (gSS ad) 145)), (1, .int (iv (f : Int))), (2, .int (iv (i : Int))), (3, .int (iv (nm : Int)))]) dX10_degreeOf_68 (by decide) rfl ?_
      refine gg_iload dX10_degreeOf_70 1 rfl ?_
      refine gg_callSi (own := RX10) (yt := gm_X10_parts) rfl gl_RX10_98 gk_X10_parts gr_X10_parts dX10_degreeOf_72 (c_X10_parts (d := d - 1) (k := 3) (by omega)) rfl rfl (Nat.le_of_ble_eq_true rfl) (by show _ ≤ d; omega) ⟨Nat.le_refl _, Nat.le_refl _⟩ (fun e4 μ' hc => ?_)
      obtain ⟨rfl, rfl⟩ := hc
      refine gg_toI (b := 2) rfl ?_
      refine gg_iconst dX10_degreeOf_75 ?_
      refine gg_icmp_ge_t (tgt := 83) dX10_degreeOf_76 (by decide) (by decide) (by decide) ?_
      refine gg_aload_n dX10_degreeOf_83 2 rfl ?_
      refine gg_iload_n dX10_degreeOf_84 3 rfl ?_
      refine gg_iload dX10_degreeOf_85 1 rfl ?_
      refine gg_bipush dX10_degreeOf_87 (by decide) ?_
      refine gg_icmp_ne_t (tgt := 101) dX10_degreeOf_89 (by decide) (by decide) (by decide) ?_
      refine gg_aload_n dX10_degreeOf_101 2 rfl ?_
      refine gg_iload_n dX10_degreeOf_102 3 rfl ?_
      refine gg_iload_n dX10_degreeOf_103 4 rfl ?_
      refine gg_callVi (own := RX10) (yt := gm_X10_second) rfl gl_RX10_109 gk_X10_second gr_X10_second dX10_degreeOf_104 (c_X10_second (d := d - 1) hf hM hW (i := i) (hc1 (by rw [hk]; decide))) sh_145 pl_145 (by decide) rfl rfl rfl (Nat.le_of_ble_eq_true rfl) (by show _ ≤ d; omega) ⟨Nat.le_refl _, Nat.le_refl _⟩ (fun e5 μ' hc => ?_)
      obtain ⟨rfl, rfl⟩ := hc
      refine gg_iload_n dX10_degreeOf_107 5 rfl ?_
      refine gg_callVi (own := RX10) (yt := gm_X10_degreeOf) rfl gl_RX10_331 gk_X10_degreeOf gr_X10_degreeOf dX10_degreeOf_108 (ih (gPt Z i 1) (hc2 (by rw [hk]; decide)) (by have := he2 (by rw [hk]; decide); omega) (d - 1) (by omega)) sh_145 pl_145 (by decide) rfl rfl rfl (Nat.le_of_ble_eq_true rfl) (by show _ ≤ d; omega) ⟨Nat.le_refl _, Nat.le_refl _⟩ (fun e6 μ' hc => ?_)
      obtain ⟨rfl, rfl⟩ := hc
      refine gg_istore (ls' := [(6, .int (iv (gGc n nm K N Z (gPt Z i 1)))), (5, .int (iv (gGc n nm K N Z (i + 1)))), (4, .int (iv 3)), (0, .ref (gad (gSS ad) 145)), (1, .int (iv (f : Int))), (2, .int (iv (i : Int))), (3, .int (iv (nm : Int)))]) dX10_degreeOf_111 (by decide) rfl ?_
      refine gg_iload dX10_degreeOf_113 1 rfl ?_
      refine gg_iconst dX10_degreeOf_115 ?_
      refine gg_icmp_eq (tgt := 144) dX10_degreeOf_116 (by decide) (by omega) (fun ha1 => ?_) (fun ha1 => ?_)
      · refine gg_iconst dX10_degreeOf_144 ?_
        refine gg_ireti dX10_degreeOf_145 rfl ⟨rfl, rfl⟩ ?_
        refine ⟨rfl, ?_⟩
        rw [gGc_is n nm K N Z i hi]
        unfold gGF
        rw [hk, if_neg (show ¬ (3 : Nat) = 0 by decide), if_neg (show ¬ (3 : Nat) = 1 by decide), if_neg (show ¬ (3 : Nat) = 6 by decide), if_pos (show gGc n nm K N Z (i + 1) = -1 ∨ (2 ≤ gPar 3 ∧ gGc n nm K N Z (gPt Z i 1) = -1) by simp only [show gPar 3 = 2 from rfl]; omega)]
      · refine gg_iload dX10_degreeOf_119 0 rfl ?_
        refine gg_iconst dX10_degreeOf_121 ?_
        refine gg_icmp_eq (tgt := 144) dX10_degreeOf_122 (by decide) (by omega) (fun hb1 => ?_) (fun hb1 => ?_)
        · refine gg_iconst dX10_degreeOf_144 ?_
          refine gg_ireti dX10_degreeOf_145 rfl ⟨rfl, rfl⟩ ?_
          refine ⟨rfl, ?_⟩
          rw [gGc_is n nm K N Z i hi]
          unfold gGF
          rw [hk, if_neg (show ¬ (3 : Nat) = 0 by decide), if_neg (show ¬ (3 : Nat) = 1 by decide), if_neg (show ¬ (3 : Nat) = 6 by decide), if_pos (show gGc n nm K N Z (i + 1) = -1 ∨ (2 ≤ gPar 3 ∧ gGc n nm K N Z (gPt Z i 1) = -1) by simp only [show gPar 3 = 2 from rfl]; omega)]
        · refine gg_iload dX10_degreeOf_125 2 rfl ?_
          refine gg_bipush dX10_degreeOf_127 (by decide) ?_
          refine gg_icmp_ne_t (tgt := 146) dX10_degreeOf_129 (by decide) (by decide) (by decide) ?_
          refine gg_iload dX10_degreeOf_146 2 rfl ?_
          refine gg_iconst dX10_degreeOf_148 ?_
          refine gg_icmp_eq_t (tgt := 159) dX10_degreeOf_149 (by decide) (by decide) (by decide) ?_
          refine gg_iload dX10_degreeOf_159 1 rfl ?_
          refine gg_iload dX10_degreeOf_161 0 rfl ?_
          refine gg_mmax rfl gl_RX10_284 dX10_degreeOf_163 (by omega) (Nat.le_of_ble_eq_true rfl) (by omega) ⟨Nat.le_refl _, Nat.le_refl _⟩ ?_
          refine gg_goto (tgt := 220) dX10_degreeOf_166 (by decide) ?_
          refine gg_istore (ls' := [(7, .int (iv (max (gGc n nm K N Z (i + 1)) (gGc n nm K N Z (gPt Z i 1))))), (6, .int (iv (gGc n nm K N Z (gPt Z i 1)))), (5, .int (iv (gGc n nm K N Z (i + 1)))), (4, .int (iv 3)), (0, .ref (gad (gSS ad) 145)), (1, .int (iv (f : Int))), (2, .int (iv (i : Int))), (3, .int (iv (nm : Int)))]) dX10_degreeOf_220 (by decide) rfl ?_
          refine gg_sipush dX10_degreeOf_222 (by decide) ?_
          refine gg_iload dX10_degreeOf_225 0 rfl ?_
          refine gg_mmin rfl gl_RX10_299 dX10_degreeOf_227 (by first | omega | (have := hmr ha1; omega)) (Nat.le_of_ble_eq_true rfl) (by omega) ⟨Nat.le_refl _, Nat.le_refl _⟩ ?_
          refine gg_ireti dX10_degreeOf_230 rfl ⟨rfl, rfl⟩ ?_
          refine ⟨rfl, ?_⟩
          rw [gGc_is n nm K N Z i hi]
          unfold gGF
          rw [hk, if_neg (show ¬ (3 : Nat) = 0 by decide), if_neg (show ¬ (3 : Nat) = 1 by decide), if_neg (show ¬ (3 : Nat) = 6 by decide), if_neg (show ¬ (gGc n nm K N Z (i + 1) = -1 ∨ (2 ≤ gPar 3 ∧ gGc n nm K N Z (gPt Z i 1) = -1)) by simp only [show gPar 3 = 2 from rfl]; omega)]
          exact rfl
    · refine gg_toI (b := 4) (by omega) ?_
      refine gg_istore (ls' := [(4, .int (iv 4)), (0, .ref (gad (gSS ad) 145)), (1, .int (iv (f : Int))), (2, .int (iv (i : Int))), (3, .int (iv (nm : Int)))]) dX10_degreeOf_8 (by decide) rfl ?_
      have g1 := gG_rng (nm := nm) hW _ (hc1 (by rw [hk]; decide))
      have g2 := gG_rng (nm := nm) hW _ (hc2 (by rw [hk]; decide))
      refine gg_iload dX10_degreeOf_10 0 rfl ?_
      refine gg_if_ne_t (tgt := 17) dX10_degreeOf_12 (by decide) (by decide) (by decide) ?_
      refine gg_iload dX10_degreeOf_17 0 rfl ?_
      refine gg_iconst dX10_degreeOf_19 ?_
      refine gg_icmp_ne_t (tgt := 43) dX10_degreeOf_20 (by decide) (by decide) (by decide) ?_
      refine gg_aload_n dX10_degreeOf_43 1 rfl ?_
      refine gg_iload_n dX10_degreeOf_44 2 rfl ?_
      refine gg_iload dX10_degreeOf_45 0 rfl ?_
      refine gg_bipush dX10_degreeOf_47 (by decide) ?_
      refine gg_icmp_ne_t (tgt := 61) dX10_degreeOf_49 (by decide) (by decide) (by decide) ?_
      refine gg_iload_n dX10_degreeOf_61 3 rfl ?_
      refine gg_iconst dX10_degreeOf_62 ?_
      refine gg_iadd dX10_degreeOf_63 ?_
      refine gg_iload_n dX10_degreeOf_64 4 rfl ?_
      refine gg_callVi (own := RX10) (yt := gm_X10_degreeOf) rfl gl_RX10_331 gk_X10_degreeOf gr_X10_degreeOf dX10_degreeOf_65 (ih (i + 1) (hc1 (by rw [hk]; decide)) (by have := he2 (by rw [hk]; decide); omega) (d - 1) (by omega)) sh_145 pl_145 (by decide) rfl rfl rfl (Nat.le_of_ble_eq_true rfl) (by show _ ≤ d; omega) ⟨Nat.le_refl _, Nat.le_refl _⟩ (fun e7 μ' hc => ?_)
      obtain ⟨rfl, rfl⟩ := hc
      refine gg_istore (ls' := [(5, .int (iv (gGc n nm K N Z (i + 1)))), (4, .int (iv 4)), (0, .ref (gad (gSS ad) 145)), (1, .int (iv (f : Int))), (2, .int (iv (i : Int))), (3, .int (iv (nm : Int)))]) dX10_degreeOf_68 (by decide) rfl ?_
      refine gg_iload dX10_degreeOf_70 1 rfl ?_
      refine gg_callSi (own := RX10) (yt := gm_X10_parts) rfl gl_RX10_98 gk_X10_parts gr_X10_parts dX10_degreeOf_72 (c_X10_parts (d := d - 1) (k := 4) (by omega)) rfl rfl (Nat.le_of_ble_eq_true rfl) (by show _ ≤ d; omega) ⟨Nat.le_refl _, Nat.le_refl _⟩ (fun e8 μ' hc => ?_)
      obtain ⟨rfl, rfl⟩ := hc
      refine gg_toI (b := 2) rfl ?_
      refine gg_iconst dX10_degreeOf_75 ?_
      refine gg_icmp_ge_t (tgt := 83) dX10_degreeOf_76 (by decide) (by decide) (by decide) ?_
      refine gg_aload_n dX10_degreeOf_83 2 rfl ?_
      refine gg_iload_n dX10_degreeOf_84 3 rfl ?_
      refine gg_iload dX10_degreeOf_85 1 rfl ?_
      refine gg_bipush dX10_degreeOf_87 (by decide) ?_
      refine gg_icmp_ne_t (tgt := 101) dX10_degreeOf_89 (by decide) (by decide) (by decide) ?_
      refine gg_aload_n dX10_degreeOf_101 2 rfl ?_
      refine gg_iload_n dX10_degreeOf_102 3 rfl ?_
      refine gg_iload_n dX10_degreeOf_103 4 rfl ?_
      refine gg_callVi (own := RX10) (yt := gm_X10_second) rfl gl_RX10_109 gk_X10_second gr_X10_second dX10_degreeOf_104 (c_X10_second (d := d - 1) hf hM hW (i := i) (hc1 (by rw [hk]; decide))) sh_145 pl_145 (by decide) rfl rfl rfl (Nat.le_of_ble_eq_true rfl) (by show _ ≤ d; omega) ⟨Nat.le_refl _, Nat.le_refl _⟩ (fun e9 μ' hc => ?_)
      obtain ⟨rfl, rfl⟩ := hc
      refine gg_iload_n dX10_degreeOf_107 5 rfl ?_
      refine gg_callVi (own := RX10) (yt := gm_X10_degreeOf) rfl gl_RX10_331 gk_X10_degreeOf gr_X10_degreeOf dX10_degreeOf_108 (ih (gPt Z i 1) (hc2 (by rw [hk]; decide)) (by have := he2 (by rw [hk]; decide); omega) (d - 1) (by omega)) sh_145 pl_145 (by decide) rfl rfl rfl (Nat.le_of_ble_eq_true rfl) (by show _ ≤ d; omega) ⟨Nat.le_refl _, Nat.le_refl _⟩ (fun e10 μ' hc => ?_)
      obtain ⟨rfl, rfl⟩ := hc
      refine gg_istore (ls' := [(6, .int (iv (gGc n nm K N Z (gPt Z i 1)))), (5, .int (iv (gGc n nm K N Z (i + 1)))), (4, .int (iv 4)), (0, .ref (gad (gSS ad) 145)), (1, .int (iv (f : Int))), (2, .int (iv (i : Int))), (3, .int (iv (nm : Int)))]) dX10_degreeOf_111 (by decide) rfl ?_
      refine gg_iload dX10_degreeOf_113 1 rfl ?_
      refine gg_iconst dX10_degreeOf_115 ?_
      refine gg_icmp_eq (tgt := 144) dX10_degreeOf_116 (by decide) (by omega) (fun ha1 => ?_) (fun ha1 => ?_)
      · refine gg_iconst dX10_degreeOf_144 ?_
        refine gg_ireti dX10_degreeOf_145 rfl ⟨rfl, rfl⟩ ?_
        refine ⟨rfl, ?_⟩
        rw [gGc_is n nm K N Z i hi]
        unfold gGF
        rw [hk, if_neg (show ¬ (4 : Nat) = 0 by decide), if_neg (show ¬ (4 : Nat) = 1 by decide), if_neg (show ¬ (4 : Nat) = 6 by decide), if_pos (show gGc n nm K N Z (i + 1) = -1 ∨ (2 ≤ gPar 4 ∧ gGc n nm K N Z (gPt Z i 1) = -1) by simp only [show gPar 4 = 2 from rfl]; omega)]
      · refine gg_iload dX10_degreeOf_119 0 rfl ?_
        refine gg_iconst dX10_degreeOf_121 ?_
        refine gg_icmp_eq (tgt := 144) dX10_degreeOf_122 (by decide) (by omega) (fun hb1 => ?_) (fun hb1 => ?_)
        · refine gg_iconst dX10_degreeOf_144 ?_
          refine gg_ireti dX10_degreeOf_145 rfl ⟨rfl, rfl⟩ ?_
          refine ⟨rfl, ?_⟩
          rw [gGc_is n nm K N Z i hi]
          unfold gGF
          rw [hk, if_neg (show ¬ (4 : Nat) = 0 by decide), if_neg (show ¬ (4 : Nat) = 1 by decide), if_neg (show ¬ (4 : Nat) = 6 by decide), if_pos (show gGc n nm K N Z (i + 1) = -1 ∨ (2 ≤ gPar 4 ∧ gGc n nm K N Z (gPt Z i 1) = -1) by simp only [show gPar 4 = 2 from rfl]; omega)]
        · refine gg_iload dX10_degreeOf_125 2 rfl ?_
          refine gg_bipush dX10_degreeOf_127 (by decide) ?_
          refine gg_icmp_ne_t (tgt := 146) dX10_degreeOf_129 (by decide) (by decide) (by decide) ?_
          refine gg_iload dX10_degreeOf_146 2 rfl ?_
          refine gg_iconst dX10_degreeOf_148 ?_
          refine gg_icmp_eq_f (tgt := 159) dX10_degreeOf_149 (by decide) (by decide) (by decide) ?_
          refine gg_iload dX10_degreeOf_152 2 rfl ?_
          refine gg_bipush dX10_degreeOf_154 (by decide) ?_
          refine gg_icmp_ne_t (tgt := 169) dX10_degreeOf_156 (by decide) (by decide) (by decide) ?_
          refine gg_iload dX10_degreeOf_169 2 rfl ?_
          refine gg_iconst dX10_degreeOf_171 ?_
          refine gg_icmp_ne_f (tgt := 183) dX10_degreeOf_172 (by decide) (by decide) (by decide) ?_
          refine gg_iload dX10_degreeOf_175 1 rfl ?_
          refine gg_iload dX10_degreeOf_177 0 rfl ?_
          refine gg_iadd dX10_degreeOf_179 ?_
          refine gg_goto (tgt := 220) dX10_degreeOf_180 (by decide) ?_
          refine gg_istore (ls' := [(7, .int (iv ((gGc n nm K N Z (i + 1)) + (gGc n nm K N Z (gPt Z i 1))))), (6, .int (iv (gGc n nm K N Z (gPt Z i 1)))), (5, .int (iv (gGc n nm K N Z (i + 1)))), (4, .int (iv 4)), (0, .ref (gad (gSS ad) 145)), (1, .int (iv (f : Int))), (2, .int (iv (i : Int))), (3, .int (iv (nm : Int)))]) dX10_degreeOf_220 (by decide) rfl ?_
          refine gg_sipush dX10_degreeOf_222 (by decide) ?_
          refine gg_iload dX10_degreeOf_225 0 rfl ?_
          refine gg_mmin rfl gl_RX10_299 dX10_degreeOf_227 (by first | omega | (have := hmr ha1; omega)) (Nat.le_of_ble_eq_true rfl) (by omega) ⟨Nat.le_refl _, Nat.le_refl _⟩ ?_
          refine gg_ireti dX10_degreeOf_230 rfl ⟨rfl, rfl⟩ ?_
          refine ⟨rfl, ?_⟩
          rw [gGc_is n nm K N Z i hi]
          unfold gGF
          rw [hk, if_neg (show ¬ (4 : Nat) = 0 by decide), if_neg (show ¬ (4 : Nat) = 1 by decide), if_neg (show ¬ (4 : Nat) = 6 by decide), if_neg (show ¬ (gGc n nm K N Z (i + 1) = -1 ∨ (2 ≤ gPar 4 ∧ gGc n nm K N Z (gPt Z i 1) = -1)) by simp only [show gPar 4 = 2 from rfl]; omega)]
          exact rfl
    · refine gg_toI (b := 5) (by omega) ?_
      refine gg_istore (ls' := [(4, .int (iv 5)), (0, .ref (gad (gSS ad) 145)), (1, .int (iv (f : Int))), (2, .int (iv (i : Int))), (3, .int (iv (nm : Int)))]) dX10_degreeOf_8 (by decide) rfl ?_
      have g1 := gG_rng (nm := nm) hW _ (hc1 (by rw [hk]; decide))
      have hd5 := gdig hW hi hk
      have hmr : gGc n nm K N Z (i + 1) ≠ -1 → 0 ≤ gGc n nm K N Z (i + 1) * gl2i (N i) ∧ gGc n nm K N Z (i + 1) * gl2i (N i) ≤ 89991 := fun hh => gmul_rng (by omega) hd5
      refine gg_iload dX10_degreeOf_10 0 rfl ?_
      refine gg_if_ne_t (tgt := 17) dX10_degreeOf_12 (by decide) (by decide) (by decide) ?_
      refine gg_iload dX10_degreeOf_17 0 rfl ?_
      refine gg_iconst dX10_degreeOf_19 ?_
      refine gg_icmp_ne_t (tgt := 43) dX10_degreeOf_20 (by decide) (by decide) (by decide) ?_
      refine gg_aload_n dX10_degreeOf_43 1 rfl ?_
      refine gg_iload_n dX10_degreeOf_44 2 rfl ?_
      refine gg_iload dX10_degreeOf_45 0 rfl ?_
      refine gg_bipush dX10_degreeOf_47 (by decide) ?_
      refine gg_icmp_ne_t (tgt := 61) dX10_degreeOf_49 (by decide) (by decide) (by decide) ?_
      refine gg_iload_n dX10_degreeOf_61 3 rfl ?_
      refine gg_iconst dX10_degreeOf_62 ?_
      refine gg_iadd dX10_degreeOf_63 ?_
      refine gg_iload_n dX10_degreeOf_64 4 rfl ?_
      refine gg_callVi (own := RX10) (yt := gm_X10_degreeOf) rfl gl_RX10_331 gk_X10_degreeOf gr_X10_degreeOf dX10_degreeOf_65 (ih (i + 1) (hc1 (by rw [hk]; decide)) (by have := he1 (by rw [hk]; decide); omega) (d - 1) (by omega)) sh_145 pl_145 (by decide) rfl rfl rfl (Nat.le_of_ble_eq_true rfl) (by show _ ≤ d; omega) ⟨Nat.le_refl _, Nat.le_refl _⟩ (fun e11 μ' hc => ?_)
      obtain ⟨rfl, rfl⟩ := hc
      refine gg_istore (ls' := [(5, .int (iv (gGc n nm K N Z (i + 1)))), (4, .int (iv 5)), (0, .ref (gad (gSS ad) 145)), (1, .int (iv (f : Int))), (2, .int (iv (i : Int))), (3, .int (iv (nm : Int)))]) dX10_degreeOf_68 (by decide) rfl ?_
      refine gg_iload dX10_degreeOf_70 1 rfl ?_
      refine gg_callSi (own := RX10) (yt := gm_X10_parts) rfl gl_RX10_98 gk_X10_parts gr_X10_parts dX10_degreeOf_72 (c_X10_parts (d := d - 1) (k := 5) (by omega)) rfl rfl (Nat.le_of_ble_eq_true rfl) (by show _ ≤ d; omega) ⟨Nat.le_refl _, Nat.le_refl _⟩ (fun e12 μ' hc => ?_)
      obtain ⟨rfl, rfl⟩ := hc
      refine gg_toI (b := 1) rfl ?_
      refine gg_iconst dX10_degreeOf_75 ?_
      refine gg_icmp_ge_f (tgt := 83) dX10_degreeOf_76 (by decide) (by decide) (by decide) ?_
      refine gg_iconst dX10_degreeOf_79 ?_
      refine gg_goto (tgt := 111) dX10_degreeOf_80 (by decide) ?_
      refine gg_istore (ls' := [(6, .int (iv 0)), (5, .int (iv (gGc n nm K N Z (i + 1)))), (4, .int (iv 5)), (0, .ref (gad (gSS ad) 145)), (1, .int (iv (f : Int))), (2, .int (iv (i : Int))), (3, .int (iv (nm : Int)))]) dX10_degreeOf_111 (by decide) rfl ?_
      refine gg_iload dX10_degreeOf_113 1 rfl ?_
      refine gg_iconst dX10_degreeOf_115 ?_
      refine gg_icmp_eq (tgt := 144) dX10_degreeOf_116 (by decide) (by omega) (fun ha1 => ?_) (fun ha1 => ?_)
      · refine gg_iconst dX10_degreeOf_144 ?_
        refine gg_ireti dX10_degreeOf_145 rfl ⟨rfl, rfl⟩ ?_
        refine ⟨rfl, ?_⟩
        rw [gGc_is n nm K N Z i hi]
        unfold gGF
        rw [hk, if_neg (show ¬ (5 : Nat) = 0 by decide), if_neg (show ¬ (5 : Nat) = 1 by decide), if_neg (show ¬ (5 : Nat) = 6 by decide), if_pos (show gGc n nm K N Z (i + 1) = -1 ∨ (2 ≤ gPar 5 ∧ gGc n nm K N Z (gPt Z i 1) = -1) by simp only [show gPar 5 = 1 from rfl]; omega)]
      · refine gg_iload dX10_degreeOf_119 0 rfl ?_
        refine gg_iconst dX10_degreeOf_121 ?_
        refine gg_icmp_eq_f (tgt := 144) dX10_degreeOf_122 (by decide) (by decide) (by decide) ?_
        refine gg_iload dX10_degreeOf_125 2 rfl ?_
        refine gg_bipush dX10_degreeOf_127 (by decide) ?_
        refine gg_icmp_ne_t (tgt := 146) dX10_degreeOf_129 (by decide) (by decide) (by decide) ?_
        refine gg_iload dX10_degreeOf_146 2 rfl ?_
        refine gg_iconst dX10_degreeOf_148 ?_
        refine gg_icmp_eq_f (tgt := 159) dX10_degreeOf_149 (by decide) (by decide) (by decide) ?_
        refine gg_iload dX10_degreeOf_152 2 rfl ?_
        refine gg_bipush dX10_degreeOf_154 (by decide) ?_
        refine gg_icmp_ne_t (tgt := 169) dX10_degreeOf_156 (by decide) (by decide) (by decide) ?_
        refine gg_iload dX10_degreeOf_169 2 rfl ?_
        refine gg_iconst dX10_degreeOf_171 ?_
        refine gg_icmp_ne_t (tgt := 183) dX10_degreeOf_172 (by decide) (by decide) (by decide) ?_
        refine gg_iload dX10_degreeOf_183 2 rfl ?_
        refine gg_iconst dX10_degreeOf_185 ?_
        refine gg_icmp_ne_f (tgt := 204) dX10_degreeOf_186 (by decide) (by decide) (by decide) ?_
        refine gg_iload dX10_degreeOf_189 1 rfl ?_
        refine gg_aload_n dX10_degreeOf_191 3 rfl ?_
        refine gg_getR (k' := 160) rfl gf_RX10_20 dX10_degreeOf_192 sh_145 pl_145 (by decide) (by decide) rr_145_2 ?_
        refine gg_iload_n dX10_degreeOf_195 4 rfl ?_
        refine gg_aaldj (t := 7) f (k' := (161 + f)) dX10_degreeOf_196 sh_160 (by decide) pl_160 (by decide) rfl hf (rr_160 hf) ?_
        refine gg_iload_n dX10_degreeOf_197 5 rfl ?_
        refine gg_laldj i dX10_degreeOf_198 (rs_160 hf) (rl_160 hf) (by decide) rfl (by omega) ?_
        refine gg_toL (b := N i) (hM.2 i hi).2.1 ?_
        refine gg_l2i dX10_degreeOf_199 ?_
        refine gg_imul dX10_degreeOf_200 ?_
        refine gg_goto (tgt := 220) dX10_degreeOf_201 (by decide) ?_
        refine gg_istore (ls' := [(7, .int (iv ((gGc n nm K N Z (i + 1)) * (gl2i (N i))))), (6, .int (iv 0)), (5, .int (iv (gGc n nm K N Z (i + 1)))), (4, .int (iv 5)), (0, .ref (gad (gSS ad) 145)), (1, .int (iv (f : Int))), (2, .int (iv (i : Int))), (3, .int (iv (nm : Int)))]) dX10_degreeOf_220 (by decide) rfl ?_
        refine gg_sipush dX10_degreeOf_222 (by decide) ?_
        refine gg_iload dX10_degreeOf_225 0 rfl ?_
        refine gg_mmin rfl gl_RX10_299 dX10_degreeOf_227 (by first | omega | (have := hmr ha1; omega)) (Nat.le_of_ble_eq_true rfl) (by omega) ⟨Nat.le_refl _, Nat.le_refl _⟩ ?_
        refine gg_ireti dX10_degreeOf_230 rfl ⟨rfl, rfl⟩ ?_
        refine ⟨rfl, ?_⟩
        rw [gGc_is n nm K N Z i hi]
        unfold gGF
        rw [hk, if_neg (show ¬ (5 : Nat) = 0 by decide), if_neg (show ¬ (5 : Nat) = 1 by decide), if_neg (show ¬ (5 : Nat) = 6 by decide), if_neg (show ¬ (gGc n nm K N Z (i + 1) = -1 ∨ (2 ≤ gPar 5 ∧ gGc n nm K N Z (gPt Z i 1) = -1)) by simp only [show gPar 5 = 1 from rfl]; omega)]
        exact rfl
    · refine gg_toI (b := 6) (by omega) ?_
      refine gg_istore (ls' := [(4, .int (iv 6)), (0, .ref (gad (gSS ad) 145)), (1, .int (iv (f : Int))), (2, .int (iv (i : Int))), (3, .int (iv (nm : Int)))]) dX10_degreeOf_8 (by decide) rfl ?_
      have g1 := gG_rng (nm := nm) hW _ (hc1 (by rw [hk]; decide))
      have g2 := gG_rng (nm := nm) hW _ (hc2 (by rw [hk]; decide))
      have g3 := gG_rng (nm := nm) hW _ (hc3 (by rw [hk]; decide))
      refine gg_iload dX10_degreeOf_10 0 rfl ?_
      refine gg_if_ne_t (tgt := 17) dX10_degreeOf_12 (by decide) (by decide) (by decide) ?_
      refine gg_iload dX10_degreeOf_17 0 rfl ?_
      refine gg_iconst dX10_degreeOf_19 ?_
      refine gg_icmp_ne_t (tgt := 43) dX10_degreeOf_20 (by decide) (by decide) (by decide) ?_
      refine gg_aload_n dX10_degreeOf_43 1 rfl ?_
      refine gg_iload_n dX10_degreeOf_44 2 rfl ?_
      refine gg_iload dX10_degreeOf_45 0 rfl ?_
      refine gg_bipush dX10_degreeOf_47 (by decide) ?_
      refine gg_icmp_ne_f (tgt := 61) dX10_degreeOf_49 (by decide) (by decide) (by decide) ?_
      refine gg_aload_n dX10_degreeOf_52 1 rfl ?_
      refine gg_iload_n dX10_degreeOf_53 2 rfl ?_
      refine gg_iload_n dX10_degreeOf_54 3 rfl ?_
      refine gg_callVi (own := RX10) (yt := gm_X10_second) rfl gl_RX10_109 gk_X10_second gr_X10_second dX10_degreeOf_55 (c_X10_second (d := d - 1) hf hM hW (i := i) (hc1 (by rw [hk]; decide))) sh_145 pl_145 (by decide) rfl rfl rfl (Nat.le_of_ble_eq_true rfl) (by show _ ≤ d; omega) ⟨Nat.le_refl _, Nat.le_refl _⟩ (fun e13 μ' hc => ?_)
      obtain ⟨rfl, rfl⟩ := hc
      refine gg_goto (tgt := 64) dX10_degreeOf_58 (by decide) ?_
      refine gg_iload_n dX10_degreeOf_64 4 rfl ?_
      refine gg_callVi (own := RX10) (yt := gm_X10_degreeOf) rfl gl_RX10_331 gk_X10_degreeOf gr_X10_degreeOf dX10_degreeOf_65 (ih (gPt Z i 1) (hc2 (by rw [hk]; decide)) (by have := he3 (by rw [hk]; decide); omega) (d - 1) (by omega)) sh_145 pl_145 (by decide) rfl rfl rfl (Nat.le_of_ble_eq_true rfl) (by show _ ≤ d; omega) ⟨Nat.le_refl _, Nat.le_refl _⟩ (fun e14 μ' hc => ?_)
      obtain ⟨rfl, rfl⟩ := hc
      refine gg_istore (ls' := [(5, .int (iv (gGc n nm K N Z (gPt Z i 1)))), (4, .int (iv 6)), (0, .ref (gad (gSS ad) 145)), (1, .int (iv (f : Int))), (2, .int (iv (i : Int))), (3, .int (iv (nm : Int)))]) dX10_degreeOf_68 (by decide) rfl ?_
      refine gg_iload dX10_degreeOf_70 1 rfl ?_
      refine gg_callSi (own := RX10) (yt := gm_X10_parts) rfl gl_RX10_98 gk_X10_parts gr_X10_parts dX10_degreeOf_72 (c_X10_parts (d := d - 1) (k := 6) (by omega)) rfl rfl (Nat.le_of_ble_eq_true rfl) (by show _ ≤ d; omega) ⟨Nat.le_refl _, Nat.le_refl _⟩ (fun e15 μ' hc => ?_)
      obtain ⟨rfl, rfl⟩ := hc
      refine gg_toI (b := 3) rfl ?_
      refine gg_iconst dX10_degreeOf_75 ?_
      refine gg_icmp_ge_t (tgt := 83) dX10_degreeOf_76 (by decide) (by decide) (by decide) ?_
      refine gg_aload_n dX10_degreeOf_83 2 rfl ?_
      refine gg_iload_n dX10_degreeOf_84 3 rfl ?_
      refine gg_iload dX10_degreeOf_85 1 rfl ?_
      refine gg_bipush dX10_degreeOf_87 (by decide) ?_
      refine gg_icmp_ne_f (tgt := 101) dX10_degreeOf_89 (by decide) (by decide) (by decide) ?_
      refine gg_aload_n dX10_degreeOf_92 2 rfl ?_
      refine gg_iload_n dX10_degreeOf_93 3 rfl ?_
      refine gg_iload_n dX10_degreeOf_94 4 rfl ?_
      refine gg_callVi (own := RX10) (yt := gm_X10_third) rfl gl_RX10_233 gk_X10_third gr_X10_third dX10_degreeOf_95 (c_X10_third (d := d - 1) hf hM hW (i := i) (hc1 (by rw [hk]; decide)) (hc2 (by rw [hk]; decide)) (by omega)) sh_145 pl_145 (by decide) rfl rfl rfl (Nat.le_of_ble_eq_true rfl) (by show _ ≤ d; omega) ⟨Nat.le_refl _, Nat.le_refl _⟩ (fun e16 μ' hc => ?_)
      obtain ⟨rfl, rfl⟩ := hc
      refine gg_goto (tgt := 107) dX10_degreeOf_98 (by decide) ?_
      refine gg_iload_n dX10_degreeOf_107 5 rfl ?_
      refine gg_callVi (own := RX10) (yt := gm_X10_degreeOf) rfl gl_RX10_331 gk_X10_degreeOf gr_X10_degreeOf dX10_degreeOf_108 (ih (gPt Z i 2) (hc3 (by rw [hk]; decide)) (by have := he3 (by rw [hk]; decide); omega) (d - 1) (by omega)) sh_145 pl_145 (by decide) rfl rfl rfl (Nat.le_of_ble_eq_true rfl) (by show _ ≤ d; omega) ⟨Nat.le_refl _, Nat.le_refl _⟩ (fun e17 μ' hc => ?_)
      obtain ⟨rfl, rfl⟩ := hc
      refine gg_istore (ls' := [(6, .int (iv (gGc n nm K N Z (gPt Z i 2)))), (5, .int (iv (gGc n nm K N Z (gPt Z i 1)))), (4, .int (iv 6)), (0, .ref (gad (gSS ad) 145)), (1, .int (iv (f : Int))), (2, .int (iv (i : Int))), (3, .int (iv (nm : Int)))]) dX10_degreeOf_111 (by decide) rfl ?_
      refine gg_iload dX10_degreeOf_113 1 rfl ?_
      refine gg_iconst dX10_degreeOf_115 ?_
      refine gg_icmp_eq (tgt := 144) dX10_degreeOf_116 (by decide) (by omega) (fun ha1 => ?_) (fun ha1 => ?_)
      · refine gg_iconst dX10_degreeOf_144 ?_
        refine gg_ireti dX10_degreeOf_145 rfl ⟨rfl, rfl⟩ ?_
        refine ⟨rfl, ?_⟩
        rw [gGc_is n nm K N Z i hi]
        unfold gGF
        rw [hk, if_neg (show ¬ (6 : Nat) = 0 by decide), if_neg (show ¬ (6 : Nat) = 1 by decide), if_pos rfl, if_pos]
        first | exact Or.inl ha1 | exact Or.inr (Or.inl hb1) | exact Or.inr (Or.inr hq)
      · refine gg_iload dX10_degreeOf_119 0 rfl ?_
        refine gg_iconst dX10_degreeOf_121 ?_
        refine gg_icmp_eq (tgt := 144) dX10_degreeOf_122 (by decide) (by omega) (fun hb1 => ?_) (fun hb1 => ?_)
        · refine gg_iconst dX10_degreeOf_144 ?_
          refine gg_ireti dX10_degreeOf_145 rfl ⟨rfl, rfl⟩ ?_
          refine ⟨rfl, ?_⟩
          rw [gGc_is n nm K N Z i hi]
          unfold gGF
          rw [hk, if_neg (show ¬ (6 : Nat) = 0 by decide), if_neg (show ¬ (6 : Nat) = 1 by decide), if_pos rfl, if_pos]
          first | exact Or.inl ha1 | exact Or.inr (Or.inl hb1) | exact Or.inr (Or.inr hq)
        · refine gg_iload dX10_degreeOf_125 2 rfl ?_
          refine gg_bipush dX10_degreeOf_127 (by decide) ?_
          refine gg_icmp_ne_f (tgt := 146) dX10_degreeOf_129 (by decide) (by decide) (by decide) ?_
          refine gg_aload_n dX10_degreeOf_132 3 rfl ?_
          refine gg_iload_n dX10_degreeOf_133 4 rfl ?_
          refine gg_iload_n dX10_degreeOf_134 5 rfl ?_
          refine gg_iconst dX10_degreeOf_135 ?_
          refine gg_iadd dX10_degreeOf_136 ?_
          refine gg_iload_n dX10_degreeOf_137 6 rfl ?_
          refine gg_callVi (own := RX10) (yt := gm_X10_hasName) rfl gl_RX10_334 gk_X10_hasName gr_X10_hasName dX10_degreeOf_138 (c_X10_hasName (d := d - 1) hf hM hW (nm := nm) (i := i + 1) (hc1 (by rw [hk]; decide))) sh_145 pl_145 (by decide) rfl rfl rfl (Nat.le_of_ble_eq_true rfl) (by show _ ≤ d; omega) ⟨Nat.le_refl _, Nat.le_refl _⟩ (fun e18 μ' hc => ?_)
          obtain ⟨rfl, ⟨rfl, hq⟩ | ⟨rfl, hq⟩⟩ := hc
          · refine gg_if_eq_f (tgt := 146) dX10_degreeOf_141 (by decide) (by decide) (by decide) ?_
            refine gg_iconst dX10_degreeOf_144 ?_
            refine gg_ireti dX10_degreeOf_145 rfl ⟨rfl, rfl⟩ ?_
            refine ⟨rfl, ?_⟩
            rw [gGc_is n nm K N Z i hi]
            unfold gGF
            rw [hk, if_neg (show ¬ (6 : Nat) = 0 by decide), if_neg (show ¬ (6 : Nat) = 1 by decide), if_pos rfl, if_pos]
            first | exact Or.inl ha1 | exact Or.inr (Or.inl hb1) | exact Or.inr (Or.inr hq)
          · refine gg_if_eq_t (tgt := 146) dX10_degreeOf_141 (by decide) (by decide) (by decide) ?_
            refine gg_iload dX10_degreeOf_146 2 rfl ?_
            refine gg_iconst dX10_degreeOf_148 ?_
            refine gg_icmp_eq_f (tgt := 159) dX10_degreeOf_149 (by decide) (by decide) (by decide) ?_
            refine gg_iload dX10_degreeOf_152 2 rfl ?_
            refine gg_bipush dX10_degreeOf_154 (by decide) ?_
            refine gg_icmp_ne_f (tgt := 169) dX10_degreeOf_156 (by decide) (by decide) (by decide) ?_
            refine gg_iload dX10_degreeOf_159 1 rfl ?_
            refine gg_iload dX10_degreeOf_161 0 rfl ?_
            refine gg_mmax rfl gl_RX10_284 dX10_degreeOf_163 (by omega) (Nat.le_of_ble_eq_true rfl) (by omega) ⟨Nat.le_refl _, Nat.le_refl _⟩ ?_
            refine gg_goto (tgt := 220) dX10_degreeOf_166 (by decide) ?_
            refine gg_istore (ls' := [(7, .int (iv (max (gGc n nm K N Z (gPt Z i 1)) (gGc n nm K N Z (gPt Z i 2))))), (6, .int (iv (gGc n nm K N Z (gPt Z i 2)))), (5, .int (iv (gGc n nm K N Z (gPt Z i 1)))), (4, .int (iv 6)), (0, .ref (gad (gSS ad) 145)), (1, .int (iv (f : Int))), (2, .int (iv (i : Int))), (3, .int (iv (nm : Int)))]) dX10_degreeOf_220 (by decide) rfl ?_
            refine gg_sipush dX10_degreeOf_222 (by decide) ?_
            refine gg_iload dX10_degreeOf_225 0 rfl ?_
            refine gg_mmin rfl gl_RX10_299 dX10_degreeOf_227 (by first | omega | (have := hmr ha1; omega)) (Nat.le_of_ble_eq_true rfl) (by omega) ⟨Nat.le_refl _, Nat.le_refl _⟩ ?_
            refine gg_ireti dX10_degreeOf_230 rfl ⟨rfl, rfl⟩ ?_
            refine ⟨rfl, ?_⟩
            rw [gGc_is n nm K N Z i hi]
            unfold gGF
            rw [hk, if_neg (show ¬ (6 : Nat) = 0 by decide), if_neg (show ¬ (6 : Nat) = 1 by decide), if_pos rfl, if_neg]
            rintro (h | h | h)
            · exact ha1 h
            · exact hb1 h
            · exact hq h
    · refine gg_toI (b := 7) (by omega) ?_
      refine gg_istore (ls' := [(4, .int (iv 7)), (0, .ref (gad (gSS ad) 145)), (1, .int (iv (f : Int))), (2, .int (iv (i : Int))), (3, .int (iv (nm : Int)))]) dX10_degreeOf_8 (by decide) rfl ?_
      have g1 := gG_rng (nm := nm) hW _ (hc1 (by rw [hk]; decide))
      refine gg_iload dX10_degreeOf_10 0 rfl ?_
      refine gg_if_ne_t (tgt := 17) dX10_degreeOf_12 (by decide) (by decide) (by decide) ?_
      refine gg_iload dX10_degreeOf_17 0 rfl ?_
      refine gg_iconst dX10_degreeOf_19 ?_
      refine gg_icmp_ne_t (tgt := 43) dX10_degreeOf_20 (by decide) (by decide) (by decide) ?_
      refine gg_aload_n dX10_degreeOf_43 1 rfl ?_
      refine gg_iload_n dX10_degreeOf_44 2 rfl ?_
      refine gg_iload dX10_degreeOf_45 0 rfl ?_
      refine gg_bipush dX10_degreeOf_47 (by decide) ?_
      refine gg_icmp_ne_t (tgt := 61) dX10_degreeOf_49 (by decide) (by decide) (by decide) ?_
      refine gg_iload_n dX10_degreeOf_61 3 rfl ?_
      refine gg_iconst dX10_degreeOf_62 ?_
      refine gg_iadd dX10_degreeOf_63 ?_
      refine gg_iload_n dX10_degreeOf_64 4 rfl ?_
      refine gg_callVi (own := RX10) (yt := gm_X10_degreeOf) rfl gl_RX10_331 gk_X10_degreeOf gr_X10_degreeOf dX10_degreeOf_65 (ih (i + 1) (hc1 (by rw [hk]; decide)) (by have := he1 (by rw [hk]; decide); omega) (d - 1) (by omega)) sh_145 pl_145 (by decide) rfl rfl rfl (Nat.le_of_ble_eq_true rfl) (by show _ ≤ d; omega) ⟨Nat.le_refl _, Nat.le_refl _⟩ (fun e19 μ' hc => ?_)
      obtain ⟨rfl, rfl⟩ := hc
      refine gg_istore (ls' := [(5, .int (iv (gGc n nm K N Z (i + 1)))), (4, .int (iv 7)), (0, .ref (gad (gSS ad) 145)), (1, .int (iv (f : Int))), (2, .int (iv (i : Int))), (3, .int (iv (nm : Int)))]) dX10_degreeOf_68 (by decide) rfl ?_
      refine gg_iload dX10_degreeOf_70 1 rfl ?_
      refine gg_callSi (own := RX10) (yt := gm_X10_parts) rfl gl_RX10_98 gk_X10_parts gr_X10_parts dX10_degreeOf_72 (c_X10_parts (d := d - 1) (k := 7) (by omega)) rfl rfl (Nat.le_of_ble_eq_true rfl) (by show _ ≤ d; omega) ⟨Nat.le_refl _, Nat.le_refl _⟩ (fun e20 μ' hc => ?_)
      obtain ⟨rfl, rfl⟩ := hc
      refine gg_toI (b := 1) rfl ?_
      refine gg_iconst dX10_degreeOf_75 ?_
      refine gg_icmp_ge_f (tgt := 83) dX10_degreeOf_76 (by decide) (by decide) (by decide) ?_
      refine gg_iconst dX10_degreeOf_79 ?_
      refine gg_goto (tgt := 111) dX10_degreeOf_80 (by decide) ?_
      refine gg_istore (ls' := [(6, .int (iv 0)), (5, .int (iv (gGc n nm K N Z (i + 1)))), (4, .int (iv 7)), (0, .ref (gad (gSS ad) 145)), (1, .int (iv (f : Int))), (2, .int (iv (i : Int))), (3, .int (iv (nm : Int)))]) dX10_degreeOf_111 (by decide) rfl ?_
      refine gg_iload dX10_degreeOf_113 1 rfl ?_
      refine gg_iconst dX10_degreeOf_115 ?_
      refine gg_icmp_eq (tgt := 144) dX10_degreeOf_116 (by decide) (by omega) (fun ha1 => ?_) (fun ha1 => ?_)
      · refine gg_iconst dX10_degreeOf_144 ?_
        refine gg_ireti dX10_degreeOf_145 rfl ⟨rfl, rfl⟩ ?_
        refine ⟨rfl, ?_⟩
        rw [gGc_is n nm K N Z i hi]
        unfold gGF
        rw [hk, if_neg (show ¬ (7 : Nat) = 0 by decide), if_neg (show ¬ (7 : Nat) = 1 by decide), if_neg (show ¬ (7 : Nat) = 6 by decide), if_pos (show gGc n nm K N Z (i + 1) = -1 ∨ (2 ≤ gPar 7 ∧ gGc n nm K N Z (gPt Z i 1) = -1) by simp only [show gPar 7 = 1 from rfl]; omega)]
      · refine gg_iload dX10_degreeOf_119 0 rfl ?_
        refine gg_iconst dX10_degreeOf_121 ?_
        refine gg_icmp_eq_f (tgt := 144) dX10_degreeOf_122 (by decide) (by decide) (by decide) ?_
        refine gg_iload dX10_degreeOf_125 2 rfl ?_
        refine gg_bipush dX10_degreeOf_127 (by decide) ?_
        refine gg_icmp_ne_t (tgt := 146) dX10_degreeOf_129 (by decide) (by decide) (by decide) ?_
        refine gg_iload dX10_degreeOf_146 2 rfl ?_
        refine gg_iconst dX10_degreeOf_148 ?_
        refine gg_icmp_eq_f (tgt := 159) dX10_degreeOf_149 (by decide) (by decide) (by decide) ?_
        refine gg_iload dX10_degreeOf_152 2 rfl ?_
        refine gg_bipush dX10_degreeOf_154 (by decide) ?_
        refine gg_icmp_ne_t (tgt := 169) dX10_degreeOf_156 (by decide) (by decide) (by decide) ?_
        refine gg_iload dX10_degreeOf_169 2 rfl ?_
        refine gg_iconst dX10_degreeOf_171 ?_
        refine gg_icmp_ne_t (tgt := 183) dX10_degreeOf_172 (by decide) (by decide) (by decide) ?_
        refine gg_iload dX10_degreeOf_183 2 rfl ?_
        refine gg_iconst dX10_degreeOf_185 ?_
        refine gg_icmp_ne_t (tgt := 204) dX10_degreeOf_186 (by decide) (by decide) (by decide) ?_
        refine gg_iload dX10_degreeOf_204 2 rfl ?_
        refine gg_bipush dX10_degreeOf_206 (by decide) ?_
        refine gg_icmp_ne_f (tgt := 218) dX10_degreeOf_208 (by decide) (by decide) (by decide) ?_
        refine gg_iconst dX10_degreeOf_211 ?_
        refine gg_iload dX10_degreeOf_212 1 rfl ?_
        refine gg_imul dX10_degreeOf_214 ?_
        refine gg_goto (tgt := 220) dX10_degreeOf_215 (by decide) ?_
        refine gg_istore (ls' := [(7, .int (iv (2 * (gGc n nm K N Z (i + 1))))), (6, .int (iv 0)), (5, .int (iv (gGc n nm K N Z (i + 1)))), (4, .int (iv 7)), (0, .ref (gad (gSS ad) 145)), (1, .int (iv (f : Int))), (2, .int (iv (i : Int))), (3, .int (iv (nm : Int)))]) dX10_degreeOf_220 (by decide) rfl ?_
        refine gg_sipush dX10_degreeOf_222 (by decide) ?_
        refine gg_iload dX10_degreeOf_225 0 rfl ?_
        refine gg_mmin rfl gl_RX10_299 dX10_degreeOf_227 (by first | omega | (have := hmr ha1; omega)) (Nat.le_of_ble_eq_true rfl) (by omega) ⟨Nat.le_refl _, Nat.le_refl _⟩ ?_
        refine gg_ireti dX10_degreeOf_230 rfl ⟨rfl, rfl⟩ ?_
        refine ⟨rfl, ?_⟩
        rw [gGc_is n nm K N Z i hi]
        unfold gGF
        rw [hk, if_neg (show ¬ (7 : Nat) = 0 by decide), if_neg (show ¬ (7 : Nat) = 1 by decide), if_neg (show ¬ (7 : Nat) = 6 by decide), if_neg (show ¬ (gGc n nm K N Z (i + 1) = -1 ∨ (2 ≤ gPar 7 ∧ gGc n nm K N Z (gPt Z i 1) = -1)) by simp only [show gPar 7 = 1 from rfl]; omega)]
        exact rfl

set_option maxRecDepth 10000 in
theorem c_X10_degree {l : Launch} {Γ : gC} {ad : Nat → Nat} {I : Nat → Nat → Int} {J : Nat → Nat → Int64} {d : Nat} {f n : Nat} {K : Nat → Nat} {N : Nat → Int64} {Z : Nat → Nat} (hf : f < 12) (hM : gMt I J f n K N Z) (hW : gWf n K N Z) {nm : Nat} (hnm : nm < 8) (hd : n + 4 ≤ d) : gKi l Γ gm_X10_degree d [.ref (gad (gSS ad) 145), .int (iv (f : Int)), .int (iv (nm : Int))] (gSS ad, I, J) (fun e μ => μ = (gSS ad, I, J) ∧ e = (if n = 0 then -3 else gGc n nm K N Z 0)) := by
  refine gKi_of gk_X10_degree.1 (Nat.le_of_ble_eq_true rfl) ?_
  show gG l Γ gm_X10_degree (d, 0, 0, 0, 0) 0 [(0, .ref (gad (gSS ad) 145)), (1, .int (iv (f : Int))), (2, .int (iv (nm : Int)))] [] _ _
  refine gg_iload_n dX10_degree_0 1 rfl ?_
  refine gg_callSi (own := RX10) (yt := gm_X10_isFormula) rfl gl_RX10_181 gk_X10_isFormula gr_X10_isFormula dX10_degree_1 (c_X10_isFormula (d := d - 1) (by omega) (by omega)) rfl rfl (Nat.le_of_ble_eq_true rfl) (by show _ ≤ d; omega) ⟨Nat.le_refl _, Nat.le_refl _⟩ (fun e1 μ' hc => ?_)
  obtain ⟨rfl, ⟨rfl, hb2⟩ | ⟨rfl, hb2⟩⟩ := hc
  rotate_left
  · omega
  refine gg_if_eq_f (tgt := 14) dX10_degree_4 (by decide) (by decide) (by decide) ?_
  refine gg_iload_n dX10_degree_7 2 rfl ?_
  refine gg_callSi (own := RX10) (yt := gm_X10_isName) rfl gl_RX10_189 gk_X10_isName gr_X10_isName dX10_degree_8 (c_X10_isName (d := d - 1) (by omega) (by omega)) rfl rfl (Nat.le_of_ble_eq_true rfl) (by show _ ≤ d; omega) ⟨Nat.le_refl _, Nat.le_refl _⟩ (fun e3 μ' hc => ?_)
  obtain ⟨rfl, ⟨rfl, hb4⟩ | ⟨rfl, hb4⟩⟩ := hc
  rotate_left
  · omega
  refine gg_if_ne_t (tgt := 17) dX10_degree_11 (by decide) (by decide) (by decide) ?_
  refine gg_aload_n dX10_degree_17 0 rfl ?_
  refine gg_getR (k' := 146) rfl gf_RX10_9 dX10_degree_18 sh_145 pl_145 (by decide) (by decide) rr_145_0 ?_
  refine gg_iload_n dX10_degree_21 1 rfl ?_
  refine gg_ialdj f dX10_degree_22 sh_146 pl_146 (by decide) rfl hf ?_
  refine gg_toI (b := (n : Int)) hM.1 ?_
  refine gg_if_ne (tgt := 31) dX10_degree_23 (by decide) (by have := hW.1; omega) (fun hn0 => ?_) (fun hn0 => ?_)
  · refine gg_aload_n dX10_degree_31 0 rfl ?_
    refine gg_iload_n dX10_degree_32 1 rfl ?_
    refine gg_iconst dX10_degree_33 ?_
    refine gg_iload_n dX10_degree_34 2 rfl ?_
    refine gg_callVi (own := RX10) (yt := gm_X10_degreeOf) rfl gl_RX10_331 gk_X10_degreeOf gr_X10_degreeOf dX10_degree_35 (r_X10_degreeOf hf hM hW n 0 (by omega) (by have := hW.2.1 (by omega); omega) (d - 1) (by omega)) sh_145 pl_145 (by decide) rfl rfl rfl (Nat.le_of_ble_eq_true rfl) (by show _ ≤ d; omega) ⟨Nat.le_refl _, Nat.le_refl _⟩ (fun e5 μ' hc => ?_)
    obtain ⟨rfl, rfl⟩ := hc
    refine gg_ireti dX10_degree_38 rfl ⟨rfl, rfl⟩ ?_
    exact ⟨rfl, by rw [if_neg (by omega)]⟩
  · refine gg_bipush dX10_degree_26 (by decide) ?_
    refine gg_goto (tgt := 38) dX10_degree_28 (by decide) ?_
    refine gg_ireti dX10_degree_38 rfl ⟨rfl, rfl⟩ ?_
    exact ⟨rfl, by rw [if_pos (by omega)]⟩

set_option maxRecDepth 10000 in
theorem c_X10_degree_out {l : Launch} {Γ : gC} {ad : Nat → Nat} {I : Nat → Nat → Int} {J : Nat → Nat → Int64} {d : Nat} {i nm : Int} (hi : -2147483648 ≤ i ∧ i ≤ 2147483647) (hq : -2147483648 ≤ nm ∧ nm ≤ 2147483647) (ho : ¬ (0 ≤ i ∧ i ≤ 11 ∧ 0 ≤ nm ∧ nm ≤ 7)) (hd : 3 ≤ d) : gKi l Γ gm_X10_degree d [.ref (gad (gSS ad) 145), .int (iv i), .int (iv nm)] (gSS ad, I, J) (fun e μ => μ = (gSS ad, I, J) ∧ e = -2) := by
  refine gKi_of gk_X10_degree.1 (Nat.le_of_ble_eq_true rfl) ?_
  show gG l Γ gm_X10_degree (d, 0, 0, 0, 0) 0 [(0, .ref (gad (gSS ad) 145)), (1, .int (iv i)), (2, .int (iv nm))] [] _ _
  refine gg_iload_n dX10_degree_0 1 rfl ?_
  refine gg_callSi (own := RX10) (yt := gm_X10_isFormula) rfl gl_RX10_181 gk_X10_isFormula gr_X10_isFormula dX10_degree_1 (c_X10_isFormula (d := d - 1) (by omega) (by omega)) rfl rfl (Nat.le_of_ble_eq_true rfl) (by show _ ≤ d; omega) ⟨Nat.le_refl _, Nat.le_refl _⟩ (fun e1 μ' hc => ?_)
  obtain ⟨rfl, ⟨rfl, hb2⟩ | ⟨rfl, hb2⟩⟩ := hc
  · refine gg_if_eq_f (tgt := 14) dX10_degree_4 (by decide) (by decide) (by decide) ?_
    refine gg_iload_n dX10_degree_7 2 rfl ?_
    refine gg_callSi (own := RX10) (yt := gm_X10_isName) rfl gl_RX10_189 gk_X10_isName gr_X10_isName dX10_degree_8 (c_X10_isName (d := d - 1) (by omega) (by omega)) rfl rfl (Nat.le_of_ble_eq_true rfl) (by show _ ≤ d; omega) ⟨Nat.le_refl _, Nat.le_refl _⟩ (fun e3 μ' hc => ?_)
    obtain ⟨rfl, ⟨rfl, hb4⟩ | ⟨rfl, hb4⟩⟩ := hc
    · refine gg_if_ne_t (tgt := 17) dX10_degree_11 (by decide) (by decide) (by decide) ?_
      exfalso
      omega
    · refine gg_if_ne_f (tgt := 17) dX10_degree_11 (by decide) (by decide) (by decide) ?_
      refine gg_bipush dX10_degree_14 (by decide) ?_
      refine gg_ireti dX10_degree_16 rfl ⟨rfl, rfl⟩ ?_
      exact ⟨rfl, rfl⟩
  · refine gg_if_eq_t (tgt := 14) dX10_degree_4 (by decide) (by decide) (by decide) ?_
    refine gg_bipush dX10_degree_14 (by decide) ?_
    refine gg_ireti dX10_degree_16 rfl ⟨rfl, rfl⟩ ?_
    exact ⟨rfl, rfl⟩

