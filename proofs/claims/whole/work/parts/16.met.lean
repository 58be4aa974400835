/-! which nodes are met: the row is walked from its head; the parts of what is met are asked -/
theorem gF_rng {a : Nat} (h : gF a) : a = 8 ∨ (41 ≤ a ∧ a ≤ 133) := by
  have k : ∀ a : Fin 245, gSh a.val = (1, 4) → a.val = 8 ∨ (41 ≤ a.val ∧ a.val ≤ 133) := by decide +kernel
  have := h.2.1
  exact k ⟨a, by omega⟩ h.1
theorem gAt_g27 {I : Nat → Nat → Int} {J : Nat → Nat → Int64} {a n : Nat} {K : Nat → Nat} {N : Nat → Int64} {Z : Nat → Nat} {q : Nat} {x : Int} (hF : gF a) (h : gAt I J a n K N Z) : gAt (gu I 27 q x) J a n K N Z := by
  have hr := gF_rng hF
  unfold gAt
  rw [gu_other (show a ≠ 27 by omega), gu_other (show a + 1 ≠ 27 by omega), gu_other (show a + 3 ≠ 27 by omega)]
  exact h
theorem gAt_same {I I' : Nat → Nat → Int} {J J' : Nat → Nat → Int64} {a n : Nat} {K : Nat → Nat} {N : Nat → Int64} {Z : Nat → Nat} (h : gAt I J a n K N Z) (h0 : I' a = I a) (h1 : I' (a + 1) = I (a + 1)) (h2 : J' (a + 2) = J (a + 2)) (h3 : I' (a + 3) = I (a + 3)) : gAt I' J' a n K N Z := by
  unfold gAt
  rw [h0, h1, h2, h3]
  exact h
/-- how often a node of kind k counts for q; 8: for all -/
def gMa (k q : Nat) : Nat := if q = 8 then (if k = 7 then 2 else 1) else gOwn q k
/-- which parts of node j are asked -/
def gCh (K : Nat → Nat) (Z : Nat → Nat) (W : Nat → Int64) (j q : Nat) : Prop := (1 ≤ gPar (K j) ∧ q = j + 1) ∨ (2 ≤ gPar (K j) ∧ q = gPt Z j 1 ∧ ¬ (K j = 6 ∧ W (j + 1) = 0)) ∨ (K j = 6 ∧ q = gPt Z j 2 ∧ W (j + 1) = 0)
def gmC (K : Nat → Nat) (Z : Nat → Nat) (W : Nat → Int64) (M : Nat → Nat) (j : Nat) : Nat := if gPar (K j) = 0 then 0 else if gPar (K j) = 1 then M (j + 1) else if gPar (K j) = 2 then M (j + 1) + M (gPt Z j 1) else M (j + 1) + (if W (j + 1) = 0 then M (gPt Z j 2) else M (gPt Z j 1))
/-- the trees that stand from node i on, one behind another -/
def gChain (Z : Nat → Nat) (n : Nat) : List Nat → Nat → Prop
  | [], i => i = n
  | r :: t, i => r = i ∧ i < n ∧ gChain Z n t (i + Z i)
theorem gChain_ge {Z : Nat → Nat} {n : Nat} : ∀ {L : List Nat} {i : Nat}, gChain Z n L i → ∀ r, r ∈ L → i ≤ r
  | [], i, _, r, hr => by simp at hr
  | x :: t, i, h, r, hr => by
    obtain ⟨rfl, h1, h2⟩ := h
    rcases List.mem_cons.mp hr with rfl | hr
    · exact Nat.le_refl _
    · have := gChain_ge h2 r hr
      omega
def gAskd (Z : Nat → Nat) (n : Nat) (A : Nat → Int) (M : Nat → Nat) (i c T : Nat) : Prop := ∃ L : List Nat, gChain Z n L i ∧ (∀ j, i ≤ j → j < n → A j = 1 → j ∈ L) ∧ c + (L.map (fun r => if A r = 1 then M r else 0)).sum = T
theorem gSum_congr {A A' : Nat → Int} {M : Nat → Nat} {L : List Nat} (h : ∀ r, r ∈ L → A' r = A r) : (L.map (fun r => if A' r = 1 then M r else 0)).sum = (L.map (fun r => if A r = 1 then M r else 0)).sum := by
  congr 1
  apply List.map_congr_left
  intro r hr
  rw [h r hr]
theorem gSum0 : ∀ L : List Nat, (L.map (fun _ => (0 : Nat))).sum = 0
  | [] => rfl
  | _ :: t => by
    have := gSum0 t
    simp only [List.map_cons, List.sum_cons]
    omega
/-- the parts of node i, one behind another, ahead of what stands behind it -/
theorem gKids {n : Nat} {K : Nat → Nat} {N : Nat → Int64} {Z : Nat → Nat} (hW : gWf n K N Z) {i : Nat} (hi : i < n) {t : List Nat} (ht : gChain Z n t (i + Z i)) : ∃ L0 : List Nat, gChain Z n (L0 ++ t) (i + 1) ∧ (L0 = if gPar (K i) = 0 then [] else if gPar (K i) = 1 then [i + 1] else if gPar (K i) = 2 then [i + 1, gPt Z i 1] else [i + 1, gPt Z i 1, gPt Z i 2]) ∧ ∀ r, r ∈ L0 → i < r ∧ r < i + Z i := by
  obtain ⟨hK, hZ1, hZ2, he0, he1, he2, he3, hc1, hc2, hc3, -⟩ := hW.2.2 i hi
  have hz : ∀ j, j < n → 1 ≤ Z j := fun j hj => (hW.2.2 j hj).2.1
  refine ⟨_, ?_, rfl, ?_⟩
  · obtain h | h | h | h : gPar (K i) = 0 ∨ gPar (K i) = 1 ∨ gPar (K i) = 2 ∨ gPar (K i) = 3 := by
      have : ∀ k, k < 8 → gPar k = 0 ∨ gPar k = 1 ∨ gPar k = 2 ∨ gPar k = 3 := by decide
      exact this _ hK
    · simp only [h, if_true, List.nil_append]
      rw [he0 h] at ht
      exact ht
    · simp [h]
      rw [he1 h] at ht
      exact ⟨rfl, hc1 (by omega), by rw [show i + 1 + Z (i + 1) = i + (1 + Z (i + 1)) by omega]; exact ht⟩
    · simp [h]
      rw [he2 h] at ht
      refine ⟨rfl, hc1 (by omega), rfl, hc2 (by omega), ?_⟩
      have e : i + 1 + Z (i + 1) + Z (i + 1 + Z (i + 1)) = i + (1 + Z (i + 1) + Z (gPt Z i 1)) := by simp only [gPt]; omega
      rw [e]
      exact ht
    · simp [h]
      rw [he3 h] at ht
      refine ⟨rfl, hc1 (by omega), rfl, hc2 (by omega), rfl, hc3 (by omega), ?_⟩
      have e : i + 1 + Z (i + 1) + Z (i + 1 + Z (i + 1)) + Z (i + 1 + Z (i + 1) + Z (i + 1 + Z (i + 1))) = i + (1 + Z (i + 1) + Z (gPt Z i 1) + Z (gPt Z i 2)) := by simp only [gPt]; omega
      rw [e]
      exact ht
  · intro r hr
    obtain h | h | h | h : gPar (K i) = 0 ∨ gPar (K i) = 1 ∨ gPar (K i) = 2 ∨ gPar (K i) = 3 := by
      have : ∀ k, k < 8 → gPar k = 0 ∨ gPar k = 1 ∨ gPar k = 2 ∨ gPar k = 3 := by decide
      exact this _ hK
    · simp [h] at hr
    · have h1 := hz _ (hc1 (by omega))
      have h4 := he1 h
      simp [h] at hr
      omega
    · have h1 := hz _ (hc1 (by omega))
      have h2 := hz _ (hc2 (by omega))
      have h4 := he2 h
      simp only [gPt] at h2 h4
      simp [h, gPt] at hr
      omega
    · have h1 := hz _ (hc1 (by omega))
      have h2 := hz _ (hc2 (by omega))
      have h3 := hz _ (hc3 (by omega))
      have h4 := he3 h
      simp only [gPt] at h2 h3 h4
      simp [h, gPt] at hr
      omega
theorem gAsk_0 {n : Nat} {K : Nat → Nat} {N : Nat → Int64} {Z : Nat → Nat} (hW : gWf n K N Z) {A : Nat → Int} {M : Nat → Nat} {i c T : Nat} (hi : i < n) (h : gAskd Z n A M i c T) (h0 : ¬ A i = 1) : gAskd Z n A M (i + 1) c T := by
  obtain ⟨L, h1, h2, h3⟩ := h
  cases L with
  | nil => exact absurd h1 (by show ¬ i = n; omega)
  | cons r t =>
    obtain ⟨rfl, -, ht⟩ := h1
    obtain ⟨L0, hc, -, hl⟩ := gKids hW hi ht
    refine ⟨L0 ++ t, hc, fun j hj hjn hA => ?_, ?_⟩
    · rcases List.mem_cons.mp (h2 j (by omega) hjn hA) with rfl | hm
      · omega
      · exact List.mem_append_right _ hm
    · rw [List.map_cons, if_neg h0] at h3
      rw [List.map_append, List.sum_append]
      have : (L0.map (fun r => if A r = 1 then M r else 0)).sum = 0 := by
        rw [show L0.map (fun r => if A r = 1 then M r else 0) = L0.map (fun _ => 0) from List.map_congr_left (fun x hx => by
          rw [if_neg]
          intro hA
          have hb := hl x hx
          have := (hW.2.2 r hi).2.2.1
          rcases List.mem_cons.mp (h2 x (by omega) (by omega) hA) with e | hm
          · omega
          · have := gChain_ge ht x hm
            omega)]
        exact gSum0 L0
      simp only [List.sum_cons] at h3
      omega
theorem gAsk_1 {n : Nat} {K : Nat → Nat} {N : Nat → Int64} {Z : Nat → Nat} (hW : gWf n K N Z) {A A' : Nat → Int} {W : Nat → Int64} {M : Nat → Nat} {i c T ow : Nat} (hi : i < n) (h : gAskd Z n A M i c T) (h1 : A i = 1) (hMi : M i = ow + gmC K Z W M i) (hA1 : ∀ q, gCh K Z W i q → A' q = 1) (hA2 : ∀ q, ¬ gCh K Z W i q → A' q = A q) : gAskd Z n A' M (i + 1) (c + ow) T := by
  obtain ⟨L, g1, g2, g3⟩ := h
  cases L with
  | nil => exact absurd g1 (by show ¬ i = n; omega)
  | cons r t =>
    obtain ⟨rfl, -, ht⟩ := g1
    obtain ⟨L0, hc, hL0, hl⟩ := gKids hW hi ht
    obtain ⟨hK, hZ1, hZ2, he0, he1, he2, he3, hc1, hc2, hc3, -⟩ := hW.2.2 r hi
    have hch : ∀ q, gCh K Z W r q → q ∈ L0 := by
      intro q hq
      have h6 : ∀ k, k = 6 → gPar k = 3 := by intro k hk; subst hk; rfl
      rw [hL0]
      rcases hq with ⟨a1, rfl⟩ | ⟨a1, rfl, -⟩ | ⟨a1, rfl, -⟩
      · by_cases u1 : gPar (K r) = 1
        · simp [u1]
        · by_cases u2 : gPar (K r) = 2 <;> simp [u1, u2] <;> omega
      · by_cases u2 : gPar (K r) = 2
        · simp [u2]
        · simp [u2, show ¬ gPar (K r) = 0 by omega, show ¬ gPar (K r) = 1 by omega]
      · have u := h6 _ a1
        simp [u]
    have hnt : ∀ q, q ∈ t → ¬ gCh K Z W r q := fun q hq hg => by
      have a1 := hl q (hch q hg)
      have a2 := gChain_ge ht q hq
      omega
    have hno : ∀ q, q ∈ L0 → ¬ A q = 1 := fun x hx hA => by
      have hb := hl x hx
      rcases List.mem_cons.mp (g2 x (by omega) (by omega) hA) with e | hm
      · omega
      · have := gChain_ge ht x hm
        omega
    refine ⟨L0 ++ t, hc, fun j hj hjn hA => ?_, ?_⟩
    · by_cases hg : gCh K Z W r j
      · exact List.mem_append_left _ (hch j hg)
      · rw [hA2 j hg] at hA
        rcases List.mem_cons.mp (g2 j (by omega) hjn hA) with rfl | hm
        · omega
        · exact List.mem_append_right _ hm
    · rw [List.map_cons, if_pos h1] at g3
      rw [List.map_append, List.sum_append, gSum_congr (A := A) (A' := A') (L := t) (fun q hq => hA2 q (hnt q hq))]
      simp only [List.sum_cons] at g3
      have hs : (L0.map (fun r => if A' r = 1 then M r else 0)).sum = gmC K Z W M r := by
        have hv : ∀ q, q ∈ L0 → (if A' q = 1 then M q else 0) = (if A' q = 1 then M q else 0) := fun _ _ => rfl
        obtain h | h | h | h : gPar (K r) = 0 ∨ gPar (K r) = 1 ∨ gPar (K r) = 2 ∨ gPar (K r) = 3 := by
          have : ∀ k, k < 8 → gPar k = 0 ∨ gPar k = 1 ∨ gPar k = 2 ∨ gPar k = 3 := by decide
          exact this _ hK
        · simp [hL0, h, gmC]
        · have b1 := hA1 (r + 1) (Or.inl ⟨by omega, rfl⟩)
          simp [hL0, h, gmC, b1]
        · have hk6 : ¬ K r = 6 := fun e => by rw [e] at h; exact absurd h (by decide)
          have b1 := hA1 (r + 1) (Or.inl ⟨by omega, rfl⟩)
          have b2 := hA1 (gPt Z r 1) (Or.inr (Or.inl ⟨by omega, rfl, fun e => hk6 e.1⟩))
          simp [hL0, h, gmC, b1, b2]
        · have hk6 : K r = 6 := by
            have : ∀ k, k < 8 → gPar k = 3 → k = 6 := by decide
            exact this _ hK h
          have b1 := hA1 (r + 1) (Or.inl ⟨by omega, rfl⟩)
          have n1 := hno (gPt Z r 1) (by rw [hL0]; simp [h])
          have n2 := hno (gPt Z r 2) (by rw [hL0]; simp [h])
          have hz1 : 1 ≤ Z (r + 1) := (hW.2.2 _ (hc1 (by omega))).2.1
          have hz2 : 1 ≤ Z (gPt Z r 1) := (hW.2.2 _ (hc2 (by omega))).2.1
          simp only [gPt] at hz2
          by_cases hw : W (r + 1) = 0
          · have b2 := hA1 (gPt Z r 2) (Or.inr (Or.inr ⟨hk6, rfl, hw⟩))
            have b3 := hA2 (gPt Z r 1) (by
              rintro (⟨-, e⟩ | ⟨-, -, e⟩ | ⟨-, e, -⟩)
              · simp only [gPt] at e; omega
              · exact e ⟨hk6, hw⟩
              · simp only [gPt] at e; omega)
            simp [hL0, h, gmC, b1, b2, b3, n1, hw]
          · have b2 := hA1 (gPt Z r 1) (Or.inr (Or.inl ⟨by omega, rfl, fun e => hw e.2⟩))
            have b3 := hA2 (gPt Z r 2) (by
              rintro (⟨-, e⟩ | ⟨-, e, -⟩ | ⟨-, -, e⟩)
              · simp only [gPt] at e; omega
              · simp only [gPt] at e; omega
              · exact hw e)
            simp [hL0, h, gmC, b1, b2, b3, n2, hw]
      omega
theorem gAsk_s {n : Nat} {Z : Nat → Nat} {A : Nat → Int} {M : Nat → Nat} (hn : 0 < n) (hz : Z 0 = n) (h0 : A 0 = 1) (h1 : ∀ j, 0 < j → j < n → ¬ A j = 1) : gAskd Z n A M 0 0 (M 0) := by
  refine ⟨[0], ⟨rfl, hn, by show 0 + Z 0 = n; omega⟩, fun j _ hjn hA => ?_, by simp [h0]⟩
  by_cases hj : j = 0
  · simp [hj]
  · exact absurd hA (h1 j (by omega) hjn)
theorem gAsk_e {n : Nat} {Z : Nat → Nat} {A : Nat → Int} {M : Nat → Nat} {c T : Nat} (h : gAskd Z n A M n c T) : c = T := by
  obtain ⟨L, h1, -, h3⟩ := h
  cases L with
  | nil => simpa using h3
  | cons r t => exact absurd h1.2.1 (Nat.lt_irrefl _)
set_option maxRecDepth 10000 in
theorem c_X8_metAs {l : Launch} {Γ : gC} {ad : Nat → Nat} {I : Nat → Nat → Int} {J : Nat → Nat → Int64} {d : Nat} {k q : Nat} (hk : k < 8) (hq : q ≤ 8) : gKi l Γ gm_X8_metAs d [.int (iv (k : Int)), .int (iv (q : Int))] (gSS ad, I, J) (fun e μ => μ = (gSS ad, I, J) ∧ e = (gMa k q : Int)) := by
  refine gKi_of gk_X8_metAs.1 (Nat.le_of_ble_eq_true rfl) ?_
  show gG l Γ gm_X8_metAs (d, 0, 0, 0, 0) 0 [(0, .int (iv (k : Int))), (1, .int (iv (q : Int)))] [] _ _
  refine gg_iload_n dX8_metAs_0 0 rfl ?_
  refine gg_bipush dX8_metAs_1 (by decide) ?_
  refine gg_icmp_ne (tgt := 21) dX8_metAs_3 (by decide) (by omega) (fun hb1 => ?_) (fun hb1 => ?_)
  · refine gg_iconst dX8_metAs_21 ?_
    refine gg_istore_n (ls' := [(2, .int (iv 0)), (0, .int (iv (k : Int))), (1, .int (iv (q : Int)))]) dX8_metAs_22 rfl (by decide) rfl ?_
    refine gg_iload_n dX8_metAs_23 1 rfl ?_
    refine gg_iload_n dX8_metAs_24 2 rfl ?_
    refine gg_icmp_eq (tgt := 34) dX8_metAs_25 (by decide) (by omega) (fun hb2 => ?_) (fun hb2 => ?_)
    · refine gg_iconst dX8_metAs_34 ?_
      refine gg_goto (tgt := 39) dX8_metAs_35 (by decide) ?_
      refine gg_iload_n dX8_metAs_39 0 rfl ?_
      refine gg_iadd dX8_metAs_40 ?_
      refine gg_ireti dX8_metAs_41 rfl ⟨rfl, rfl⟩ ?_
      refine ⟨rfl, ?_⟩
      unfold gMa gOwn
      repeat' split
      all_goals omega
    · refine gg_iload_n dX8_metAs_28 2 rfl ?_
      refine gg_bipush dX8_metAs_29 (by decide) ?_
      refine gg_icmp_ne (tgt := 38) dX8_metAs_31 (by decide) (by omega) (fun hb3 => ?_) (fun hb3 => ?_)
      · refine gg_iconst dX8_metAs_38 ?_
        refine gg_iload_n dX8_metAs_39 0 rfl ?_
        refine gg_iadd dX8_metAs_40 ?_
        refine gg_ireti dX8_metAs_41 rfl ⟨rfl, rfl⟩ ?_
        refine ⟨rfl, ?_⟩
        unfold gMa gOwn
        repeat' split
        all_goals omega
      · refine gg_iconst dX8_metAs_34 ?_
        refine gg_goto (tgt := 39) dX8_metAs_35 (by decide) ?_
        refine gg_iload_n dX8_metAs_39 0 rfl ?_
        refine gg_iadd dX8_metAs_40 ?_
        refine gg_ireti dX8_metAs_41 rfl ⟨rfl, rfl⟩ ?_
        refine ⟨rfl, ?_⟩
        unfold gMa gOwn
        repeat' split
        all_goals omega
  · refine gg_iload_n dX8_metAs_6 1 rfl ?_
    refine gg_iconst dX8_metAs_7 ?_
    refine gg_icmp_eq (tgt := 17) dX8_metAs_8 (by decide) (by omega) (fun hb4 => ?_) (fun hb4 => ?_)
    · refine gg_iconst dX8_metAs_17 ?_
      refine gg_goto (tgt := 22) dX8_metAs_18 (by decide) ?_
      refine gg_istore_n (ls' := [(2, .int (iv 1)), (0, .int (iv (k : Int))), (1, .int (iv (q : Int)))]) dX8_metAs_22 rfl (by decide) rfl ?_
      refine gg_iload_n dX8_metAs_23 1 rfl ?_
      refine gg_iload_n dX8_metAs_24 2 rfl ?_
      refine gg_icmp_eq (tgt := 34) dX8_metAs_25 (by decide) (by omega) (fun hb5 => ?_) (fun hb5 => ?_)
      · refine gg_iconst dX8_metAs_34 ?_
        refine gg_goto (tgt := 39) dX8_metAs_35 (by decide) ?_
        refine gg_iload_n dX8_metAs_39 0 rfl ?_
        refine gg_iadd dX8_metAs_40 ?_
        refine gg_ireti dX8_metAs_41 rfl ⟨rfl, rfl⟩ ?_
        refine ⟨rfl, ?_⟩
        unfold gMa gOwn
        repeat' split
        all_goals omega
      · refine gg_iload_n dX8_metAs_28 2 rfl ?_
        refine gg_bipush dX8_metAs_29 (by decide) ?_
        refine gg_icmp_ne (tgt := 38) dX8_metAs_31 (by decide) (by omega) (fun hb6 => ?_) (fun hb6 => ?_)
        · refine gg_iconst dX8_metAs_38 ?_
          refine gg_iload_n dX8_metAs_39 0 rfl ?_
          refine gg_iadd dX8_metAs_40 ?_
          refine gg_ireti dX8_metAs_41 rfl ⟨rfl, rfl⟩ ?_
          refine ⟨rfl, ?_⟩
          unfold gMa gOwn
          repeat' split
          all_goals omega
        · refine gg_iconst dX8_metAs_34 ?_
          refine gg_goto (tgt := 39) dX8_metAs_35 (by decide) ?_
          refine gg_iload_n dX8_metAs_39 0 rfl ?_
          refine gg_iadd dX8_metAs_40 ?_
          refine gg_ireti dX8_metAs_41 rfl ⟨rfl, rfl⟩ ?_
          refine ⟨rfl, ?_⟩
          unfold gMa gOwn
          repeat' split
          all_goals omega
    · refine gg_iload_n dX8_metAs_11 1 rfl ?_
      refine gg_bipush dX8_metAs_12 (by decide) ?_
      refine gg_icmp_ne (tgt := 21) dX8_metAs_14 (by decide) (by omega) (fun hb7 => ?_) (fun hb7 => ?_)
      · refine gg_iconst dX8_metAs_21 ?_
        refine gg_istore_n (ls' := [(2, .int (iv 0)), (0, .int (iv (k : Int))), (1, .int (iv (q : Int)))]) dX8_metAs_22 rfl (by decide) rfl ?_
        refine gg_iload_n dX8_metAs_23 1 rfl ?_
        refine gg_iload_n dX8_metAs_24 2 rfl ?_
        refine gg_icmp_eq (tgt := 34) dX8_metAs_25 (by decide) (by omega) (fun hb8 => ?_) (fun hb8 => ?_)
        · refine gg_iconst dX8_metAs_34 ?_
          refine gg_goto (tgt := 39) dX8_metAs_35 (by decide) ?_
          refine gg_iload_n dX8_metAs_39 0 rfl ?_
          refine gg_iadd dX8_metAs_40 ?_
          refine gg_ireti dX8_metAs_41 rfl ⟨rfl, rfl⟩ ?_
          refine ⟨rfl, ?_⟩
          unfold gMa gOwn
          repeat' split
          all_goals omega
        · refine gg_iload_n dX8_metAs_28 2 rfl ?_
          refine gg_bipush dX8_metAs_29 (by decide) ?_
          refine gg_icmp_ne (tgt := 38) dX8_metAs_31 (by decide) (by omega) (fun hb9 => ?_) (fun hb9 => ?_)
          · refine gg_iconst dX8_metAs_38 ?_
            refine gg_iload_n dX8_metAs_39 0 rfl ?_
            refine gg_iadd dX8_metAs_40 ?_
            refine gg_ireti dX8_metAs_41 rfl ⟨rfl, rfl⟩ ?_
            refine ⟨rfl, ?_⟩
            unfold gMa gOwn
            repeat' split
            all_goals omega
          · refine gg_iconst dX8_metAs_34 ?_
            refine gg_goto (tgt := 39) dX8_metAs_35 (by decide) ?_
            refine gg_iload_n dX8_metAs_39 0 rfl ?_
            refine gg_iadd dX8_metAs_40 ?_
            refine gg_ireti dX8_metAs_41 rfl ⟨rfl, rfl⟩ ?_
            refine ⟨rfl, ?_⟩
            unfold gMa gOwn
            repeat' split
            all_goals omega
      · refine gg_iconst dX8_metAs_17 ?_
        refine gg_goto (tgt := 22) dX8_metAs_18 (by decide) ?_
        refine gg_istore_n (ls' := [(2, .int (iv 1)), (0, .int (iv (k : Int))), (1, .int (iv (q : Int)))]) dX8_metAs_22 rfl (by decide) rfl ?_
        refine gg_iload_n dX8_metAs_23 1 rfl ?_
        refine gg_iload_n dX8_metAs_24 2 rfl ?_
        refine gg_icmp_eq (tgt := 34) dX8_metAs_25 (by decide) (by omega) (fun hb10 => ?_) (fun hb10 => ?_)
        · refine gg_iconst dX8_metAs_34 ?_
          refine gg_goto (tgt := 39) dX8_metAs_35 (by decide) ?_
          refine gg_iload_n dX8_metAs_39 0 rfl ?_
          refine gg_iadd dX8_metAs_40 ?_
          refine gg_ireti dX8_metAs_41 rfl ⟨rfl, rfl⟩ ?_
          refine ⟨rfl, ?_⟩
          unfold gMa gOwn
          repeat' split
          all_goals omega
        · refine gg_iload_n dX8_metAs_28 2 rfl ?_
          refine gg_bipush dX8_metAs_29 (by decide) ?_
          refine gg_icmp_ne (tgt := 38) dX8_metAs_31 (by decide) (by omega) (fun hb11 => ?_) (fun hb11 => ?_)
          · refine gg_iconst dX8_metAs_38 ?_
            refine gg_iload_n dX8_metAs_39 0 rfl ?_
            refine gg_iadd dX8_metAs_40 ?_
            refine gg_ireti dX8_metAs_41 rfl ⟨rfl, rfl⟩ ?_
            refine ⟨rfl, ?_⟩
            unfold gMa gOwn
            repeat' split
            all_goals omega
          · refine gg_iconst dX8_metAs_34 ?_
            refine gg_goto (tgt := 39) dX8_metAs_35 (by decide) ?_
            refine gg_iload_n dX8_metAs_39 0 rfl ?_
            refine gg_iadd dX8_metAs_40 ?_
            refine gg_ireti dX8_metAs_41 rfl ⟨rfl, rfl⟩ ?_
            refine ⟨rfl, ?_⟩
            unfold gMa gOwn
            repeat' split
            all_goals omega

set_option maxHeartbeats 4000000 in
set_option maxRecDepth 10000 in
theorem c_X8_askParts {l : Launch} {Γ : gC} {ad : Nat → Nat} {I : Nat → Nat → Int} {J : Nat → Nat → Int64} {d : Nat} {a n : Nat} {K : Nat → Nat} {N : Nat → Int64} {Z : Nat → Nat} (hF : gF a) (hA : gAt I J a n K N Z) (hW : gWf n K N Z) {j : Nat} (hj : j < n) (hd : 3 ≤ d) : gKv l Γ gm_X8_askParts d [.ref (gad (gSS ad) 25), .ref (gad (gSS ad) a), .int (iv (j : Int))] (gSS ad, I, J) (fun μ => ∃ I', μ = (gSS ad, I', J) ∧ (∀ p, p ≠ 27 → I' p = I p) ∧ (∀ q, (gCh K Z (J 26) j q → I' 27 q = 1) ∧ (¬ gCh K Z (J 26) j q → I' 27 q = I 27 q))) := by
  refine gKv_of gk_X8_askParts.1 (Nat.le_of_ble_eq_true rfl) ?_
  show gG l Γ gm_X8_askParts (d, 0, 0, 0, 0) 0 [(0, .ref (gad (gSS ad) 25)), (1, .ref (gad (gSS ad) a)), (2, .int (iv (j : Int)))] [] _ _
  obtain ⟨hK, hZ1, hZ2, he0, he1, he2, he3, hc1, hc2, hc3, -⟩ := hW.2.2 j hj
  have hn := hW.1
  have hg0 : 1 ≤ gPar (K j) → gPt Z j 0 < n := hc1
  have hg1 := hc2
  have hg2 := hc3
  skip
  refine gg_aload_n dX8_askParts_0 1 rfl ?_
  refine gg_iload_n dX8_askParts_1 2 rfl ?_
  refine gg_callVi (own := RX8) (yt := gm_X1_kind) rfl gl_RX8_33 gk_X1_kind gr_X1_kind dX8_askParts_2 (c_X1_kind (d := d - 1) hF hA hW.1 (j := j) (by omega) (by omega)) (gFsh hF) (gFlt hF) (by decide) rfl rfl rfl (Nat.le_of_ble_eq_true rfl) (by show _ ≤ d; omega) ⟨Nat.le_refl _, Nat.le_refl _⟩ (fun e1 μ' hc => ?_)
  obtain ⟨rfl, rfl⟩ := hc
  obtain hk | hk | hk | hk | hk | hk | hk | hk := (by omega : K j = 0 ∨ K j = 1 ∨ K j = 2 ∨ K j = 3 ∨ K j = 4 ∨ K j = 5 ∨ K j = 6 ∨ K j = 7)
  · refine gg_toI (b := 0) (by omega) ?_
    refine gg_istore_n (ls' := [(3, .int (iv 0)), (0, .ref (gad (gSS ad) 25)), (1, .ref (gad (gSS ad) a)), (2, .int (iv (j : Int)))]) dX8_askParts_5 rfl (by decide) rfl ?_
    refine gg_iconst dX8_askParts_6 ?_
    refine gg_istore (ls' := [(4, .int (iv 0)), (3, .int (iv 0)), (0, .ref (gad (gSS ad) 25)), (1, .ref (gad (gSS ad) a)), (2, .int (iv (j : Int)))]) dX8_askParts_7 (by decide) rfl ?_
    refine gg_iload dX8_askParts_9 0 rfl ?_
    refine gg_aload_n dX8_askParts_11 3 rfl ?_
    refine gg_iload_n dX8_askParts_12 4 rfl ?_
    refine gg_callVi (own := RX8) (yt := gm_X1_parts) rfl gl_RX8_63 gk_X1_parts gr_X1_parts dX8_askParts_13 (c_X1_parts (d := d - 1) hF hA hW.1 (j := j) (by omega) (by omega) (hW.2.2 j (by omega)).1) (gFsh hF) (gFlt hF) (by decide) rfl rfl rfl (Nat.le_of_ble_eq_true rfl) (by show _ ≤ d; omega) ⟨Nat.le_refl _, Nat.le_refl _⟩ (fun e2 μ' hc => ?_)
    obtain ⟨rfl, rfl⟩ := hc
    refine gg_toI (b := 0) (by rw [hk]; rfl) ?_
    refine gg_icmp_ge_t (tgt := 95) dX8_askParts_16 (by decide) (by decide) (by decide) ?_
    refine gg_vretv dX8_askParts_95 rfl ⟨rfl, rfl⟩ ?_
    refine ⟨_, rfl, fun p hp => ?_, fun q => ⟨fun h => ?_, fun h => ?_⟩⟩
    · first | rfl | (funext b; simp [gu, hp])
    · simp only [gCh, hk, gPar, gPt] at h
      try simp only [gu, gPt]
      repeat' split
      all_goals first | rfl | (exfalso; simp_all; done) | (exfalso; simp_all; omega)
    · simp only [gCh, hk, gPar, gPt] at h
      try simp only [gu, gPt]
      repeat' split
      all_goals first | rfl | (exfalso; simp_all; done) | (exfalso; simp_all; omega)
  · refine gg_toI (b := 1) (by omega) ?_
    refine gg_istore_n (ls' := [(3, .int (iv 1)), (0, .ref (gad (gSS ad) 25)), (1, .ref (gad (gSS ad) a)), (2, .int (iv (j : Int)))]) dX8_askParts_5 rfl (by decide) rfl ?_
    refine gg_iconst dX8_askParts_6 ?_
    refine gg_istore (ls' := [(4, .int (iv 0)), (3, .int (iv 1)), (0, .ref (gad (gSS ad) 25)), (1, .ref (gad (gSS ad) a)), (2, .int (iv (j : Int)))]) dX8_askParts_7 (by decide) rfl ?_
    refine gg_iload dX8_askParts_9 0 rfl ?_
    refine gg_aload_n dX8_askParts_11 3 rfl ?_
    refine gg_iload_n dX8_askParts_12 4 rfl ?_
    refine gg_callVi (own := RX8) (yt := gm_X1_parts) rfl gl_RX8_63 gk_X1_parts gr_X1_parts dX8_askParts_13 (c_X1_parts (d := d - 1) hF hA hW.1 (j := j) (by omega) (by omega) (hW.2.2 j (by omega)).1) (gFsh hF) (gFlt hF) (by decide) rfl rfl rfl (Nat.le_of_ble_eq_true rfl) (by show _ ≤ d; omega) ⟨Nat.le_refl _, Nat.le_refl _⟩ (fun e3 μ' hc => ?_)
    obtain ⟨rfl, rfl⟩ := hc
    refine gg_toI (b := 0) (by rw [hk]; rfl) ?_
    refine gg_icmp_ge_t (tgt := 95) dX8_askParts_16 (by decide) (by decide) (by decide) ?_
    refine gg_vretv dX8_askParts_95 rfl ⟨rfl, rfl⟩ ?_
    refine ⟨_, rfl, fun p hp => ?_, fun q => ⟨fun h => ?_, fun h => ?_⟩⟩
    · first | rfl | (funext b; simp [gu, hp])
    · simp only [gCh, hk, gPar, gPt] at h
      try simp only [gu, gPt]
      repeat' split
      all_goals first | rfl | (exfalso; simp_all; done) | (exfalso; simp_all; omega)
    · simp only [gCh, hk, gPar, gPt] at h
      try simp only [gu, gPt]
      repeat' split
      all_goals first | rfl | (exfalso; simp_all; done) | (exfalso; simp_all; omega)
  · refine gg_toI (b := 2) (by omega) ?_
    refine gg_istore_n (ls' := [(3, .int (iv 2)), (0, .ref (gad (gSS ad) 25)), (1, .ref (gad (gSS ad) a)), (2, .int (iv (j : Int)))]) dX8_askParts_5 rfl (by decide) rfl ?_
    refine gg_iconst dX8_askParts_6 ?_
    refine gg_istore (ls' := [(4, .int (iv 0)), (3, .int (iv 2)), (0, .ref (gad (gSS ad) 25)), (1, .ref (gad (gSS ad) a)), (2, .int (iv (j : Int)))]) dX8_askParts_7 (by decide) rfl ?_
    refine gg_iload dX8_askParts_9 0 rfl ?_
    refine gg_aload_n dX8_askParts_11 3 rfl ?_
    refine gg_iload_n dX8_askParts_12 4 rfl ?_
    refine gg_callVi (own := RX8) (yt := gm_X1_parts) rfl gl_RX8_63 gk_X1_parts gr_X1_parts dX8_askParts_13 (c_X1_parts (d := d - 1) hF hA hW.1 (j := j) (by omega) (by omega) (hW.2.2 j (by omega)).1) (gFsh hF) (gFlt hF) (by decide) rfl rfl rfl (Nat.le_of_ble_eq_true rfl) (by show _ ≤ d; omega) ⟨Nat.le_refl _, Nat.le_refl _⟩ (fun e4 μ' hc => ?_)
    obtain ⟨rfl, rfl⟩ := hc
    refine gg_toI (b := 1) (by rw [hk]; rfl) ?_
    refine gg_icmp_ge_f (tgt := 95) dX8_askParts_16 (by decide) (by decide) (by decide) ?_
    refine gg_aload_n dX8_askParts_19 3 rfl ?_
    refine gg_iload_n dX8_askParts_20 4 rfl ?_
    refine gg_iload dX8_askParts_21 0 rfl ?_
    refine gg_callVi (own := RX8) (yt := gm_X1_part) rfl gl_RX8_44 gk_X1_part gr_X1_part dX8_askParts_23 (c_X1_part0 (d := d - 1) hF hA hW.1 (j := j) hj (by omega)) (gFsh hF) (gFlt hF) (by decide) rfl rfl rfl (Nat.le_of_ble_eq_true rfl) (by show _ ≤ d; omega) ⟨Nat.le_refl _, Nat.le_refl _⟩ (fun e5 μ' hc => ?_)
    obtain ⟨rfl, rfl⟩ := hc
    refine gg_istore (ls' := [(5, .int (iv (gPt Z j 0 : Int))), (4, .int (iv 0)), (3, .int (iv 2)), (0, .ref (gad (gSS ad) 25)), (1, .ref (gad (gSS ad) a)), (2, .int (iv (j : Int)))]) dX8_askParts_26 (by decide) rfl ?_
    refine gg_iload_n dX8_askParts_28 2 rfl ?_
    refine gg_bipush dX8_askParts_29 (by decide) ?_
    refine gg_icmp_ne_t (tgt := 65) dX8_askParts_31 (by decide) (by decide) (by decide) ?_
    refine gg_iconst dX8_askParts_65 ?_
    refine gg_istore (ls' := [(6, .int (iv 0)), (5, .int (iv (gPt Z j 0 : Int))), (4, .int (iv 0)), (3, .int (iv 2)), (0, .ref (gad (gSS ad) 25)), (1, .ref (gad (gSS ad) a)), (2, .int (iv (j : Int)))]) dX8_askParts_66 (by decide) rfl ?_
    refine gg_iload dX8_askParts_68 1 rfl ?_
    refine gg_sipush dX8_askParts_70 (by decide) ?_
    refine gg_icmp_ge_f (tgt := 89) dX8_askParts_73 (by decide) (by have := hg0 (by rw [hk]; decide); omega) (by have := hg0 (by rw [hk]; decide); omega) ?_
    refine gg_iload dX8_askParts_76 0 rfl ?_
    refine gg_if_ne_f (tgt := 89) dX8_askParts_78 (by decide) (by decide) (by decide) ?_
    refine gg_aload_n dX8_askParts_81 4 rfl ?_
    refine gg_getR (k' := 27) rfl gf_RX8_15 dX8_askParts_82 sh_25 pl_25 (by decide) (by decide) rr_25_1 ?_
    refine gg_iload dX8_askParts_85 1 rfl ?_
    refine gg_iconst dX8_askParts_87 ?_
    refine gg_zastj (gPt Z j 0) dX8_askParts_88 sh_27 pl_27 (by decide) rfl (by have := hg0 (by rw [hk]; decide); omega) (Or.inr rfl) ?_
    refine gg_iincv (ls' := [(4, .int (iv 1)), (6, .int (iv 0)), (5, .int (iv (gPt Z j 0 : Int))), (3, .int (iv 2)), (0, .ref (gad (gSS ad) 25)), (1, .ref (gad (gSS ad) a)), (2, .int (iv (j : Int)))]) dX8_askParts_89 2 rfl rfl (by decide) rfl ?_
    refine gg_goto (tgt := 9) dX8_askParts_92 (by decide) ?_
    refine gg_iload dX8_askParts_9 0 rfl ?_
    refine gg_aload_n dX8_askParts_11 5 rfl ?_
    refine gg_iload_n dX8_askParts_12 6 rfl ?_
    refine gg_callVi (own := RX8) (yt := gm_X1_parts) rfl gl_RX8_63 gk_X1_parts gr_X1_parts dX8_askParts_13 (c_X1_parts (d := d - 1) hF (gAt_g27 hF hA) hW.1 (j := j) (by omega) (by omega) (hW.2.2 j (by omega)).1) (gFsh hF) (gFlt hF) (by decide) rfl rfl rfl (Nat.le_of_ble_eq_true rfl) (by show _ ≤ d; omega) ⟨Nat.le_refl _, Nat.le_refl _⟩ (fun e6 μ' hc => ?_)
    obtain ⟨rfl, rfl⟩ := hc
    refine gg_toI (b := 1) (by rw [hk]; rfl) ?_
    refine gg_icmp_ge_t (tgt := 95) dX8_askParts_16 (by decide) (by decide) (by decide) ?_
    refine gg_vretv dX8_askParts_95 rfl ⟨rfl, rfl⟩ ?_
    refine ⟨_, rfl, fun p hp => ?_, fun q => ⟨fun h => ?_, fun h => ?_⟩⟩
    · first | rfl | (funext b; simp [gu, hp])
    · simp only [gCh, hk, gPar, gPt] at h
      try simp only [gu, gPt]
      repeat' split
      all_goals first | rfl | (exfalso; simp_all; done) | (exfalso; simp_all; omega)
    · simp only [gCh, hk, gPar, gPt] at h
      try simp only [gu, gPt]
      repeat' split
      all_goals first | rfl | (exfalso; simp_all; done) | (exfalso; simp_all; omega)
  · refine gg_toI (b := 3) (by omega) ?_
    refine gg_istore_n (ls' := [(3, .int (iv 3)), (0, .ref (gad (gSS ad) 25)), (1, .ref (gad (gSS ad) a)), (2, .int (iv (j : Int)))]) dX8_askParts_5 rfl (by decide) rfl ?_
    refine gg_iconst dX8_askParts_6 ?_
    refine gg_istore (ls' := [(4, .int (iv 0)), (3, .int (iv 3)), (0, .ref (gad (gSS ad) 25)), (1, .ref (gad (gSS ad) a)), (2, .int (iv (j : Int)))]) dX8_askParts_7 (by decide) rfl ?_
    refine gg_iload dX8_askParts_9 0 rfl ?_
    refine gg_aload_n dX8_askParts_11 3 rfl ?_
    refine gg_iload_n dX8_askParts_12 4 rfl ?_
    refine gg_callVi (own := RX8) (yt := gm_X1_parts) rfl gl_RX8_63 gk_X1_parts gr_X1_parts dX8_askParts_13 (c_X1_parts (d := d - 1) hF hA hW.1 (j := j) (by omega) (by omega) (hW.2.2 j (by omega)).1) (gFsh hF) (gFlt hF) (by decide) rfl rfl rfl (Nat.le_of_ble_eq_true rfl) (by show _ ≤ d; omega) ⟨Nat.le_refl _, Nat.le_refl _⟩ (fun e7 μ' hc => ?_)
    obtain ⟨rfl, rfl⟩ := hc
    refine gg_toI (b := 2) (by rw [hk]; rfl) ?_
    refine gg_icmp_ge_f (tgt := 95) dX8_askParts_16 (by decide) (by decide) (by decide) ?_
    refine gg_aload_n dX8_askParts_19 3 rfl ?_
    refine gg_iload_n dX8_askParts_20 4 rfl ?_
    refine gg_iload dX8_askParts_21 0 rfl ?_
    refine gg_callVi (own := RX8) (yt := gm_X1_part) rfl gl_RX8_44 gk_X1_part gr_X1_part dX8_askParts_23 (c_X1_part0 (d := d - 1) hF hA hW.1 (j := j) hj (by omega)) (gFsh hF) (gFlt hF) (by decide) rfl rfl rfl (Nat.le_of_ble_eq_true rfl) (by show _ ≤ d; omega) ⟨Nat.le_refl _, Nat.le_refl _⟩ (fun e8 μ' hc => ?_)
    obtain ⟨rfl, rfl⟩ := hc
    refine gg_istore (ls' := [(5, .int (iv (gPt Z j 0 : Int))), (4, .int (iv 0)), (3, .int (iv 3)), (0, .ref (gad (gSS ad) 25)), (1, .ref (gad (gSS ad) a)), (2, .int (iv (j : Int)))]) dX8_askParts_26 (by decide) rfl ?_
    refine gg_iload_n dX8_askParts_28 2 rfl ?_
    refine gg_bipush dX8_askParts_29 (by decide) ?_
    refine gg_icmp_ne_t (tgt := 65) dX8_askParts_31 (by decide) (by decide) (by decide) ?_
    refine gg_iconst dX8_askParts_65 ?_
    refine gg_istore (ls' := [(6, .int (iv 0)), (5, .int (iv (gPt Z j 0 : Int))), (4, .int (iv 0)), (3, .int (iv 3)), (0, .ref (gad (gSS ad) 25)), (1, .ref (gad (gSS ad) a)), (2, .int (iv (j : Int)))]) dX8_askParts_66 (by decide) rfl ?_
    refine gg_iload dX8_askParts_68 1 rfl ?_
    refine gg_sipush dX8_askParts_70 (by decide) ?_
    refine gg_icmp_ge_f (tgt := 89) dX8_askParts_73 (by decide) (by have := hg0 (by rw [hk]; decide); omega) (by have := hg0 (by rw [hk]; decide); omega) ?_
    refine gg_iload dX8_askParts_76 0 rfl ?_
    refine gg_if_ne_f (tgt := 89) dX8_askParts_78 (by decide) (by decide) (by decide) ?_
    refine gg_aload_n dX8_askParts_81 4 rfl ?_
    refine gg_getR (k' := 27) rfl gf_RX8_15 dX8_askParts_82 sh_25 pl_25 (by decide) (by decide) rr_25_1 ?_
    refine gg_iload dX8_askParts_85 1 rfl ?_
    refine gg_iconst dX8_askParts_87 ?_
    refine gg_zastj (gPt Z j 0) dX8_askParts_88 sh_27 pl_27 (by decide) rfl (by have := hg0 (by rw [hk]; decide); omega) (Or.inr rfl) ?_
    refine gg_iincv (ls' := [(4, .int (iv 1)), (6, .int (iv 0)), (5, .int (iv (gPt Z j 0 : Int))), (3, .int (iv 3)), (0, .ref (gad (gSS ad) 25)), (1, .ref (gad (gSS ad) a)), (2, .int (iv (j : Int)))]) dX8_askParts_89 2 rfl rfl (by decide) rfl ?_
    refine gg_goto (tgt := 9) dX8_askParts_92 (by decide) ?_
    refine gg_iload dX8_askParts_9 0 rfl ?_
    refine gg_aload_n dX8_askParts_11 5 rfl ?_
    refine gg_iload_n dX8_askParts_12 6 rfl ?_
    refine gg_callVi (own := RX8) (yt := gm_X1_parts) rfl gl_RX8_63 gk_X1_parts gr_X1_parts dX8_askParts_13 (c_X1_parts (d := d - 1) hF (gAt_g27 hF hA) hW.1 (j := j) (by omega) (by omega) (hW.2.2 j (by omega)).1) (gFsh hF) (gFlt hF) (by decide) rfl rfl rfl (Nat.le_of_ble_eq_true rfl) (by show _ ≤ d; omega) ⟨Nat.le_refl _, Nat.le_refl _⟩ (fun e9 μ' hc => ?_)
    obtain ⟨rfl, rfl⟩ := hc
    refine gg_toI (b := 2) (by rw [hk]; rfl) ?_
    refine gg_icmp_ge_f (tgt := 95) dX8_askParts_16 (by decide) (by decide) (by decide) ?_
    refine gg_aload_n dX8_askParts_19 5 rfl ?_
    refine gg_iload_n dX8_askParts_20 6 rfl ?_
    refine gg_iload dX8_askParts_21 0 rfl ?_
    refine gg_callVi (own := RX8) (yt := gm_X1_part) rfl gl_RX8_44 gk_X1_part gr_X1_part dX8_askParts_23 (c_X1_part1 (d := d - 1) hF (gAt_g27 hF hA) hW.1 (j := j) (hc1 (by rw [hk]; decide)) hj (by omega)) (gFsh hF) (gFlt hF) (by decide) rfl rfl rfl (Nat.le_of_ble_eq_true rfl) (by show _ ≤ d; omega) ⟨Nat.le_refl _, Nat.le_refl _⟩ (fun e10 μ' hc => ?_)
    obtain ⟨rfl, rfl⟩ := hc
    refine gg_istore (ls' := [(5, .int (iv (gPt Z j 1 : Int))), (4, .int (iv 1)), (6, .int (iv 0)), (3, .int (iv 3)), (0, .ref (gad (gSS ad) 25)), (1, .ref (gad (gSS ad) a)), (2, .int (iv (j : Int)))]) dX8_askParts_26 (by decide) rfl ?_
    refine gg_iload_n dX8_askParts_28 3 rfl ?_
    refine gg_bipush dX8_askParts_29 (by decide) ?_
    refine gg_icmp_ne_t (tgt := 65) dX8_askParts_31 (by decide) (by decide) (by decide) ?_
    refine gg_iconst dX8_askParts_65 ?_
    refine gg_istore (ls' := [(6, .int (iv 0)), (5, .int (iv (gPt Z j 1 : Int))), (4, .int (iv 1)), (3, .int (iv 3)), (0, .ref (gad (gSS ad) 25)), (1, .ref (gad (gSS ad) a)), (2, .int (iv (j : Int)))]) dX8_askParts_66 (by decide) rfl ?_
    refine gg_iload dX8_askParts_68 1 rfl ?_
    refine gg_sipush dX8_askParts_70 (by decide) ?_
    refine gg_icmp_ge_f (tgt := 89) dX8_askParts_73 (by decide) (by have := hg1 (by rw [hk]; decide); omega) (by have := hg1 (by rw [hk]; decide); omega) ?_
    refine gg_iload dX8_askParts_76 0 rfl ?_
    refine gg_if_ne_f (tgt := 89) dX8_askParts_78 (by decide) (by decide) (by decide) ?_
    refine gg_aload_n dX8_askParts_81 4 rfl ?_
    refine gg_getR (k' := 27) rfl gf_RX8_15 dX8_askParts_82 sh_25 pl_25 (by decide) (by decide) rr_25_1 ?_
    refine gg_iload dX8_askParts_85 1 rfl ?_
    refine gg_iconst dX8_askParts_87 ?_
    refine gg_zastj (gPt Z j 1) dX8_askParts_88 sh_27 pl_27 (by decide) rfl (by have := hg1 (by rw [hk]; decide); omega) (Or.inr rfl) ?_
    refine gg_iincv (ls' := [(4, .int (iv 2)), (6, .int (iv 0)), (5, .int (iv (gPt Z j 1 : Int))), (3, .int (iv 3)), (0, .ref (gad (gSS ad) 25)), (1, .ref (gad (gSS ad) a)), (2, .int (iv (j : Int)))]) dX8_askParts_89 2 rfl rfl (by decide) rfl ?_
    refine gg_goto (tgt := 9) dX8_askParts_92 (by decide) ?_
    refine gg_iload dX8_askParts_9 0 rfl ?_
    refine gg_aload_n dX8_askParts_11 5 rfl ?_
    refine gg_iload_n dX8_askParts_12 6 rfl ?_
    refine gg_callVi (own := RX8) (yt := gm_X1_parts) rfl gl_RX8_63 gk_X1_parts gr_X1_parts dX8_askParts_13 (c_X1_parts (d := d - 1) hF (gAt_g27 hF (gAt_g27 hF hA)) hW.1 (j := j) (by omega) (by omega) (hW.2.2 j (by omega)).1) (gFsh hF) (gFlt hF) (by decide) rfl rfl rfl (Nat.le_of_ble_eq_true rfl) (by show _ ≤ d; omega) ⟨Nat.le_refl _, Nat.le_refl _⟩ (fun e11 μ' hc => ?_)
    obtain ⟨rfl, rfl⟩ := hc
    refine gg_toI (b := 2) (by rw [hk]; rfl) ?_
    refine gg_icmp_ge_t (tgt := 95) dX8_askParts_16 (by decide) (by decide) (by decide) ?_
    refine gg_vretv dX8_askParts_95 rfl ⟨rfl, rfl⟩ ?_
    refine ⟨_, rfl, fun p hp => ?_, fun q => ⟨fun h => ?_, fun h => ?_⟩⟩
    · first | rfl | (funext b; simp [gu, hp])
    · simp only [gCh, hk, gPar, gPt] at h
      try simp only [gu, gPt]
      repeat' split
      all_goals first | rfl | (exfalso; simp_all; done) | (exfalso; simp_all; omega)
    · simp only [gCh, hk, gPar, gPt] at h
      try simp only [gu, gPt]
      repeat' split
      all_goals first | rfl | (exfalso; simp_all; done) | (exfalso; simp_all; omega)
  · refine gg_toI (b := 4) (by omega) ?_
    refine gg_istore_n (ls' := [(3, .int (iv 4)), (0, .ref (gad (gSS ad) 25)), (1, .ref (gad (gSS ad) a)), (2, .int (iv (j : Int)))]) dX8_askParts_5 rfl (by decide) rfl ?_
    refine gg_iconst dX8_askParts_6 ?_
    refine gg_istore (ls' := [(4, .int (iv 0)), (3, .int (iv 4)), (0, .ref (gad (gSS ad) 25)), (1, .ref (gad (gSS ad) a)), (2, .int (iv (j : Int)))]) dX8_askParts_7 (by decide) rfl ?_
    refine gg_iload dX8_askParts_9 0 rfl ?_
    refine gg_aload_n dX8_askParts_11 3 rfl ?_
    refine gg_iload_n dX8_askParts_12 4 rfl ?_
    refine gg_callVi (own := RX8) (yt := gm_X1_parts) rfl gl_RX8_63 gk_X1_parts gr_X1_parts dX8_askParts_13 (c_X1_parts (d := d - 1) hF hA hW.1 (j := j) (by omega) (by omega) (hW.2.2 j (by omega)).1) (gFsh hF) (gFlt hF) (by decide) rfl rfl rfl (Nat.le_of_ble_eq_true rfl) (by show _ ≤ d; omega) ⟨Nat.le_refl _, Nat.le_refl _⟩ (fun e12 μ' hc => ?_)
    obtain ⟨rfl, rfl⟩ := hc
    refine gg_toI (b := 2) (by rw [hk]; rfl) ?_
    refine gg_icmp_ge_f (tgt := 95) dX8_askParts_16 (by decide) (by decide) (by decide) ?_
    refine gg_aload_n dX8_askParts_19 3 rfl ?_
    refine gg_iload_n dX8_askParts_20 4 rfl ?_
    refine gg_iload dX8_askParts_21 0 rfl ?_
    refine gg_callVi (own := RX8) (yt := gm_X1_part) rfl gl_RX8_44 gk_X1_part gr_X1_part dX8_askParts_23 (c_X1_part0 (d := d - 1) hF hA hW.1 (j := j) hj (by omega)) (gFsh hF) (gFlt hF) (by decide) rfl rfl rfl (Nat.le_of_ble_eq_true rfl) (by show _ ≤ d; omega) ⟨Nat.le_refl _, Nat.le_refl _⟩ (fun e13 μ' hc => ?_)
    obtain ⟨rfl, rfl⟩ := hc
    refine gg_istore (ls' := [(5, .int (iv (gPt Z j 0 : Int))), (4, .int (iv 0)), (3, .int (iv 4)), (0, .ref (gad (gSS ad) 25)), (1, .ref (gad (gSS ad) a)), (2, .int (iv (j : Int)))]) dX8_askParts_26 (by decide) rfl ?_
    refine gg_iload_n dX8_askParts_28 2 rfl ?_
    refine gg_bipush dX8_askParts_29 (by decide) ?_
    refine gg_icmp_ne_t (tgt := 65) dX8_askParts_31 (by decide) (by decide) (by decide) ?_
    refine gg_iconst dX8_askParts_65 ?_
    refine gg_istore (ls' := [(6, .int (iv 0)), (5, .int (iv (gPt Z j 0 : Int))), (4, .int (iv 0)), (3, .int (iv 4)), (0, .ref (gad (gSS ad) 25)), (1, .ref (gad (gSS ad) a)), (2, .int (iv (j : Int)))]) dX8_askParts_66 (by decide) rfl ?_
    refine gg_iload dX8_askParts_68 1 rfl ?_
    refine gg_sipush dX8_askParts_70 (by decide) ?_
    refine gg_icmp_ge_f (tgt := 89) dX8_askParts_73 (by decide) (by have := hg0 (by rw [hk]; decide); omega) (by have := hg0 (by rw [hk]; decide); omega) ?_
    refine gg_iload dX8_askParts_76 0 rfl ?_
    refine gg_if_ne_f (tgt := 89) dX8_askParts_78 (by decide) (by decide) (by decide) ?_
    refine gg_aload_n dX8_askParts_81 4 rfl ?_
    refine gg_getR (k' := 27) rfl gf_RX8_15 dX8_askParts_82 sh_25 pl_25 (by decide) (by decide) rr_25_1 ?_
    refine gg_iload dX8_askParts_85 1 rfl ?_
    refine gg_iconst dX8_askParts_87 ?_
    refine gg_zastj (gPt Z j 0) dX8_askParts_88 sh_27 pl_27 (by decide) rfl (by have := hg0 (by rw [hk]; decide); omega) (Or.inr rfl) ?_
    refine gg_iincv (ls' := [(4, .int (iv 1)), (6, .int (iv 0)), (5, .int (iv (gPt Z j 0 : Int))), (3, .int (iv 4)), (0, .ref (gad (gSS ad) 25)), (1, .ref (gad (gSS ad) a)), (2, .int (iv (j : Int)))]) dX8_askParts_89 2 rfl rfl (by decide) rfl ?_
    refine gg_goto (tgt := 9) dX8_askParts_92 (by decide) ?_
    refine gg_iload dX8_askParts_9 0 rfl ?_
    refine gg_aload_n dX8_askParts_11 5 rfl ?_
    refine gg_iload_n dX8_askParts_12 6 rfl ?_
    refine gg_callVi (own := RX8) (yt := gm_X1_parts) rfl gl_RX8_63 gk_X1_parts gr_X1_parts dX8_askParts_13 (c_X1_parts (d := d - 1) hF (gAt_g27 hF hA) hW.1 (j := j) (by omega) (by omega) (hW.2.2 j (by omega)).1) (gFsh hF) (gFlt hF) (by decide) rfl rfl rfl (Nat.le_of_ble_eq_true rfl) (by show _ ≤ d; omega) ⟨Nat.le_refl _, Nat.le_refl _⟩ (fun e14 μ' hc => ?_)
    obtain ⟨rfl, rfl⟩ := hc
    refine gg_toI (b := 2) (by rw [hk]; rfl) ?_
    refine gg_icmp_ge_f (tgt := 95) dX8_askParts_16 (by decide) (by decide) (by decide) ?_
    refine gg_aload_n dX8_askParts_19 5 rfl ?_
    refine gg_iload_n dX8_askParts_20 6 rfl ?_
    refine gg_iload dX8_askParts_21 0 rfl ?_
    refine gg_callVi (own := RX8) (yt := gm_X1_part) rfl gl_RX8_44 gk_X1_part gr_X1_part dX8_askParts_23 (c_X1_part1 (d := d - 1) hF (gAt_g27 hF hA) hW.1 (j := j) (hc1 (by rw [hk]; decide)) hj (by omega)) (gFsh hF) (gFlt hF) (by decide) rfl rfl rfl (Nat.le_of_ble_eq_true rfl) (by show _ ≤ d; omega) ⟨Nat.le_refl _, Nat.le_refl _⟩ (fun e15 μ' hc => ?_)
    obtain ⟨rfl, rfl⟩ := hc
    refine gg_istore (ls' := [(5, .int (iv (gPt Z j 1 : Int))), (4, .int (iv 1)), (6, .int (iv 0)), (3, .int (iv 4)), (0, .ref (gad (gSS ad) 25)), (1, .ref (gad (gSS ad) a)), (2, .int (iv (j : Int)))]) dX8_askParts_26 (by decide) rfl ?_
    refine gg_iload_n dX8_askParts_28 3 rfl ?_
    refine gg_bipush dX8_askParts_29 (by decide) ?_
    refine gg_icmp_ne_t (tgt := 65) dX8_askParts_31 (by decide) (by decide) (by decide) ?_
    refine gg_iconst dX8_askParts_65 ?_
    refine gg_istore (ls' := [(6, .int (iv 0)), (5, .int (iv (gPt Z j 1 : Int))), (4, .int (iv 1)), (3, .int (iv 4)), (0, .ref (gad (gSS ad) 25)), (1, .ref (gad (gSS ad) a)), (2, .int (iv (j : Int)))]) dX8_askParts_66 (by decide) rfl ?_
    refine gg_iload dX8_askParts_68 1 rfl ?_
    refine gg_sipush dX8_askParts_70 (by decide) ?_
    refine gg_icmp_ge_f (tgt := 89) dX8_askParts_73 (by decide) (by have := hg1 (by rw [hk]; decide); omega) (by have := hg1 (by rw [hk]; decide); omega) ?_
    refine gg_iload dX8_askParts_76 0 rfl ?_
    refine gg_if_ne_f (tgt := 89) dX8_askParts_78 (by decide) (by decide) (by decide) ?_
    refine gg_aload_n dX8_askParts_81 4 rfl ?_
    refine gg_getR (k' := 27) rfl gf_RX8_15 dX8_askParts_82 sh_25 pl_25 (by decide) (by decide) rr_25_1 ?_
    refine gg_iload dX8_askParts_85 1 rfl ?_
    refine gg_iconst dX8_askParts_87 ?_
    refine gg_zastj (gPt Z j 1) dX8_askParts_88 sh_27 pl_27 (by decide) rfl (by have := hg1 (by rw [hk]; decide); omega) (Or.inr rfl) ?_
    refine gg_iincv (ls' := [(4, .int (iv 2)), (6, .int (iv 0)), (5, .int (iv (gPt Z j 1 : Int))), (3, .int (iv 4)), (0, .ref (gad (gSS ad) 25)), (1, .ref (gad (gSS ad) a)), (2, .int (iv (j : Int)))]) dX8_askParts_89 2 rfl rfl (by decide) rfl ?_
    refine gg_goto (tgt := 9) dX8_askParts_92 (by decide) ?_
    refine gg_iload dX8_askParts_9 0 rfl ?_
    refine gg_aload_n dX8_askParts_11 5 rfl ?_
    refine gg_iload_n dX8_askParts_12 6 rfl ?_
    refine gg_callVi (own := RX8) (yt := gm_X1_parts) rfl gl_RX8_63 gk_X1_parts gr_X1_parts dX8_askParts_13 (c_X1_parts (d := d - 1) hF (gAt_g27 hF (gAt_g27 hF hA)) hW.1 (j := j) (by omega) (by omega) (hW.2.2 j (by omega)).1) (gFsh hF) (gFlt hF) (by decide) rfl rfl rfl (Nat.le_of_ble_eq_true rfl) (by show _ ≤ d; omega) ⟨Nat.le_refl _, Nat.le_refl _⟩ (fun e16 μ' hc => ?_)
    obtain ⟨rfl, rfl⟩ := hc
    refine gg_toI (b := 2) (by rw [hk]; rfl) ?_
    refine gg_icmp_ge_t (tgt := 95) dX8_askParts_16 (by decide) (by decide) (by decide) ?_
    refine gg_vretv dX8_askParts_95 rfl ⟨rfl, rfl⟩ ?_
    refine ⟨_, rfl, fun p hp => ?_, fun q => ⟨fun h => ?_, fun h => ?_⟩⟩
    · first | rfl | (funext b; simp [gu, hp])
    · simp only [gCh, hk, gPar, gPt] at h
      try simp only [gu, gPt]
      repeat' split
      all_goals first | rfl | (exfalso; simp_all; done) | (exfalso; simp_all; omega)
    · simp only [gCh, hk, gPar, gPt] at h
      try simp only [gu, gPt]
      repeat' split
      all_goals first | rfl | (exfalso; simp_all; done) | (exfalso; simp_all; omega)
  · refine gg_toI (b := 5) (by omega) ?_
    refine gg_istore_n (ls' := [(3, .int (iv 5)), (0, .ref (gad (gSS ad) 25)), (1, .ref (gad (gSS ad) a)), (2, .int (iv (j : Int)))]) dX8_askParts_5 rfl (by decide) rfl ?_
    refine gg_iconst dX8_askParts_6 ?_
    refine gg_istore (ls' := [(4, .int (iv 0)), (3, .int (iv 5)), (0, .ref (gad (gSS ad) 25)), (1, .ref (gad (gSS ad) a)), (2, .int (iv (j : Int)))]) dX8_askParts_7 (by decide) rfl ?_
    refine gg_iload dX8_askParts_9 0 rfl ?_
    refine gg_aload_n dX8_askParts_11 3 rfl ?_
    refine gg_iload_n dX8_askParts_12 4 rfl ?_
    refine gg_callVi (own := RX8) (yt := gm_X1_parts) rfl gl_RX8_63 gk_X1_parts gr_X1_parts dX8_askParts_13 (c_X1_parts (d := d - 1) hF hA hW.1 (j := j) (by omega) (by omega) (hW.2.2 j (by omega)).1) (gFsh hF) (gFlt hF) (by decide) rfl rfl rfl (Nat.le_of_ble_eq_true rfl) (by show _ ≤ d; omega) ⟨Nat.le_refl _, Nat.le_refl _⟩ (fun e17 μ' hc => ?_)
    obtain ⟨rfl, rfl⟩ := hc
    refine gg_toI (b := 1) (by rw [hk]; rfl) ?_
    refine gg_icmp_ge_f (tgt := 95) dX8_askParts_16 (by decide) (by decide) (by decide) ?_
    refine gg_aload_n dX8_askParts_19 3 rfl ?_
    refine gg_iload_n dX8_askParts_20 4 rfl ?_
    refine gg_iload dX8_askParts_21 0 rfl ?_
    refine gg_callVi (own := RX8) (yt := gm_X1_part) rfl gl_RX8_44 gk_X1_part gr_X1_part dX8_askParts_23 (c_X1_part0 (d := d - 1) hF hA hW.1 (j := j) hj (by omega)) (gFsh hF) (gFlt hF) (by decide) rfl rfl rfl (Nat.le_of_ble_eq_true rfl) (by show _ ≤ d; omega) ⟨Nat.le_refl _, Nat.le_refl _⟩ (fun e18 μ' hc => ?_)
    obtain ⟨rfl, rfl⟩ := hc
    refine gg_istore (ls' := [(5, .int (iv (gPt Z j 0 : Int))), (4, .int (iv 0)), (3, .int (iv 5)), (0, .ref (gad (gSS ad) 25)), (1, .ref (gad (gSS ad) a)), (2, .int (iv (j : Int)))]) dX8_askParts_26 (by decide) rfl ?_
    refine gg_iload_n dX8_askParts_28 2 rfl ?_
    refine gg_bipush dX8_askParts_29 (by decide) ?_
    refine gg_icmp_ne_t (tgt := 65) dX8_askParts_31 (by decide) (by decide) (by decide) ?_
    refine gg_iconst dX8_askParts_65 ?_
    refine gg_istore (ls' := [(6, .int (iv 0)), (5, .int (iv (gPt Z j 0 : Int))), (4, .int (iv 0)), (3, .int (iv 5)), (0, .ref (gad (gSS ad) 25)), (1, .ref (gad (gSS ad) a)), (2, .int (iv (j : Int)))]) dX8_askParts_66 (by decide) rfl ?_
    refine gg_iload dX8_askParts_68 1 rfl ?_
    refine gg_sipush dX8_askParts_70 (by decide) ?_
    refine gg_icmp_ge_f (tgt := 89) dX8_askParts_73 (by decide) (by have := hg0 (by rw [hk]; decide); omega) (by have := hg0 (by rw [hk]; decide); omega) ?_
    refine gg_iload dX8_askParts_76 0 rfl ?_
    refine gg_if_ne_f (tgt := 89) dX8_askParts_78 (by decide) (by decide) (by decide) ?_
    refine gg_aload_n dX8_askParts_81 4 rfl ?_
    refine gg_getR (k' := 27) rfl gf_RX8_15 dX8_askParts_82 sh_25 pl_25 (by decide) (by decide) rr_25_1 ?_
    refine gg_iload dX8_askParts_85 1 rfl ?_
    refine gg_iconst dX8_askParts_87 ?_
    refine gg_zastj (gPt Z j 0) dX8_askParts_88 sh_27 pl_27 (by decide) rfl (by have := hg0 (by rw [hk]; decide); omega) (Or.inr rfl) ?_
    refine gg_iincv (ls' := [(4, .int (iv 1)), (6, .int (iv 0)), (5, .int (iv (gPt Z j 0 : Int))), (3, .int (iv 5)), (0, .ref (gad (gSS ad) 25)), (1, .ref (gad (gSS ad) a)), (2, .int (iv (j : Int)))]) dX8_askParts_89 2 rfl rfl (by decide) rfl ?_
    refine gg_goto (tgt := 9) dX8_askParts_92 (by decide) ?_
    refine gg_iload dX8_askParts_9 0 rfl ?_
    refine gg_aload_n dX8_askParts_11 5 rfl ?_
    refine gg_iload_n dX8_askParts_12 6 rfl ?_
    refine gg_callVi (own := RX8) (yt := gm_X1_parts) rfl gl_RX8_63 gk_X1_parts gr_X1_parts dX8_askParts_13 (c_X1_parts (d := d - 1) hF (gAt_g27 hF hA) hW.1 (j := j) (by omega) (by omega) (hW.2.2 j (by omega)).1) (gFsh hF) (gFlt hF) (by decide) rfl rfl rfl (Nat.le_of_ble_eq_true rfl) (by show _ ≤ d; omega) ⟨Nat.le_refl _, Nat.le_refl _⟩ (fun e19 μ' hc => ?_)
    obtain ⟨rfl, rfl⟩ := hc
    refine gg_toI (b := 1) (by rw [hk]; rfl) ?_
    refine gg_icmp_ge_t (tgt := 95) dX8_askParts_16 (by decide) (by decide) (by decide) ?_
    refine gg_vretv dX8_askParts_95 rfl ⟨rfl, rfl⟩ ?_
    refine ⟨_, rfl, fun p hp => ?_, fun q => ⟨fun h => ?_, fun h => ?_⟩⟩
    · first | rfl | (funext b; simp [gu, hp])
    · simp only [gCh, hk, gPar, gPt] at h
      try simp only [gu, gPt]
      repeat' split
      all_goals first | rfl | (exfalso; simp_all; done) | (exfalso; simp_all; omega)
    · simp only [gCh, hk, gPar, gPt] at h
      try simp only [gu, gPt]
      repeat' split
      all_goals first | rfl | (exfalso; simp_all; done) | (exfalso; simp_all; omega)
  · refine gg_toI (b := 6) (by omega) ?_
    refine gg_istore_n (ls' := [(3, .int (iv 6)), (0, .ref (gad (gSS ad) 25)), (1, .ref (gad (gSS ad) a)), (2, .int (iv (j : Int)))]) dX8_askParts_5 rfl (by decide) rfl ?_
    refine gg_iconst dX8_askParts_6 ?_
    refine gg_istore (ls' := [(4, .int (iv 0)), (3, .int (iv 6)), (0, .ref (gad (gSS ad) 25)), (1, .ref (gad (gSS ad) a)), (2, .int (iv (j : Int)))]) dX8_askParts_7 (by decide) rfl ?_
    refine gg_iload dX8_askParts_9 0 rfl ?_
    refine gg_aload_n dX8_askParts_11 3 rfl ?_
    refine gg_iload_n dX8_askParts_12 4 rfl ?_
    refine gg_callVi (own := RX8) (yt := gm_X1_parts) rfl gl_RX8_63 gk_X1_parts gr_X1_parts dX8_askParts_13 (c_X1_parts (d := d - 1) hF hA hW.1 (j := j) (by omega) (by omega) (hW.2.2 j (by omega)).1) (gFsh hF) (gFlt hF) (by decide) rfl rfl rfl (Nat.le_of_ble_eq_true rfl) (by show _ ≤ d; omega) ⟨Nat.le_refl _, Nat.le_refl _⟩ (fun e20 μ' hc => ?_)
    obtain ⟨rfl, rfl⟩ := hc
    refine gg_toI (b := 3) (by rw [hk]; rfl) ?_
    refine gg_icmp_ge_f (tgt := 95) dX8_askParts_16 (by decide) (by decide) (by decide) ?_
    refine gg_aload_n dX8_askParts_19 3 rfl ?_
    refine gg_iload_n dX8_askParts_20 4 rfl ?_
    refine gg_iload dX8_askParts_21 0 rfl ?_
    refine gg_callVi (own := RX8) (yt := gm_X1_part) rfl gl_RX8_44 gk_X1_part gr_X1_part dX8_askParts_23 (c_X1_part0 (d := d - 1) hF hA hW.1 (j := j) hj (by omega)) (gFsh hF) (gFlt hF) (by decide) rfl rfl rfl (Nat.le_of_ble_eq_true rfl) (by show _ ≤ d; omega) ⟨Nat.le_refl _, Nat.le_refl _⟩ (fun e21 μ' hc => ?_)
    obtain ⟨rfl, rfl⟩ := hc
    refine gg_istore (ls' := [(5, .int (iv (gPt Z j 0 : Int))), (4, .int (iv 0)), (3, .int (iv 6)), (0, .ref (gad (gSS ad) 25)), (1, .ref (gad (gSS ad) a)), (2, .int (iv (j : Int)))]) dX8_askParts_26 (by decide) rfl ?_
    refine gg_iload_n dX8_askParts_28 2 rfl ?_
    refine gg_bipush dX8_askParts_29 (by decide) ?_
    refine gg_icmp_ne_f (tgt := 65) dX8_askParts_31 (by decide) (by decide) (by decide) ?_
    refine gg_iload dX8_askParts_34 1 rfl ?_
    refine gg_if_le_t (tgt := 65) dX8_askParts_36 (by decide) (by decide) (by decide) ?_
    refine gg_iconst dX8_askParts_65 ?_
    refine gg_istore (ls' := [(6, .int (iv 0)), (5, .int (iv (gPt Z j 0 : Int))), (4, .int (iv 0)), (3, .int (iv 6)), (0, .ref (gad (gSS ad) 25)), (1, .ref (gad (gSS ad) a)), (2, .int (iv (j : Int)))]) dX8_askParts_66 (by decide) rfl ?_
    refine gg_iload dX8_askParts_68 1 rfl ?_
    refine gg_sipush dX8_askParts_70 (by decide) ?_
    refine gg_icmp_ge_f (tgt := 89) dX8_askParts_73 (by decide) (by have := hg0 (by rw [hk]; decide); omega) (by have := hg0 (by rw [hk]; decide); omega) ?_
    refine gg_iload dX8_askParts_76 0 rfl ?_
    refine gg_if_ne_f (tgt := 89) dX8_askParts_78 (by decide) (by decide) (by decide) ?_
    refine gg_aload_n dX8_askParts_81 4 rfl ?_
    refine gg_getR (k' := 27) rfl gf_RX8_15 dX8_askParts_82 sh_25 pl_25 (by decide) (by decide) rr_25_1 ?_
    refine gg_iload dX8_askParts_85 1 rfl ?_
    refine gg_iconst dX8_askParts_87 ?_
    refine gg_zastj (gPt Z j 0) dX8_askParts_88 sh_27 pl_27 (by decide) rfl (by have := hg0 (by rw [hk]; decide); omega) (Or.inr rfl) ?_
    refine gg_iincv (ls' := [(4, .int (iv 1)), (6, .int (iv 0)), (5, .int (iv (gPt Z j 0 : Int))), (3, .int (iv 6)), (0, .ref (gad (gSS ad) 25)), (1, .ref (gad (gSS ad) a)), (2, .int (iv (j : Int)))]) dX8_askParts_89 2 rfl rfl (by decide) rfl ?_
    refine gg_goto (tgt := 9) dX8_askParts_92 (by decide) ?_
    refine gg_iload dX8_askParts_9 0 rfl ?_
    refine gg_aload_n dX8_askParts_11 5 rfl ?_
    refine gg_iload_n dX8_askParts_12 6 rfl ?_
    refine gg_callVi (own := RX8) (yt := gm_X1_parts) rfl gl_RX8_63 gk_X1_parts gr_X1_parts dX8_askParts_13 (c_X1_parts (d := d - 1) hF (gAt_g27 hF hA) hW.1 (j := j) (by omega) (by omega) (hW.2.2 j (by omega)).1) (gFsh hF) (gFlt hF) (by decide) rfl rfl rfl (Nat.le_of_ble_eq_true rfl) (by show _ ≤ d; omega) ⟨Nat.le_refl _, Nat.le_refl _⟩ (fun e22 μ' hc => ?_)
    obtain ⟨rfl, rfl⟩ := hc
    refine gg_toI (b := 3) (by rw [hk]; rfl) ?_
    refine gg_icmp_ge_f (tgt := 95) dX8_askParts_16 (by decide) (by decide) (by decide) ?_
    refine gg_aload_n dX8_askParts_19 5 rfl ?_
    refine gg_iload_n dX8_askParts_20 6 rfl ?_
    refine gg_iload dX8_askParts_21 0 rfl ?_
    refine gg_callVi (own := RX8) (yt := gm_X1_part) rfl gl_RX8_44 gk_X1_part gr_X1_part dX8_askParts_23 (c_X1_part1 (d := d - 1) hF (gAt_g27 hF hA) hW.1 (j := j) (hc1 (by rw [hk]; decide)) hj (by omega)) (gFsh hF) (gFlt hF) (by decide) rfl rfl rfl (Nat.le_of_ble_eq_true rfl) (by show _ ≤ d; omega) ⟨Nat.le_refl _, Nat.le_refl _⟩ (fun e23 μ' hc => ?_)
    obtain ⟨rfl, rfl⟩ := hc
    refine gg_istore (ls' := [(5, .int (iv (gPt Z j 1 : Int))), (4, .int (iv 1)), (6, .int (iv 0)), (3, .int (iv 6)), (0, .ref (gad (gSS ad) 25)), (1, .ref (gad (gSS ad) a)), (2, .int (iv (j : Int)))]) dX8_askParts_26 (by decide) rfl ?_
    refine gg_iload_n dX8_askParts_28 3 rfl ?_
    refine gg_bipush dX8_askParts_29 (by decide) ?_
    refine gg_icmp_ne_f (tgt := 65) dX8_askParts_31 (by decide) (by decide) (by decide) ?_
    refine gg_iload dX8_askParts_34 1 rfl ?_
    refine gg_if_le_f (tgt := 65) dX8_askParts_36 (by decide) (by decide) (by decide) ?_
    refine gg_iload dX8_askParts_39 1 rfl ?_
    refine gg_aload_n dX8_askParts_41 4 rfl ?_
    refine gg_iload_n dX8_askParts_42 6 rfl ?_
    refine gg_iconst dX8_askParts_43 ?_
    refine gg_iadd dX8_askParts_44 ?_
    refine gg_callVl (own := RX8) (yt := gm_X8_worthAt) rfl gl_RX8_29 gk_X8_worthAt gr_X8_worthAt dX8_askParts_45 (c_X8_worthAt (d := d - 1) (k := j + 1) (by omega)) sh_25 pl_25 (by decide) rfl rfl rfl (Nat.le_of_ble_eq_true rfl) (by show _ ≤ d; omega) ⟨Nat.le_refl _, Nat.le_refl _⟩ (fun e24 μ' hc => ?_)
    obtain ⟨rfl, rfl⟩ := hc
    refine gg_toL (b := J 26 (j + 1)) (by rw [if_pos (by have := hc1 (by rw [hk]; decide); omega)]) ?_
    refine gg_lconstv (x := 0) dX8_askParts_48 rfl ?_
    refine gg_lcmp_eq (tgt := 57) dX8_askParts_49 dX8_askParts_50 (by decide) (fun hz => ?_) (fun hz => ?_)
    · refine gg_iconst dX8_askParts_57 ?_
      refine gg_icmp_eq_f (tgt := 65) dX8_askParts_58 (by decide) (by decide) (by decide) ?_
      refine gg_iconst dX8_askParts_61 ?_
      refine gg_goto (tgt := 66) dX8_askParts_62 (by decide) ?_
      refine gg_istore (ls' := [(6, .int (iv 1)), (5, .int (iv (gPt Z j 1 : Int))), (4, .int (iv 1)), (3, .int (iv 6)), (0, .ref (gad (gSS ad) 25)), (1, .ref (gad (gSS ad) a)), (2, .int (iv (j : Int)))]) dX8_askParts_66 (by decide) rfl ?_
      refine gg_iload dX8_askParts_68 1 rfl ?_
      refine gg_sipush dX8_askParts_70 (by decide) ?_
      refine gg_icmp_ge_f (tgt := 89) dX8_askParts_73 (by decide) (by have := hg1 (by rw [hk]; decide); omega) (by have := hg1 (by rw [hk]; decide); omega) ?_
      refine gg_iload dX8_askParts_76 0 rfl ?_
      refine gg_if_ne_t (tgt := 89) dX8_askParts_78 (by decide) (by decide) (by decide) ?_
      refine gg_iincv (ls' := [(4, .int (iv 2)), (6, .int (iv 1)), (5, .int (iv (gPt Z j 1 : Int))), (3, .int (iv 6)), (0, .ref (gad (gSS ad) 25)), (1, .ref (gad (gSS ad) a)), (2, .int (iv (j : Int)))]) dX8_askParts_89 2 rfl rfl (by decide) rfl ?_
      refine gg_goto (tgt := 9) dX8_askParts_92 (by decide) ?_
      refine gg_iload dX8_askParts_9 0 rfl ?_
      refine gg_aload_n dX8_askParts_11 5 rfl ?_
      refine gg_iload_n dX8_askParts_12 6 rfl ?_
      refine gg_callVi (own := RX8) (yt := gm_X1_parts) rfl gl_RX8_63 gk_X1_parts gr_X1_parts dX8_askParts_13 (c_X1_parts (d := d - 1) hF (gAt_g27 hF hA) hW.1 (j := j) (by omega) (by omega) (hW.2.2 j (by omega)).1) (gFsh hF) (gFlt hF) (by decide) rfl rfl rfl (Nat.le_of_ble_eq_true rfl) (by show _ ≤ d; omega) ⟨Nat.le_refl _, Nat.le_refl _⟩ (fun e25 μ' hc => ?_)
      obtain ⟨rfl, rfl⟩ := hc
      refine gg_toI (b := 3) (by rw [hk]; rfl) ?_
      refine gg_icmp_ge_f (tgt := 95) dX8_askParts_16 (by decide) (by decide) (by decide) ?_
      refine gg_aload_n dX8_askParts_19 5 rfl ?_
      refine gg_iload_n dX8_askParts_20 6 rfl ?_
      refine gg_iload dX8_askParts_21 0 rfl ?_
      refine gg_callVi (own := RX8) (yt := gm_X1_part) rfl gl_RX8_44 gk_X1_part gr_X1_part dX8_askParts_23 (c_X1_part2 (d := d - 1) hF (gAt_g27 hF hA) hW.1 (j := j) (hc1 (by rw [hk]; decide)) (hc2 (by rw [hk]; decide)) hj (by omega)) (gFsh hF) (gFlt hF) (by decide) rfl rfl rfl (Nat.le_of_ble_eq_true rfl) (by show _ ≤ d; omega) ⟨Nat.le_refl _, Nat.le_refl _⟩ (fun e26 μ' hc => ?_)
      obtain ⟨rfl, rfl⟩ := hc
      refine gg_istore (ls' := [(5, .int (iv (gPt Z j 2 : Int))), (4, .int (iv 2)), (6, .int (iv 1)), (3, .int (iv 6)), (0, .ref (gad (gSS ad) 25)), (1, .ref (gad (gSS ad) a)), (2, .int (iv (j : Int)))]) dX8_askParts_26 (by decide) rfl ?_
      refine gg_iload_n dX8_askParts_28 3 rfl ?_
      refine gg_bipush dX8_askParts_29 (by decide) ?_
      refine gg_icmp_ne_f (tgt := 65) dX8_askParts_31 (by decide) (by decide) (by decide) ?_
      refine gg_iload dX8_askParts_34 1 rfl ?_
      refine gg_if_le_f (tgt := 65) dX8_askParts_36 (by decide) (by decide) (by decide) ?_
      refine gg_iload dX8_askParts_39 1 rfl ?_
      refine gg_aload_n dX8_askParts_41 4 rfl ?_
      refine gg_iload_n dX8_askParts_42 6 rfl ?_
      refine gg_iconst dX8_askParts_43 ?_
      refine gg_iadd dX8_askParts_44 ?_
      refine gg_callVl (own := RX8) (yt := gm_X8_worthAt) rfl gl_RX8_29 gk_X8_worthAt gr_X8_worthAt dX8_askParts_45 (c_X8_worthAt (d := d - 1) (k := j + 1) (by omega)) sh_25 pl_25 (by decide) rfl rfl rfl (Nat.le_of_ble_eq_true rfl) (by show _ ≤ d; omega) ⟨Nat.le_refl _, Nat.le_refl _⟩ (fun e27 μ' hc => ?_)
      obtain ⟨rfl, rfl⟩ := hc
      refine gg_toL (b := J 26 (j + 1)) (by rw [if_pos (by have := hc1 (by rw [hk]; decide); omega)]) ?_
      refine gg_lconstv (x := 0) dX8_askParts_48 rfl ?_
      refine gg_lcmp_eq (tgt := 57) dX8_askParts_49 dX8_askParts_50 (by decide) (fun hz => ?_) (fun hz => ?_)
      · refine gg_iconst dX8_askParts_57 ?_
        refine gg_icmp_eq_t (tgt := 65) dX8_askParts_58 (by decide) (by decide) (by decide) ?_
        refine gg_iconst dX8_askParts_65 ?_
        refine gg_istore (ls' := [(6, .int (iv 0)), (5, .int (iv (gPt Z j 2 : Int))), (4, .int (iv 2)), (3, .int (iv 6)), (0, .ref (gad (gSS ad) 25)), (1, .ref (gad (gSS ad) a)), (2, .int (iv (j : Int)))]) dX8_askParts_66 (by decide) rfl ?_
        refine gg_iload dX8_askParts_68 1 rfl ?_
        refine gg_sipush dX8_askParts_70 (by decide) ?_
        refine gg_icmp_ge_f (tgt := 89) dX8_askParts_73 (by decide) (by have := hg2 (by rw [hk]; decide); omega) (by have := hg2 (by rw [hk]; decide); omega) ?_
        refine gg_iload dX8_askParts_76 0 rfl ?_
        refine gg_if_ne_f (tgt := 89) dX8_askParts_78 (by decide) (by decide) (by decide) ?_
        refine gg_aload_n dX8_askParts_81 4 rfl ?_
        refine gg_getR (k' := 27) rfl gf_RX8_15 dX8_askParts_82 sh_25 pl_25 (by decide) (by decide) rr_25_1 ?_
        refine gg_iload dX8_askParts_85 1 rfl ?_
        refine gg_iconst dX8_askParts_87 ?_
        refine gg_zastj (gPt Z j 2) dX8_askParts_88 sh_27 pl_27 (by decide) rfl (by have := hg2 (by rw [hk]; decide); omega) (Or.inr rfl) ?_
        refine gg_iincv (ls' := [(4, .int (iv 3)), (6, .int (iv 0)), (5, .int (iv (gPt Z j 2 : Int))), (3, .int (iv 6)), (0, .ref (gad (gSS ad) 25)), (1, .ref (gad (gSS ad) a)), (2, .int (iv (j : Int)))]) dX8_askParts_89 2 rfl rfl (by decide) rfl ?_
        refine gg_goto (tgt := 9) dX8_askParts_92 (by decide) ?_
        refine gg_iload dX8_askParts_9 0 rfl ?_
        refine gg_aload_n dX8_askParts_11 5 rfl ?_
        refine gg_iload_n dX8_askParts_12 6 rfl ?_
        refine gg_callVi (own := RX8) (yt := gm_X1_parts) rfl gl_RX8_63 gk_X1_parts gr_X1_parts dX8_askParts_13 (c_X1_parts (d := d - 1) hF (gAt_g27 hF (gAt_g27 hF hA)) hW.1 (j := j) (by omega) (by omega) (hW.2.2 j (by omega)).1) (gFsh hF) (gFlt hF) (by decide) rfl rfl rfl (Nat.le_of_ble_eq_true rfl) (by show _ ≤ d; omega) ⟨Nat.le_refl _, Nat.le_refl _⟩ (fun e28 μ' hc => ?_)
        obtain ⟨rfl, rfl⟩ := hc
        refine gg_toI (b := 3) (by rw [hk]; rfl) ?_
        refine gg_icmp_ge_t (tgt := 95) dX8_askParts_16 (by decide) (by decide) (by decide) ?_
        refine gg_vretv dX8_askParts_95 rfl ⟨rfl, rfl⟩ ?_
        refine ⟨_, rfl, fun p hp => ?_, fun q => ⟨fun h => ?_, fun h => ?_⟩⟩
        · first | rfl | (funext b; simp [gu, hp])
        · simp only [gCh, hk, gPar, gPt] at h
          try simp only [gu, gPt]
          repeat' split
          all_goals first | rfl | (exfalso; simp_all; done) | (exfalso; simp_all; omega)
        · simp only [gCh, hk, gPar, gPt] at h
          try simp only [gu, gPt]
          repeat' split
          all_goals first | rfl | (exfalso; simp_all; done) | (exfalso; simp_all; omega)
      · refine gg_iconst dX8_askParts_53 ?_
        refine gg_goto (tgt := 58) dX8_askParts_54 (by decide) ?_
        refine gg_icmp_eq_f (tgt := 65) dX8_askParts_58 (by decide) (by decide) (by decide) ?_
        refine gg_iconst dX8_askParts_61 ?_
        refine gg_goto (tgt := 66) dX8_askParts_62 (by decide) ?_
        refine gg_istore (ls' := [(6, .int (iv 1)), (5, .int (iv (gPt Z j 2 : Int))), (4, .int (iv 2)), (3, .int (iv 6)), (0, .ref (gad (gSS ad) 25)), (1, .ref (gad (gSS ad) a)), (2, .int (iv (j : Int)))]) dX8_askParts_66 (by decide) rfl ?_
        refine gg_iload dX8_askParts_68 1 rfl ?_
        refine gg_sipush dX8_askParts_70 (by decide) ?_
        refine gg_icmp_ge_f (tgt := 89) dX8_askParts_73 (by decide) (by have := hg2 (by rw [hk]; decide); omega) (by have := hg2 (by rw [hk]; decide); omega) ?_
        refine gg_iload dX8_askParts_76 0 rfl ?_
        refine gg_if_ne_t (tgt := 89) dX8_askParts_78 (by decide) (by decide) (by decide) ?_
        refine gg_iincv (ls' := [(4, .int (iv 3)), (6, .int (iv 1)), (5, .int (iv (gPt Z j 2 : Int))), (3, .int (iv 6)), (0, .ref (gad (gSS ad) 25)), (1, .ref (gad (gSS ad) a)), (2, .int (iv (j : Int)))]) dX8_askParts_89 2 rfl rfl (by decide) rfl ?_
        refine gg_goto (tgt := 9) dX8_askParts_92 (by decide) ?_
        refine gg_iload dX8_askParts_9 0 rfl ?_
        refine gg_aload_n dX8_askParts_11 5 rfl ?_
        refine gg_iload_n dX8_askParts_12 6 rfl ?_
        refine gg_callVi (own := RX8) (yt := gm_X1_parts) rfl gl_RX8_63 gk_X1_parts gr_X1_parts dX8_askParts_13 (c_X1_parts (d := d - 1) hF (gAt_g27 hF hA) hW.1 (j := j) (by omega) (by omega) (hW.2.2 j (by omega)).1) (gFsh hF) (gFlt hF) (by decide) rfl rfl rfl (Nat.le_of_ble_eq_true rfl) (by show _ ≤ d; omega) ⟨Nat.le_refl _, Nat.le_refl _⟩ (fun e29 μ' hc => ?_)
        obtain ⟨rfl, rfl⟩ := hc
        refine gg_toI (b := 3) (by rw [hk]; rfl) ?_
        refine gg_icmp_ge_t (tgt := 95) dX8_askParts_16 (by decide) (by decide) (by decide) ?_
        refine gg_vretv dX8_askParts_95 rfl ⟨rfl, rfl⟩ ?_
        refine ⟨_, rfl, fun p hp => ?_, fun q => ⟨fun h => ?_, fun h => ?_⟩⟩
        · first | rfl | (funext b; simp [gu, hp])
        · simp only [gCh, hk, gPar, gPt] at h
          try simp only [gu, gPt]
          repeat' split
          all_goals first | rfl | (exfalso; simp_all; done) | (exfalso; simp_all; omega)
        · simp only [gCh, hk, gPar, gPt] at h
          try simp only [gu, gPt]
          repeat' split
          all_goals first | rfl | (exfalso; simp_all; done) | (exfalso; simp_all; omega)
    · refine gg_iconst dX8_askParts_53 ?_
      refine gg_goto (tgt := 58) dX8_askParts_54 (by decide) ?_
      refine gg_icmp_eq_t (tgt := 65) dX8_askParts_58 (by decide) (by decide) (by decide) ?_
      refine gg_iconst dX8_askParts_65 ?_
      refine gg_istore (ls' := [(6, .int (iv 0)), (5, .int (iv (gPt Z j 1 : Int))), (4, .int (iv 1)), (3, .int (iv 6)), (0, .ref (gad (gSS ad) 25)), (1, .ref (gad (gSS ad) a)), (2, .int (iv (j : Int)))]) dX8_askParts_66 (by decide) rfl ?_
      refine gg_iload dX8_askParts_68 1 rfl ?_
      refine gg_sipush dX8_askParts_70 (by decide) ?_
      refine gg_icmp_ge_f (tgt := 89) dX8_askParts_73 (by decide) (by have := hg1 (by rw [hk]; decide); omega) (by have := hg1 (by rw [hk]; decide); omega) ?_
      refine gg_iload dX8_askParts_76 0 rfl ?_
      refine gg_if_ne_f (tgt := 89) dX8_askParts_78 (by decide) (by decide) (by decide) ?_
      refine gg_aload_n dX8_askParts_81 4 rfl ?_
      refine gg_getR (k' := 27) rfl gf_RX8_15 dX8_askParts_82 sh_25 pl_25 (by decide) (by decide) rr_25_1 ?_
      refine gg_iload dX8_askParts_85 1 rfl ?_
      refine gg_iconst dX8_askParts_87 ?_
      refine gg_zastj (gPt Z j 1) dX8_askParts_88 sh_27 pl_27 (by decide) rfl (by have := hg1 (by rw [hk]; decide); omega) (Or.inr rfl) ?_
      refine gg_iincv (ls' := [(4, .int (iv 2)), (6, .int (iv 0)), (5, .int (iv (gPt Z j 1 : Int))), (3, .int (iv 6)), (0, .ref (gad (gSS ad) 25)), (1, .ref (gad (gSS ad) a)), (2, .int (iv (j : Int)))]) dX8_askParts_89 2 rfl rfl (by decide) rfl ?_
      refine gg_goto (tgt := 9) dX8_askParts_92 (by decide) ?_
      refine gg_iload dX8_askParts_9 0 rfl ?_
      refine gg_aload_n dX8_askParts_11 5 rfl ?_
      refine gg_iload_n dX8_askParts_12 6 rfl ?_
      refine gg_callVi (own := RX8) (yt := gm_X1_parts) rfl gl_RX8_63 gk_X1_parts gr_X1_parts dX8_askParts_13 (c_X1_parts (d := d - 1) hF (gAt_g27 hF (gAt_g27 hF hA)) hW.1 (j := j) (by omega) (by omega) (hW.2.2 j (by omega)).1) (gFsh hF) (gFlt hF) (by decide) rfl rfl rfl (Nat.le_of_ble_eq_true rfl) (by show _ ≤ d; omega) ⟨Nat.le_refl _, Nat.le_refl _⟩ (fun e30 μ' hc => ?_)
      obtain ⟨rfl, rfl⟩ := hc
      refine gg_toI (b := 3) (by rw [hk]; rfl) ?_
      refine gg_icmp_ge_f (tgt := 95) dX8_askParts_16 (by decide) (by decide) (by decide) ?_
      refine gg_aload_n dX8_askParts_19 5 rfl ?_
      refine gg_iload_n dX8_askParts_20 6 rfl ?_
      refine gg_iload dX8_askParts_21 0 rfl ?_
      refine gg_callVi (own := RX8) (yt := gm_X1_part) rfl gl_RX8_44 gk_X1_part gr_X1_part dX8_askParts_23 (c_X1_part2 (d := d - 1) hF (gAt_g27 hF (gAt_g27 hF hA)) hW.1 (j := j) (hc1 (by rw [hk]; decide)) (hc2 (by rw [hk]; decide)) hj (by omega)) (gFsh hF) (gFlt hF) (by decide) rfl rfl rfl (Nat.le_of_ble_eq_true rfl) (by show _ ≤ d; omega) ⟨Nat.le_refl _, Nat.le_refl _⟩ (fun e31 μ' hc => ?_)
      obtain ⟨rfl, rfl⟩ := hc
      refine gg_istore (ls' := [(5, .int (iv (gPt Z j 2 : Int))), (4, .int (iv 2)), (6, .int (iv 0)), (3, .int (iv 6)), (0, .ref (gad (gSS ad) 25)), (1, .ref (gad (gSS ad) a)), (2, .int (iv (j : Int)))]) dX8_askParts_26 (by decide) rfl ?_
      refine gg_iload_n dX8_askParts_28 3 rfl ?_
      refine gg_bipush dX8_askParts_29 (by decide) ?_
      refine gg_icmp_ne_f (tgt := 65) dX8_askParts_31 (by decide) (by decide) (by decide) ?_
      refine gg_iload dX8_askParts_34 1 rfl ?_
      refine gg_if_le_f (tgt := 65) dX8_askParts_36 (by decide) (by decide) (by decide) ?_
      refine gg_iload dX8_askParts_39 1 rfl ?_
      refine gg_aload_n dX8_askParts_41 4 rfl ?_
      refine gg_iload_n dX8_askParts_42 6 rfl ?_
      refine gg_iconst dX8_askParts_43 ?_
      refine gg_iadd dX8_askParts_44 ?_
      refine gg_callVl (own := RX8) (yt := gm_X8_worthAt) rfl gl_RX8_29 gk_X8_worthAt gr_X8_worthAt dX8_askParts_45 (c_X8_worthAt (d := d - 1) (k := j + 1) (by omega)) sh_25 pl_25 (by decide) rfl rfl rfl (Nat.le_of_ble_eq_true rfl) (by show _ ≤ d; omega) ⟨Nat.le_refl _, Nat.le_refl _⟩ (fun e32 μ' hc => ?_)
      obtain ⟨rfl, rfl⟩ := hc
      refine gg_toL (b := J 26 (j + 1)) (by rw [if_pos (by have := hc1 (by rw [hk]; decide); omega)]) ?_
      refine gg_lconstv (x := 0) dX8_askParts_48 rfl ?_
      refine gg_lcmp_eq (tgt := 57) dX8_askParts_49 dX8_askParts_50 (by decide) (fun hz => ?_) (fun hz => ?_)
      · refine gg_iconst dX8_askParts_57 ?_
        refine gg_icmp_eq_t (tgt := 65) dX8_askParts_58 (by decide) (by decide) (by decide) ?_
        refine gg_iconst dX8_askParts_65 ?_
        refine gg_istore (ls' := [(6, .int (iv 0)), (5, .int (iv (gPt Z j 2 : Int))), (4, .int (iv 2)), (3, .int (iv 6)), (0, .ref (gad (gSS ad) 25)), (1, .ref (gad (gSS ad) a)), (2, .int (iv (j : Int)))]) dX8_askParts_66 (by decide) rfl ?_
        refine gg_iload dX8_askParts_68 1 rfl ?_
        refine gg_sipush dX8_askParts_70 (by decide) ?_
        refine gg_icmp_ge_f (tgt := 89) dX8_askParts_73 (by decide) (by have := hg2 (by rw [hk]; decide); omega) (by have := hg2 (by rw [hk]; decide); omega) ?_
        refine gg_iload dX8_askParts_76 0 rfl ?_
        refine gg_if_ne_f (tgt := 89) dX8_askParts_78 (by decide) (by decide) (by decide) ?_
        refine gg_aload_n dX8_askParts_81 4 rfl ?_
        refine gg_getR (k' := 27) rfl gf_RX8_15 dX8_askParts_82 sh_25 pl_25 (by decide) (by decide) rr_25_1 ?_
        refine gg_iload dX8_askParts_85 1 rfl ?_
        refine gg_iconst dX8_askParts_87 ?_
        refine gg_zastj (gPt Z j 2) dX8_askParts_88 sh_27 pl_27 (by decide) rfl (by have := hg2 (by rw [hk]; decide); omega) (Or.inr rfl) ?_
        refine gg_iincv (ls' := [(4, .int (iv 3)), (6, .int (iv 0)), (5, .int (iv (gPt Z j 2 : Int))), (3, .int (iv 6)), (0, .ref (gad (gSS ad) 25)), (1, .ref (gad (gSS ad) a)), (2, .int (iv (j : Int)))]) dX8_askParts_89 2 rfl rfl (by decide) rfl ?_
        refine gg_goto (tgt := 9) dX8_askParts_92 (by decide) ?_
        refine gg_iload dX8_askParts_9 0 rfl ?_
        refine gg_aload_n dX8_askParts_11 5 rfl ?_
        refine gg_iload_n dX8_askParts_12 6 rfl ?_
        refine gg_callVi (own := RX8) (yt := gm_X1_parts) rfl gl_RX8_63 gk_X1_parts gr_X1_parts dX8_askParts_13 (c_X1_parts (d := d - 1) hF (gAt_g27 hF (gAt_g27 hF (gAt_g27 hF hA))) hW.1 (j := j) (by omega) (by omega) (hW.2.2 j (by omega)).1) (gFsh hF) (gFlt hF) (by decide) rfl rfl rfl (Nat.le_of_ble_eq_true rfl) (by show _ ≤ d; omega) ⟨Nat.le_refl _, Nat.le_refl _⟩ (fun e33 μ' hc => ?_)
        obtain ⟨rfl, rfl⟩ := hc
        refine gg_toI (b := 3) (by rw [hk]; rfl) ?_
        refine gg_icmp_ge_t (tgt := 95) dX8_askParts_16 (by decide) (by decide) (by decide) ?_
        refine gg_vretv dX8_askParts_95 rfl ⟨rfl, rfl⟩ ?_
        refine ⟨_, rfl, fun p hp => ?_, fun q => ⟨fun h => ?_, fun h => ?_⟩⟩
        · first | rfl | (funext b; simp [gu, hp])
        · simp only [gCh, hk, gPar, gPt] at h
          try simp only [gu, gPt]
          repeat' split
          all_goals first | rfl | (exfalso; simp_all; done) | (exfalso; simp_all; omega)
        · simp only [gCh, hk, gPar, gPt] at h
          try simp only [gu, gPt]
          repeat' split
          all_goals first | rfl | (exfalso; simp_all; done) | (exfalso; simp_all; omega)
      · refine gg_iconst dX8_askParts_53 ?_
        refine gg_goto (tgt := 58) dX8_askParts_54 (by decide) ?_
        refine gg_icmp_eq_f (tgt := 65) dX8_askParts_58 (by decide) (by decide) (by decide) ?_
        refine gg_iconst dX8_askParts_61 ?_
        refine gg_goto (tgt := 66) dX8_askParts_62 (by decide) ?_
        refine gg_istore (ls' := [(6, .int (iv 1)), (5, .int (iv (gPt Z j 2 : Int))), (4, .int (iv 2)), (3, .int (iv 6)), (0, .ref (gad (gSS ad) 25)), (1, .ref (gad (gSS ad) a)), (2, .int (iv (j : Int)))]) dX8_askParts_66 (by decide) rfl ?_
        refine gg_iload dX8_askParts_68 1 rfl ?_
        refine gg_sipush dX8_askParts_70 (by decide) ?_
        refine gg_icmp_ge_f (tgt := 89) dX8_askParts_73 (by decide) (by have := hg2 (by rw [hk]; decide); omega) (by have := hg2 (by rw [hk]; decide); omega) ?_
        refine gg_iload dX8_askParts_76 0 rfl ?_
        refine gg_if_ne_t (tgt := 89) dX8_askParts_78 (by decide) (by decide) (by decide) ?_
        refine gg_iincv (ls' := [(4, .int (iv 3)), (6, .int (iv 1)), (5, .int (iv (gPt Z j 2 : Int))), (3, .int (iv 6)), (0, .ref (gad (gSS ad) 25)), (1, .ref (gad (gSS ad) a)), (2, .int (iv (j : Int)))]) dX8_askParts_89 2 rfl rfl (by decide) rfl ?_
        refine gg_goto (tgt := 9) dX8_askParts_92 (by decide) ?_
        refine gg_iload dX8_askParts_9 0 rfl ?_
        refine gg_aload_n dX8_askParts_11 5 rfl ?_
        refine gg_iload_n dX8_askParts_12 6 rfl ?_
        refine gg_callVi (own := RX8) (yt := gm_X1_parts) rfl gl_RX8_63 gk_X1_parts gr_X1_parts dX8_askParts_13 (c_X1_parts (d := d - 1) hF (gAt_g27 hF (gAt_g27 hF hA)) hW.1 (j := j) (by omega) (by omega) (hW.2.2 j (by omega)).1) (gFsh hF) (gFlt hF) (by decide) rfl rfl rfl (Nat.le_of_ble_eq_true rfl) (by show _ ≤ d; omega) ⟨Nat.le_refl _, Nat.le_refl _⟩ (fun e34 μ' hc => ?_)
        obtain ⟨rfl, rfl⟩ := hc
        refine gg_toI (b := 3) (by rw [hk]; rfl) ?_
        refine gg_icmp_ge_t (tgt := 95) dX8_askParts_16 (by decide) (by decide) (by decide) ?_
        refine gg_vretv dX8_askParts_95 rfl ⟨rfl, rfl⟩ ?_
        refine ⟨_, rfl, fun p hp => ?_, fun q => ⟨fun h => ?_, fun h => ?_⟩⟩
        · first | rfl | (funext b; simp [gu, hp])
        · simp only [gCh, hk, gPar, gPt] at h
          try simp only [gu, gPt]
          repeat' split
          all_goals first | rfl | (exfalso; simp_all; done) | (exfalso; simp_all; omega)
        · simp only [gCh, hk, gPar, gPt] at h
          try simp only [gu, gPt]
          repeat' split
          all_goals first | rfl | (exfalso; simp_all; done) | (exfalso; simp_all; omega)
  · refine gg_toI (b := 7) (by omega) ?_
    refine gg_istore_n (ls' := [(3, .int (iv 7)), (0, .ref (gad (gSS ad) 25)), (1, .ref (gad (gSS ad) a)), (2, .int (iv (j : Int)))]) dX8_askParts_5 rfl (by decide) rfl ?_
    refine gg_iconst dX8_askParts_6 ?_
    refine gg_istore (ls' := [(4, .int (iv 0)), (3, .int (iv 7)), (0, .ref (gad (gSS ad) 25)), (1, .ref (gad (gSS ad) a)), (2, .int (iv (j : Int)))]) dX8_askParts_7 (by decide) rfl ?_
    refine gg_iload dX8_askParts_9 0 rfl ?_
    refine gg_aload_n dX8_askParts_11 3 rfl ?_
    refine gg_iload_n dX8_askParts_12 4 rfl ?_
    refine gg_callVi (own := RX8) (yt := gm_X1_parts) rfl gl_RX8_63 gk_X1_parts gr_X1_parts dX8_askParts_13 (c_X1_parts (d := d - 1) hF hA hW.1 (j := j) (by omega) (by omega) (hW.2.2 j (by omega)).1) (gFsh hF) (gFlt hF) (by decide) rfl rfl rfl (Nat.le_of_ble_eq_true rfl) (by show _ ≤ d; omega) ⟨Nat.le_refl _, Nat.le_refl _⟩ (fun e35 μ' hc => ?_)
    obtain ⟨rfl, rfl⟩ := hc
    refine gg_toI (b := 1) (by rw [hk]; rfl) ?_
    refine gg_icmp_ge_f (tgt := 95) dX8_askParts_16 (by decide) (by decide) (by decide) ?_
    refine gg_aload_n dX8_askParts_19 3 rfl ?_
    refine gg_iload_n dX8_askParts_20 4 rfl ?_
    refine gg_iload dX8_askParts_21 0 rfl ?_
    refine gg_callVi (own := RX8) (yt := gm_X1_part) rfl gl_RX8_44 gk_X1_part gr_X1_part dX8_askParts_23 (c_X1_part0 (d := d - 1) hF hA hW.1 (j := j) hj (by omega)) (gFsh hF) (gFlt hF) (by decide) rfl rfl rfl (Nat.le_of_ble_eq_true rfl) (by show _ ≤ d; omega) ⟨Nat.le_refl _, Nat.le_refl _⟩ (fun e36 μ' hc => ?_)
    obtain ⟨rfl, rfl⟩ := hc
    refine gg_istore (ls' := [(5, .int (iv (gPt Z j 0 : Int))), (4, .int (iv 0)), (3, .int (iv 7)), (0, .ref (gad (gSS ad) 25)), (1, .ref (gad (gSS ad) a)), (2, .int (iv (j : Int)))]) dX8_askParts_26 (by decide) rfl ?_
    refine gg_iload_n dX8_askParts_28 2 rfl ?_
    refine gg_bipush dX8_askParts_29 (by decide) ?_
    refine gg_icmp_ne_t (tgt := 65) dX8_askParts_31 (by decide) (by decide) (by decide) ?_
    refine gg_iconst dX8_askParts_65 ?_
    refine gg_istore (ls' := [(6, .int (iv 0)), (5, .int (iv (gPt Z j 0 : Int))), (4, .int (iv 0)), (3, .int (iv 7)), (0, .ref (gad (gSS ad) 25)), (1, .ref (gad (gSS ad) a)), (2, .int (iv (j : Int)))]) dX8_askParts_66 (by decide) rfl ?_
    refine gg_iload dX8_askParts_68 1 rfl ?_
    refine gg_sipush dX8_askParts_70 (by decide) ?_
    refine gg_icmp_ge_f (tgt := 89) dX8_askParts_73 (by decide) (by have := hg0 (by rw [hk]; decide); omega) (by have := hg0 (by rw [hk]; decide); omega) ?_
    refine gg_iload dX8_askParts_76 0 rfl ?_
    refine gg_if_ne_f (tgt := 89) dX8_askParts_78 (by decide) (by decide) (by decide) ?_
    refine gg_aload_n dX8_askParts_81 4 rfl ?_
    refine gg_getR (k' := 27) rfl gf_RX8_15 dX8_askParts_82 sh_25 pl_25 (by decide) (by decide) rr_25_1 ?_
    refine gg_iload dX8_askParts_85 1 rfl ?_
    refine gg_iconst dX8_askParts_87 ?_
    refine gg_zastj (gPt Z j 0) dX8_askParts_88 sh_27 pl_27 (by decide) rfl (by have := hg0 (by rw [hk]; decide); omega) (Or.inr rfl) ?_
    refine gg_iincv (ls' := [(4, .int (iv 1)), (6, .int (iv 0)), (5, .int (iv (gPt Z j 0 : Int))), (3, .int (iv 7)), (0, .ref (gad (gSS ad) 25)), (1, .ref (gad (gSS ad) a)), (2, .int (iv (j : Int)))]) dX8_askParts_89 2 rfl rfl (by decide) rfl ?_
    refine gg_goto (tgt := 9) dX8_askParts_92 (by decide) ?_
    refine gg_iload dX8_askParts_9 0 rfl ?_
    refine gg_aload_n dX8_askParts_11 5 rfl ?_
    refine gg_iload_n dX8_askParts_12 6 rfl ?_
    refine gg_callVi (own := RX8) (yt := gm_X1_parts) rfl gl_RX8_63 gk_X1_parts gr_X1_parts dX8_askParts_13 (c_X1_parts (d := d - 1) hF (gAt_g27 hF hA) hW.1 (j := j) (by omega) (by omega) (hW.2.2 j (by omega)).1) (gFsh hF) (gFlt hF) (by decide) rfl rfl rfl (Nat.le_of_ble_eq_true rfl) (by show _ ≤ d; omega) ⟨Nat.le_refl _, Nat.le_refl _⟩ (fun e37 μ' hc => ?_)
    obtain ⟨rfl, rfl⟩ := hc
    refine gg_toI (b := 1) (by rw [hk]; rfl) ?_
    refine gg_icmp_ge_t (tgt := 95) dX8_askParts_16 (by decide) (by decide) (by decide) ?_
    refine gg_vretv dX8_askParts_95 rfl ⟨rfl, rfl⟩ ?_
    refine ⟨_, rfl, fun p hp => ?_, fun q => ⟨fun h => ?_, fun h => ?_⟩⟩
    · first | rfl | (funext b; simp [gu, hp])
    · simp only [gCh, hk, gPar, gPt] at h
      try simp only [gu, gPt]
      repeat' split
      all_goals first | rfl | (exfalso; simp_all; done) | (exfalso; simp_all; omega)
    · simp only [gCh, hk, gPar, gPt] at h
      try simp only [gu, gPt]
      repeat' split
      all_goals first | rfl | (exfalso; simp_all; done) | (exfalso; simp_all; omega)

