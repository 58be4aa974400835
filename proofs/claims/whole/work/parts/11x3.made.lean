/-! what a constructor does, a rule each; the places are those of the layout -/
theorem gR_40 : ∀ k j v, gRr k j = some v → j < 40 := by
  intro k j v h
  have h1 : ∀ k : Fin 41, (gRr1.getD k.val []).length ≤ 40 := by decide +kernel
  have h2 : gRr2.length ≤ 40 := by decide +kernel
  have h3 : ∀ q : List (Option Nat), q.length ≤ 40 → q.getD j none = some v → j < 40 := fun q hq e => by
    rcases Nat.lt_or_ge j q.length with z | z
    · omega
    · rw [List.getD_eq_getElem?_getD, List.getElem?_eq_none z] at e
      cases e
  unfold gRr at h
  by_cases c1 : k = 1
  · rw [if_pos c1] at h
    by_cases z : j < 12
    · omega
    · rw [if_neg z] at h
      cases h
  rw [if_neg c1] at h
  by_cases c2 : k = 2
  · rw [if_pos c2] at h
    by_cases z : j < 12
    · omega
    · rw [if_neg z] at h
      cases h
  rw [if_neg c2] at h
  by_cases c3 : k = 5
  · rw [if_pos c3] at h
    by_cases z : j < 4
    · omega
    · rw [if_neg z] at h
      cases h
  rw [if_neg c3] at h
  by_cases c4 : k < 41
  · rw [if_pos c4] at h
    exact h3 _ (h1 ⟨k, c4⟩) h
  rw [if_neg c4] at h
  by_cases c5 : k < 137
  · rw [if_pos c5] at h
    split at h
    · split at h
      · omega
      · cases h
    · cases h
  rw [if_neg c5] at h
  by_cases c6 : k < 145
  · rw [if_pos c6] at h
    split at h
    · split at h
      · omega
      · cases h
    · cases h
  rw [if_neg c6] at h
  by_cases c7 : k = 145
  · rw [if_pos c7] at h
    exact h3 _ h2 h
  rw [if_neg c7] at h
  split at h
  · rename_i hm
    split at h
    · have z : (gSh k).2 ≤ 40 := by
        revert hm
        have h4 : ∀ k, k ∈ [147, 160, 173, 198, 211, 224, 239] → (gSh k).2 ≤ 40 := by decide +kernel
        exact h4 k
      omega
    · cases h
  · cases h
/-- the layout's names, below m -/
def gRc (m : Nat) : Nat → Nat → Option Nat := fun k j => if k < m then gRr k j else none
/-- what is named is right where all below 40 are -/
theorem gR_all {n m : Nat} {rf : Nat → Nat → Option Nat} {I : Nat → Nat → Int} {J : Nat → Nat → Int64} (hg : gNew n rf I J) (h : ∀ k, k < m → ∀ j, j < 40 → rf k j = gRr k j) : ∀ k, k < m → rf k = gRr k := fun k hk => by
  funext j
  by_cases hj : j < 40
  · exact h k hk j hj
  · cases c1 : rf k j with
    | some v => exact absurd (hg.1 k j v c1).2 hj
    | none =>
      cases c2 : gRr k j with
      | some v => exact absurd (gR_40 k j v c2) hj
      | none => rfl
theorem gz_i {cA : ClassId} {len : Nat} : vp_cell cA (len, .inl (fun _ => (0 : Int32))) = arrV cA len (fun _ => defaultValue .int) := rfl
theorem gz_z {cA : ClassId} {len : Nat} : vp_cell cA (len, .inl (fun _ => (0 : Int32))) = arrV cA len (fun _ => defaultValue .boolean) := rfl
theorem gz_b {cA : ClassId} {len : Nat} : vp_cell cA (len, .inl (fun _ => (0 : Int32))) = arrV cA len (fun _ => defaultValue .byte) := rfl
theorem gz_j {cA : ClassId} {len : Nat} : vp_cell cA (len, .inr (.inl (fun _ => (0 : Int64)))) = arrV cA len (fun _ => defaultValue .long) := rfl
section GMD
variable {l : Launch} {Γ : gC} {mt : gY} {d mc ms u v u' v' pc : Nat} {ls : List (Nat × Value)} {st : List Value} {n n' len N M k j w idx : Nat} {rf : Nat → Nat → Option Nat} {ad : Nat → Nat} {I : Nat → Nat → Int} {J : Nat → Nat → Int64} {Q : Option Value → gM → Prop} {own : String} {x y : Int}
theorem gg_nI (hs : gSh n = (100, len)) (hx : x = (len : Int)) (e : n + 1 = n' ∧ u + 1 = u' ∧ v + len = v') (dd : decode mt.2.1 pc = .ok (.newarray .int, 2)) (hg : gNew n rf I J) (hb : 0 < n ∧ len ≤ 10000 ∧ u' ≤ mc ∧ v' ≤ ms)
    (kk : ∀ ad' : Nat → Nat, (∀ k, k < n → ad' k = ad k) → gNew n' rf I J → gG l Γ mt (d, mc, ms, u', v') (pc + 2) ls (.ref (ad' n) :: st) ((n', gSh, rf, ad'), I, J) Q) : gG l Γ mt (d, mc, ms, u, v) pc ls (.int (iv x) :: st) ((n, gSh, rf, ad), I, J) Q := by
  obtain ⟨rfl, rfl, rfl⟩ := e
  subst hx
  refine gg_newarr (B := (d, mc, ms, u, v)) (t := 0) (ty := .int) (z := .inl (fun _ => 0)) rfl rfl ga_int (fun _ => gz_i) (fun ad' => ?_) dd hb.1 hg (by omega) (by show len * 4 ≤ _; omega) hb.2.2.1 hb.2.2.2 (fun ad' h => kk ad' h (gNew_up hg (by omega)))
  rw [gE_int (S := (n + 1, gSh, rf, ad')) (t := 0) hs (Or.inl rfl)]
  congr 4
  funext b
  rw [(hg.2 n (Nat.le_refl _) b).2.1]
  rfl
theorem gg_nZ (hs : gSh n = (102, len)) (hx : x = (len : Int)) (e : n + 1 = n' ∧ u + 1 = u' ∧ v + len = v') (dd : decode mt.2.1 pc = .ok (.newarray .boolean, 2)) (hg : gNew n rf I J) (hb : 0 < n ∧ len ≤ 10000 ∧ u' ≤ mc ∧ v' ≤ ms)
    (kk : ∀ ad' : Nat → Nat, (∀ k, k < n → ad' k = ad k) → gNew n' rf I J → gG l Γ mt (d, mc, ms, u', v') (pc + 2) ls (.ref (ad' n) :: st) ((n', gSh, rf, ad'), I, J) Q) : gG l Γ mt (d, mc, ms, u, v) pc ls (.int (iv x) :: st) ((n, gSh, rf, ad), I, J) Q := by
  obtain ⟨rfl, rfl, rfl⟩ := e
  subst hx
  refine gg_newarr (B := (d, mc, ms, u, v)) (t := 2) (ty := .boolean) (z := .inl (fun _ => 0)) rfl rfl ga_boolean (fun _ => gz_z) (fun ad' => ?_) dd hb.1 hg (by omega) (by show len * 1 ≤ _; omega) hb.2.2.1 hb.2.2.2 (fun ad' h => kk ad' h (gNew_up hg (by omega)))
  rw [gE_int (S := (n + 1, gSh, rf, ad')) (t := 2) hs (Or.inr (Or.inl rfl))]
  congr 4
  funext b
  rw [(hg.2 n (Nat.le_refl _) b).2.1]
  rfl
theorem gg_nB (hs : gSh n = (103, len)) (hx : x = (len : Int)) (e : n + 1 = n' ∧ u + 1 = u' ∧ v + len = v') (dd : decode mt.2.1 pc = .ok (.newarray .byte, 2)) (hg : gNew n rf I J) (hb : 0 < n ∧ len ≤ 10000 ∧ u' ≤ mc ∧ v' ≤ ms)
    (kk : ∀ ad' : Nat → Nat, (∀ k, k < n → ad' k = ad k) → gNew n' rf I J → gG l Γ mt (d, mc, ms, u', v') (pc + 2) ls (.ref (ad' n) :: st) ((n', gSh, rf, ad'), I, J) Q) : gG l Γ mt (d, mc, ms, u, v) pc ls (.int (iv x) :: st) ((n, gSh, rf, ad), I, J) Q := by
  obtain ⟨rfl, rfl, rfl⟩ := e
  subst hx
  refine gg_newarr (B := (d, mc, ms, u, v)) (t := 3) (ty := .byte) (z := .inl (fun _ => 0)) rfl rfl ga_byte (fun _ => gz_b) (fun ad' => ?_) dd hb.1 hg (by omega) (by show len * 1 ≤ _; omega) hb.2.2.1 hb.2.2.2 (fun ad' h => kk ad' h (gNew_up hg (by omega)))
  rw [gE_int (S := (n + 1, gSh, rf, ad')) (t := 3) hs (Or.inr (Or.inr rfl))]
  congr 4
  funext b
  rw [(hg.2 n (Nat.le_refl _) b).2.1]
  rfl
theorem gg_nJ (hs : gSh n = (101, len)) (hx : x = (len : Int)) (e : n + 1 = n' ∧ u + 1 = u' ∧ v + len = v') (dd : decode mt.2.1 pc = .ok (.newarray .long, 2)) (hg : gNew n rf I J) (hb : 0 < n ∧ len ≤ 10000 ∧ u' ≤ mc ∧ v' ≤ ms)
    (kk : ∀ ad' : Nat → Nat, (∀ k, k < n → ad' k = ad k) → gNew n' rf I J → gG l Γ mt (d, mc, ms, u', v') (pc + 2) ls (.ref (ad' n) :: st) ((n', gSh, rf, ad'), I, J) Q) : gG l Γ mt (d, mc, ms, u, v) pc ls (.int (iv x) :: st) ((n, gSh, rf, ad), I, J) Q := by
  obtain ⟨rfl, rfl, rfl⟩ := e
  subst hx
  refine gg_newarr (B := (d, mc, ms, u, v)) (t := 1) (ty := .long) (z := .inr (.inl (fun _ => 0))) rfl rfl ga_long (fun _ => gz_j) (fun ad' => ?_) dd hb.1 hg (by omega) (by show len * 8 ≤ _; omega) hb.2.2.1 hb.2.2.2 (fun ad' h => kk ad' h (gNew_up hg (by omega)))
  rw [gE_long (S := (n + 1, gSh, rf, ad')) hs]
  congr 5
  funext b
  exact (hg.2 n (Nat.le_refl _) b).2.2
theorem gg_nF (ho : mt.1.cls = RX9) (hs : gSh n = (104, len)) (hx : x = (len : Int)) (e : n + 1 = n' ∧ u + 1 = u' ∧ v + len = v') (dd : decode mt.2.1 pc = .ok (.anewarray 9, 3)) (hg : gNew n rf I J) (hb : 0 < n ∧ len ≤ 10000 ∧ u' ≤ mc ∧ v' ≤ ms)
    (kk : ∀ ad' : Nat → Nat, (∀ k, k < n → ad' k = ad k) → gNew n' rf I J → gG l Γ mt (d, mc, ms, u', v') (pc + 3) ls (.ref (ad' n) :: st) ((n', gSh, rf, ad'), I, J) Q) : gG l Γ mt (d, mc, ms, u, v) pc ls (.int (iv x) :: st) ((n, gSh, rf, ad), I, J) Q := by
  obtain ⟨rfl, rfl, rfl⟩ := e
  subst hx
  refine gg_newarrR (B := (d, mc, ms, u, v)) (t := 4) ho gc_RX9_9 (fun _ z => z.1) rfl (fun ad' => ?_) dd hb.1 hg (by omega) hb.2.2.1 hb.2.2.2 (fun ad' h => kk ad' h (gNew_up hg (by omega)))
  rw [gE_refs (S := (n + 1, gSh, rf, ad')) (t := 4) hs (by omega)]
  congr 7
  funext b
  show (rf n b).map _ = none
  rw [(hg.2 n (Nat.le_refl _) b).1]
  rfl
theorem gg_nS (ho : mt.1.cls = RX9) (hs : gSh n = (105, len)) (hx : x = (len : Int)) (e : n + 1 = n' ∧ u + 1 = u' ∧ v + len = v') (dd : decode mt.2.1 pc = .ok (.anewarray 25, 3)) (hg : gNew n rf I J) (hb : 0 < n ∧ len ≤ 10000 ∧ u' ≤ mc ∧ v' ≤ ms)
    (kk : ∀ ad' : Nat → Nat, (∀ k, k < n → ad' k = ad k) → gNew n' rf I J → gG l Γ mt (d, mc, ms, u', v') (pc + 3) ls (.ref (ad' n) :: st) ((n', gSh, rf, ad'), I, J) Q) : gG l Γ mt (d, mc, ms, u, v) pc ls (.int (iv x) :: st) ((n, gSh, rf, ad), I, J) Q := by
  obtain ⟨rfl, rfl, rfl⟩ := e
  subst hx
  refine gg_newarrR (B := (d, mc, ms, u, v)) (t := 5) ho gc_RX9_25 (fun _ z => z.2.1) rfl (fun ad' => ?_) dd hb.1 hg (by omega) hb.2.2.1 hb.2.2.2 (fun ad' h => kk ad' h (gNew_up hg (by omega)))
  rw [gE_refs (S := (n + 1, gSh, rf, ad')) (t := 5) hs (by omega)]
  congr 7
  funext b
  show (rf n b).map _ = none
  rw [(hg.2 n (Nat.le_refl _) b).1]
  rfl
/-- new int[N][M], new long[N][M] -/
theorem gg_nII (ho : mt.1.cls = RX10) (hs : gSh n = (106, N)) (hsr : ∀ j, j < N → gSh (n + 1 + j) = (100, M)) (hx : x = (N : Int) ∧ y = (M : Int)) (e : n + 1 + N = n' ∧ u + 1 + N = u' ∧ v + N + N * M = v') (dd : decode mt.2.1 pc = .ok (.multianewarray 13 2, 4)) (hg : gNew n rf I J) (hb : 0 < n ∧ N ≤ 40 ∧ M ≤ 10000 ∧ u' ≤ mc ∧ v' ≤ ms)
    (kk : ∀ ad' : Nat → Nat, (∀ k, k < n → ad' k = ad k) → gNew n' (gnmR rf n N) I J → gG l Γ mt (d, mc, ms, u', v') (pc + 4) ls (.ref (ad' n) :: st) ((n', gSh, gnmR rf n N, ad'), I, J) Q) : gG l Γ mt (d, mc, ms, u, v) pc ls (.int (iv y) :: .int (iv x) :: st) ((n, gSh, rf, ad), I, J) Q := by
  obtain ⟨rfl, rfl, rfl⟩ := e
  obtain ⟨rfl, rfl⟩ := hx
  refine gg_multi (B := (d, mc, ms, u, v)) (t := 6) (t0 := 0) (ty := .int) (N := N) (M := M) (z := .inl (fun _ => 0)) ho gc_RX10_13 (fun _ z => z.2.2.1) rfl rfl (fun _ _ z => z) (fun _ _ z => z) ga_int rfl (by decide) hs (by omega) (fun _ => gz_i) (fun ad' b hb1 => ?_) dd hb.1 hg ⟨by omega, by omega⟩ (by show u + (1 + N) ≤ mc; omega) (by show v + (N + N * M) ≤ ms; omega) (fun ad' h => kk ad' h (gNew_multi hg hb.2.1))
  rw [gE_int (S := (n + 1 + N, gSh, gnmR rf n N, ad')) (t := 0) (hsr b hb1) (Or.inl rfl)]
  congr 4
  funext q
  rw [(hg.2 (n + 1 + b) (by omega) q).2.1]
  rfl
theorem gg_nJJ (ho : mt.1.cls = RX10) (hs : gSh n = (107, N)) (hsr : ∀ j, j < N → gSh (n + 1 + j) = (101, M)) (hx : x = (N : Int) ∧ y = (M : Int)) (e : n + 1 + N = n' ∧ u + 1 + N = u' ∧ v + N + N * M = v') (dd : decode mt.2.1 pc = .ok (.multianewarray 18 2, 4)) (hg : gNew n rf I J) (hb : 0 < n ∧ N ≤ 40 ∧ M ≤ 10000 ∧ u' ≤ mc ∧ v' ≤ ms)
    (kk : ∀ ad' : Nat → Nat, (∀ k, k < n → ad' k = ad k) → gNew n' (gnmR rf n N) I J → gG l Γ mt (d, mc, ms, u', v') (pc + 4) ls (.ref (ad' n) :: st) ((n', gSh, gnmR rf n N, ad'), I, J) Q) : gG l Γ mt (d, mc, ms, u, v) pc ls (.int (iv y) :: .int (iv x) :: st) ((n, gSh, rf, ad), I, J) Q := by
  obtain ⟨rfl, rfl, rfl⟩ := e
  obtain ⟨rfl, rfl⟩ := hx
  refine gg_multi (B := (d, mc, ms, u, v)) (t := 7) (t0 := 1) (ty := .long) (N := N) (M := M) (z := .inr (.inl (fun _ => 0))) ho gc_RX10_18 (fun _ z => z.2.2.2) rfl rfl (fun _ _ z => z) (fun _ _ z => z) ga_long rfl (by decide) hs (by omega) (fun _ => gz_j) (fun ad' b hb1 => ?_) dd hb.1 hg ⟨by omega, by omega⟩ (by show u + (1 + N) ≤ mc; omega) (by show v + (N + N * M) ≤ ms; omega) (fun ad' h => kk ad' h (gNew_multi hg hb.2.1))
  rw [gE_long (S := (n + 1 + N, gSh, gnmR rf n N, ad')) (hsr b hb1)]
  congr 5
  funext q
  exact (hg.2 (n + 1 + b) (by omega) q).2.2
/-- a field's reference -/
theorem gg_pR {ci : Nat} (ho : mt.1.cls = own) (f : gFL own idx ci j) (dd : decode mt.2.1 pc = .ok (.putfield idx, 3)) (hs : gSh k = (ci, len)) (hkw : k < n ∧ w < n ∧ j < len ∧ j < 40) (hr : gRef ci j = true) (hfin : ((gcl ci).2.1 j).2.2.2 = true) (hin : mt.1.name = "<init>") (hdc : ((gcl ci).2.1 j).1 = own) (hg : gNew n rf I J)
    (kk : gNew n (gnr rf k j w) I J → gG l Γ mt (d, mc, ms, u, v) (pc + 3) ls st ((n, gSh, gnr rf k j w, ad), I, J) Q) : gG l Γ mt (d, mc, ms, u, v) pc ls (.ref (ad w) :: .ref (ad k) :: st) ((n, gSh, rf, ad), I, J) Q :=
  gg_putR ho f dd hs hkw.1 hr hkw.2.2.1 hfin hin hdc (kk (gNew_ref hg hkw.1 hkw.2.1 hkw.2.2.2))
/-- new C -/
theorem gg_nO {ci : Nat} (ho : mt.1.cls = own) (hci : ci < 11) (hN : (gcl ci).2.2 = N) (hlk : Cond.classLink own idx (gcl ci).1 ∈ WT) (hinst : Cond.instantiable (gcl ci).1 N ∈ WT) (hini : Cond.initialized (gcl ci).1 ∈ WT) (hdf : ∀ j, j < N → gRef ci j = false → defaultValue (gty ci j) = .int 0) (hs : gSh n = (ci, N))
    (e : n + 1 = n' ∧ u + 1 = u' ∧ v + N = v') (dd : decode mt.2.1 pc = .ok (.new idx, 3)) (hg : gNew n rf I J) (hb : 0 < n ∧ u' ≤ mc ∧ v' ≤ ms)
    (kk : ∀ ad' : Nat → Nat, (∀ k, k < n → ad' k = ad k) → gNew n' rf I J → gG l Γ mt (d, mc, ms, u', v') (pc + 3) ls (.ref (ad' n) :: st) ((n', gSh, rf, ad'), I, J) Q) : gG l Γ mt (d, mc, ms, u, v) pc ls st ((n, gSh, rf, ad), I, J) Q := by
  obtain ⟨rfl, rfl, rfl⟩ := e
  exact gg_new (B := (d, mc, ms, u, v)) ho hci hN hlk hinst hini hdf hs dd hb.1 hg hb.2.1 hb.2.2 (fun ad' h => kk ad' h (gNew_up hg (by omega)))
end GMD
