/-! print: lists in rows; digits; the text of a tree -/
def gLst (I : Nat → Nat → Int) (p : Nat) (l : List Int) : Prop := ∀ q x, l[q]? = some x → I p q = x
theorem gLst_push {I : Nat → Nat → Int} {p : Nat} {l : List Int} {x : Int} (h : gLst I p l) : gLst (gu I p l.length x) p (l ++ [x]) := by
  intro q y hy
  by_cases hq : q < l.length
  · rw [List.getElem?_append_left hq] at hy
    rw [gu_n (by omega)]
    exact h q y hy
  · rw [List.getElem?_append_right (by omega)] at hy
    by_cases h0 : q - l.length = 0
    · rw [h0] at hy
      have e : q = l.length := by omega
      rw [e, gu_s]
      simpa using hy
    · obtain ⟨z, hz⟩ : ∃ z, q - l.length = z + 1 := ⟨q - l.length - 1, by omega⟩
      rw [hz] at hy
      simp at hy
theorem gLst_last {I : Nat → Nat → Int} {p : Nat} {l : List Int} {x : Int} (h : gLst I p (l ++ [x])) : I p l.length = x := h _ _ (by simp)
theorem gLst_init {I : Nat → Nat → Int} {p : Nat} {l r : List Int} (h : gLst I p (l ++ r)) : gLst I p l := by
  intro q x hx
  have hq : q < l.length := by
    rw [List.getElem?_eq_some_iff] at hx
    exact hx.1
  exact h q x (by rw [List.getElem?_append_left hq]; exact hx)
theorem gLst_same {I I' : Nat → Nat → Int} {p : Nat} {l : List Int} (h : gLst I p l) (e : I' p = I p) : gLst I' p l := by
  intro q x hx
  rw [e]
  exact h q x hx
theorem gLst_nil {I : Nat → Nat → Int} {p : Nat} : gLst I p [] := by
  intro q x hx
  simp at hx
/-- digits of m from place k on down -/
def gDgs (m : Nat) : Nat → List Int
  | 0 => [48 + ((m % 10 : Nat) : Int)]
  | k + 1 => (48 + ((m / 10 ^ (k + 1) % 10 : Nat) : Int)) :: gDgs m k
theorem gDgs_c (m k : Nat) : gDgs m k = (48 + ((m / 10 ^ k % 10 : Nat) : Int)) :: (match k with | 0 => [] | t + 1 => gDgs m t) := by
  cases k with
  | zero => simp [gDgs]
  | succ k => rfl
theorem gDgs_len (m : Nat) : ∀ k, (gDgs m k).length = k + 1
  | 0 => rfl
  | k + 1 => by
    show (gDgs m k).length + 1 = k + 1 + 1
    rw [gDgs_len m k]
def gIsTop (m k : Nat) : Prop := m < 10 ^ (k + 1) ∧ (k = 0 ∨ 10 ^ k ≤ m)
theorem gIsTop_uni {m k k' : Nat} (h : gIsTop m k) (h' : gIsTop m k') : k = k' := by
  have key : ∀ a b, gIsTop m a → gIsTop m b → ¬ a < b := by
    intro a b ha hb hab
    obtain ⟨b, rfl⟩ : ∃ c, b = c + 1 := ⟨b - 1, by omega⟩
    rcases hb.2 with h | h
    · omega
    · have h1 := ha.1
      have h2 : 10 ^ (a + 1) ≤ 10 ^ (b + 1) := Nat.pow_le_pow_right (by omega) (by omega)
      omega
  have h1 := key k k' h h'
  have h2 := key k' k h' h
  omega
theorem gIsTop_ex (m : Nat) : ∃ k, gIsTop m k := by
  induction m using Nat.strongRecOn with
  | ind m ih =>
    by_cases hm : m < 10
    · exact ⟨0, by simpa [gIsTop] using hm⟩
    · obtain ⟨k, hk1, hk2⟩ := ih (m / 10) (by omega)
      refine ⟨k + 1, ?_, Or.inr ?_⟩
      · rw [Nat.pow_succ]
        omega
      · rw [Nat.pow_succ]
        rcases hk2 with rfl | h
        · simp
          omega
        · omega
noncomputable def gTop (m : Nat) : Nat := Classical.choose (gIsTop_ex m)
theorem gTop_is (m : Nat) : gIsTop m (gTop m) := Classical.choose_spec (gIsTop_ex m)
theorem gTop_of {m k : Nat} (h : gIsTop m k) : gTop m = k := gIsTop_uni (gTop_is m) h
theorem gTop_le {m : Nat} (h : m ≤ 9223372036854775808) : gTop m ≤ 18 := by
  rcases (gTop_is m).2 with h1 | h1
  · omega
  · by_cases h2 : gTop m ≤ 18
    · exact h2
    · have h3 : 10 ^ 19 ≤ 10 ^ gTop m := Nat.pow_le_pow_right (by omega) (by omega)
      have h4 : (10 : Nat) ^ 19 = 10000000000000000000 := by decide
      omega
noncomputable def gNm (v : Int64) : List Int := (if v.toInt < 0 then [45] else []) ++ gDgs v.toInt.natAbs (gTop v.toInt.natAbs)
theorem g64 (v : Int64) : -9223372036854775808 ≤ v.toInt ∧ v.toInt ≤ 9223372036854775807 := ⟨v.le_toInt, by have := v.toInt_lt; omega⟩
theorem gNm_len (v : Int64) : (gNm v).length ≤ 20 := by
  have h := g64 v
  have h1 := gTop_le (m := v.toInt.natAbs) (by omega)
  unfold gNm
  rw [List.length_append, gDgs_len]
  split <;> simp <;> omega
theorem gNm_pos (v : Int64) : 1 ≤ (gNm v).length := by
  unfold gNm
  rw [List.length_append, gDgs_len]
  omega
/-- where a kind stands without brackets -/
def gBr (as k : Nat) (l : List Int) : List Int := if (as : Int) < gStands k then 40 :: (l ++ [41]) else l
theorem gBr_len (as k : Nat) (l : List Int) : (gBr as k l).length ≤ l.length + 2 ∧ l.length ≤ (gBr as k l).length := by
  unfold gBr
  split
  · simp only [List.length_cons, List.length_append, List.length_nil]
    omega
  · omega
/-- the text of node j -/
noncomputable def gpF (K : Nat → Nat) (N : Nat → Int64) (Z : Nat → Nat) (P : Nat → List Int) (j : Nat) : List Int :=
  if K j = 0 then gNm (N j) else if K j = 1 then [97 + gl2i (N j)] else if K j = 2 then 45 :: gBr 0 (K (j + 1)) (P (j + 1)) else
  if K j = 3 then gBr 3 (K (j + 1)) (P (j + 1)) ++ (if K (gPt Z j 1) = 2 then 45 :: gBr 2 (K (gPt Z j 1 + 1)) (P (gPt Z j 1 + 1)) else 43 :: gBr 2 (K (gPt Z j 1)) (P (gPt Z j 1))) else
  if K j = 4 then gBr 2 (K (j + 1)) (P (j + 1)) ++ 42 :: gBr 1 (K (gPt Z j 1)) (P (gPt Z j 1)) else
  if K j = 5 then gBr 1 (K (j + 1)) (P (j + 1)) ++ [94, 48 + gl2i (N j)] else
  if K j = 6 then gBr 3 (K (j + 1)) (P (j + 1)) ++ 63 :: (gBr 3 (K (gPt Z j 1)) (P (gPt Z j 1)) ++ 58 :: gBr 3 (K (gPt Z j 2)) (P (gPt Z j 2))) else
  91 :: (gBr 4 (K (j + 1)) (P (j + 1)) ++ [93])
theorem gpF_loc {K : Nat → Nat} {N : Nat → Int64} {Z : Nat → Nat} {P P' : Nat → List Int} {j : Nat} (h : ∀ t, j < t → P t = P' t) : gpF K N Z P j = gpF K N Z P' j := by
  unfold gpF
  have := gPt_gt Z j 1
  rw [h (j + 1) (by omega), h _ (gPt_gt Z j 1), h _ (gPt_gt Z j 2), h (gPt Z j 1 + 1) (by omega)]
theorem gP_ex (n : Nat) (K : Nat → Nat) (N : Nat → Int64) (Z : Nat → Nat) : ∃ P : Nat → List Int, ∀ j, j < n → P j = gpF K N Z P j := gfix_ex [] n (gpF K N Z) (fun _ _ _ h => gpF_loc h)
noncomputable def gTx (n : Nat) (K : Nat → Nat) (N : Nat → Int64) (Z : Nat → Nat) : Nat → List Int := Classical.choose (gP_ex n K N Z)
theorem gTx_is (n : Nat) (K : Nat → Nat) (N : Nat → Int64) (Z : Nat → Nat) : ∀ j, j < n → gTx n K N Z j = gpF K N Z (gTx n K N Z) j := Classical.choose_spec (gP_ex n K N Z)
theorem gP_len {n : Nat} {K : Nat → Nat} {N : Nat → Int64} {Z : Nat → Nat} (hW : gWf n K N Z) : ∀ j, j < n → 1 ≤ (gTx n K N Z j).length ∧ (gTx n K N Z j).length + 4 ≤ 24 * Z j := by
  have key : ∀ k, ∀ j, n - k ≤ j → j < n → 1 ≤ (gTx n K N Z j).length ∧ (gTx n K N Z j).length + 4 ≤ 24 * Z j := by
    intro k
    induction k with
    | zero => intro j h1 h2; omega
    | succ k ih =>
      intro j h1 h2
      by_cases hj : n - k ≤ j
      · exact ih j hj h2
      · rw [gTx_is n K N Z j h2]
        obtain ⟨hK, hZ1, hZ2, he0, he1, he2, he3, hc1, hc2, hc3, -⟩ := hW.2.2 j h2
        have q1 : 1 ≤ gPar (K j) → (gTx n K N Z (j + 1)).length + 4 ≤ 24 * Z (j + 1) := fun g => (ih _ (by omega) (hc1 g)).2
        have q2 : 2 ≤ gPar (K j) → (gTx n K N Z (gPt Z j 1)).length + 4 ≤ 24 * Z (gPt Z j 1) := fun g => (ih _ (by have := gPt_gt Z j 1; omega) (hc2 g)).2
        have q3 : 3 ≤ gPar (K j) → (gTx n K N Z (gPt Z j 2)).length + 4 ≤ 24 * Z (gPt Z j 2) := fun g => (ih _ (by have := gPt_gt Z j 2; omega) (hc3 g)).2
        have q4 : 2 ≤ gPar (K j) → K (gPt Z j 1) = 2 → (gTx n K N Z (gPt Z j 1 + 1)).length + 4 ≤ 24 * Z (gPt Z j 1 + 1) ∧ Z (gPt Z j 1) = 1 + Z (gPt Z j 1 + 1) := by
          intro g hk
          obtain ⟨-, -, -, -, e1, -, -, d1, -⟩ := hW.2.2 _ (hc2 g)
          rw [hk] at e1 d1
          exact ⟨(ih _ (by have := gPt_gt Z j 1; omega) (d1 (by decide))).2, e1 rfl⟩
        clear ih hc1 hc2 hc3 hW
        have b := fun as k l => gBr_len as k l
        have b1 := b 0 (K (j + 1)) (gTx n K N Z (j + 1))
        have b2 := b 1 (K (j + 1)) (gTx n K N Z (j + 1))
        have b3 := b 2 (K (j + 1)) (gTx n K N Z (j + 1))
        have b4 := b 3 (K (j + 1)) (gTx n K N Z (j + 1))
        have b5 := b 4 (K (j + 1)) (gTx n K N Z (j + 1))
        have c1 := b 1 (K (gPt Z j 1)) (gTx n K N Z (gPt Z j 1))
        have c2 := b 2 (K (gPt Z j 1)) (gTx n K N Z (gPt Z j 1))
        have c3 := b 3 (K (gPt Z j 1)) (gTx n K N Z (gPt Z j 1))
        have d3 := b 3 (K (gPt Z j 2)) (gTx n K N Z (gPt Z j 2))
        have d2 := b 2 (K (gPt Z j 1 + 1)) (gTx n K N Z (gPt Z j 1 + 1))
        have nl := gNm_len (N j)
        have nq := gNm_pos (N j)
        clear b
        unfold gpF
        obtain hk | hk | hk | hk | hk | hk | hk | hk : K j = 0 ∨ K j = 1 ∨ K j = 2 ∨ K j = 3 ∨ K j = 4 ∨ K j = 5 ∨ K j = 6 ∨ K j = 7 := by omega
        all_goals rw [hk] at q1 q2 q3 q4 he0 he1 he2 he3
        all_goals simp [gPar] at q1 q2 q3 he0 he1 he2 he3
        all_goals simp [hk, List.length_append, List.length_cons]
        all_goals first | omega | skip
        have q4 := q4 (by decide)
        split
        · rename_i h
          have := q4 h
          simp only [List.length_cons]
          omega
        · simp only [List.length_cons]
          omega
  exact fun j hj => key n j (by omega) hj
/-- what a task prints: a sign, or a tree -/
noncomputable def gOt1 (n : Nat) (K : Nat → Nat) (N : Nat → Int64) (Z : Nat → Nat) (t : Int) : List Int := if t < 0 then [-t] else gBr (t % 5).toNat (K (t / 5).toNat) (gTx n K N Z (t / 5).toNat)
/-- the last of the tasks is printed first -/
noncomputable def gOtl (n : Nat) (K : Nat → Nat) (N : Nat → Int64) (Z : Nat → Nat) : List Int → List Int
  | [] => []
  | t :: R => gOtl n K N Z R ++ gOt1 n K N Z t
theorem gOtl_app {n : Nat} {K : Nat → Nat} {N : Nat → Int64} {Z : Nat → Nat} : ∀ (R R' : List Int), gOtl n K N Z (R ++ R') = gOtl n K N Z R' ++ gOtl n K N Z R
  | [], R' => by simp [gOtl]
  | t :: R, R' => by
    show gOtl n K N Z (R ++ R') ++ gOt1 n K N Z t = _
    rw [gOtl_app R R', List.append_assoc]
    rfl
def gWg1 (Z : Nat → Nat) (t : Int) : Nat := if t < 0 then 1 else 4 * Z (t / 5).toNat
def gWg (Z : Nat → Nat) : List Int → Nat
  | [] => 0
  | t :: R => gWg1 Z t + gWg Z R
theorem gWg_app {Z : Nat → Nat} : ∀ (R R' : List Int), gWg Z (R ++ R') = gWg Z R + gWg Z R'
  | [], R' => by simp [gWg]
  | t :: R, R' => by
    show gWg1 Z t + gWg Z (R ++ R') = gWg1 Z t + gWg Z R + gWg Z R'
    rw [gWg_app R R']
    omega
def gTok (n : Nat) (t : Int) : Prop := (-127 ≤ t ∧ t < 0) ∨ (0 ≤ t ∧ t / 5 < (n : Int))
def gTall (n : Nat) (R : List Int) : Prop := ∀ t, t ∈ R → gTok n t
theorem gWg_len {n : Nat} {K : Nat → Nat} {N : Nat → Int64} {Z : Nat → Nat} (hW : gWf n K N Z) : ∀ R, gTall n R → R.length ≤ gWg Z R
  | [], _ => Nat.zero_le _
  | t :: R, h => by
    have h1 := gWg_len hW R (fun x hx => h x (List.mem_cons_of_mem _ hx))
    have h2 : 1 ≤ gWg1 Z t := by
      unfold gWg1
      rcases h t (by simp) with h | h
      · rw [if_pos h.2]
        omega
      · rw [if_neg (by omega)]
        have := (hW.2.2 (t / 5).toNat (by omega)).2.1
        omega
    show R.length + 1 ≤ gWg1 Z t + gWg Z R
    omega
theorem gOt1_s {n : Nat} {K : Nat → Nat} {N : Nat → Int64} {Z : Nat → Nat} {c : Int} (h : 0 < c) : gOt1 n K N Z (-c) = [c] := by
  unfold gOt1
  rw [if_pos (by omega), Int.neg_neg]
theorem gOt1_t {n : Nat} {K : Nat → Nat} {N : Nat → Int64} {Z : Nat → Nat} {j as : Nat} (h : as < 5) : gOt1 n K N Z ((j * 5 + as : Nat) : Int) = gBr as (K j) (gTx n K N Z j) := by
  unfold gOt1
  rw [if_neg (by omega), show (((j * 5 + as : Nat) : Int) % 5).toNat = as by omega, show (((j * 5 + as : Nat) : Int) / 5).toNat = j by omega]
theorem gWg1_s {Z : Nat → Nat} {c : Int} (h : 0 < c) : gWg1 Z (-c) = 1 := by
  unfold gWg1
  rw [if_pos (by omega)]
theorem gWg1_t {Z : Nat → Nat} {j as : Nat} (h : as < 5) : gWg1 Z ((j * 5 + as : Nat) : Int) = 4 * Z j := by
  unfold gWg1
  rw [if_neg (by omega), show (((j * 5 + as : Nat) : Int) / 5).toNat = j by omega]
/-- the printer: what is printed, what waits -/
def gPrn (I : Nat → Nat → Int) (B R : List Int) : Prop := I 28 1 = (B.length : Int) ∧ gLst I 29 B ∧ I 28 3 = (R.length : Int) ∧ gLst I 30 R
theorem gi2b_small {x : Int} (h : 0 ≤ x ∧ x ≤ 127) : gi2b x = x := by
  obtain ⟨m, rfl⟩ : ∃ m : Nat, x = (m : Int) := ⟨x.toNat, by omega⟩
  have hm : m < 128 := by omega
  have key : ∀ m : Fin 128, gi2b ((m.val : Nat) : Int) = ((m.val : Nat) : Int) := by decide +kernel
  exact key ⟨m, hm⟩
set_option maxRecDepth 10000 in
theorem c_X4_put {l : Launch} {Γ : gC} {ad : Nat → Nat} {I : Nat → Nat → Int} {J : Nat → Nat → Int64} {d : Nat} {B R : List Int} {x : Int} (hg : gPrn I B R) (hB : B.length < 4800) (hx : 0 ≤ x ∧ x ≤ 127) : gKv l Γ gm_X4_put d [.ref (gad (gSS ad) 28), .int (iv x)] (gSS ad, I, J) (fun μ => ∃ I1, μ = (gSS ad, I1, J) ∧ gPrn I1 (B ++ [x]) R ∧ (∀ p, p ≠ 28 → p ≠ 29 → I1 p = I p)) := by
  refine gKv_of gk_X4_put.1 (Nat.le_of_ble_eq_true rfl) ?_
  show gG l Γ gm_X4_put (d, 0, 0, 0, 0) 0 [(0, .ref (gad (gSS ad) 28)), (1, .int (iv x))] [] _ _
  refine gg_aload_n dX4_put_0 0 rfl ?_
  refine gg_getI rfl gf_RX4_22 dX4_put_1 sh_28 pl_28 (by decide) (by decide) ?_
  refine gg_toI (b := (B.length : Int)) hg.1 ?_
  refine gg_sipush dX4_put_4 (by decide) ?_
  refine gg_icmp_ge_f (tgt := 31) dX4_put_7 (by decide) (by omega) (by omega) ?_
  refine gg_aload_n dX4_put_10 0 rfl ?_
  refine gg_getR (k' := 29) rfl gf_RX4_11 dX4_put_11 sh_28 pl_28 (by decide) (by decide) rr_28_0 ?_
  refine gg_aload_n dX4_put_14 0 rfl ?_
  refine gg_getI rfl gf_RX4_22 dX4_put_15 sh_28 pl_28 (by decide) (by decide) ?_
  refine gg_toI (b := (B.length : Int)) hg.1 ?_
  refine gg_iload_n dX4_put_18 1 rfl ?_
  refine gg_i2b dX4_put_19 ?_
  refine gg_toI (b := x) (gi2b_small hx) ?_
  refine gg_bastj B.length dX4_put_20 sh_29 pl_29 (by decide) rfl hB (by omega) ?_
  refine gg_aload_n dX4_put_21 0 rfl ?_
  refine gg_dup dX4_put_22 rfl ?_
  refine gg_getI rfl gf_RX4_22 dX4_put_23 sh_28 pl_28 (by decide) (by decide) ?_
  refine gg_toI (b := (B.length : Int)) ((gu_n (by omega)).trans hg.1) ?_
  refine gg_iconst dX4_put_26 ?_
  refine gg_iadd dX4_put_27 ?_
  refine gg_putI rfl gf_RX4_22 dX4_put_28 sh_28 pl_28 (by decide) (by decide) (by decide) (gfit_i _) ?_
  refine gg_vretv dX4_put_31 rfl ⟨rfl, rfl⟩ ?_
  refine ⟨_, rfl, ⟨gu_s.trans (by simp), gLst_same (gLst_push hg.2.1) (gu_other (by omega)), (gu_n (by omega)).trans ((gu_n (by omega)).trans hg.2.2.1), gLst_same hg.2.2.2 ((gu_other (by omega)).trans (gu_other (by omega)))⟩, fun p h1 h2 => (gu_other h1).trans (gu_other h2)⟩

set_option maxRecDepth 10000 in
theorem c_X4_later {l : Launch} {Γ : gC} {ad : Nat → Nat} {I : Nat → Nat → Int} {J : Nat → Nat → Int64} {d : Nat} {B R : List Int} {x : Int} (hg : gPrn I B R) (hR : R.length < 1600) : gKv l Γ gm_X4_later d [.ref (gad (gSS ad) 28), .int (iv x)] (gSS ad, I, J) (fun μ => ∃ I1, μ = (gSS ad, I1, J) ∧ gPrn I1 B (R ++ [x]) ∧ (∀ p, p ≠ 28 → p ≠ 29 → p ≠ 30 → p ≠ 31 → I1 p = I p)) := by
  refine gKv_of gk_X4_later.1 (Nat.le_of_ble_eq_true rfl) ?_
  show gG l Γ gm_X4_later (d, 0, 0, 0, 0) 0 [(0, .ref (gad (gSS ad) 28)), (1, .int (iv x))] [] _ _
  refine gg_aload_n dX4_later_0 0 rfl ?_
  refine gg_getI rfl gf_RX4_26 dX4_later_1 sh_28 pl_28 (by decide) (by decide) ?_
  refine gg_toI (b := (R.length : Int)) hg.2.2.1 ?_
  refine gg_sipush dX4_later_4 (by decide) ?_
  refine gg_icmp_ge_f (tgt := 30) dX4_later_7 (by decide) (by omega) (by omega) ?_
  refine gg_aload_n dX4_later_10 0 rfl ?_
  refine gg_getR (k' := 30) rfl gf_RX4_15 dX4_later_11 sh_28 pl_28 (by decide) (by decide) rr_28_2 ?_
  refine gg_aload_n dX4_later_14 0 rfl ?_
  refine gg_getI rfl gf_RX4_26 dX4_later_15 sh_28 pl_28 (by decide) (by decide) ?_
  refine gg_toI (b := (R.length : Int)) hg.2.2.1 ?_
  refine gg_iload_n dX4_later_18 1 rfl ?_
  refine gg_iastj R.length dX4_later_19 sh_30 pl_30 (by decide) rfl hR ?_
  refine gg_aload_n dX4_later_20 0 rfl ?_
  refine gg_dup dX4_later_21 rfl ?_
  refine gg_getI rfl gf_RX4_26 dX4_later_22 sh_28 pl_28 (by decide) (by decide) ?_
  refine gg_toI (b := (R.length : Int)) ((gu_n (by omega)).trans hg.2.2.1) ?_
  refine gg_iconst dX4_later_25 ?_
  refine gg_iadd dX4_later_26 ?_
  refine gg_putI rfl gf_RX4_26 dX4_later_27 sh_28 pl_28 (by decide) (by decide) (by decide) (gfit_i _) ?_
  refine gg_vretv dX4_later_30 rfl ⟨rfl, rfl⟩ ?_
  refine ⟨_, rfl, ⟨(gu_n (by omega)).trans ((gu_n (by omega)).trans hg.1), gLst_same hg.2.1 ((gu_other (by omega)).trans (gu_other (by omega))), gu_s.trans (by simp), gLst_same (gLst_push hg.2.2.2) (gu_other (by omega))⟩, fun p h1 h2 h3 h4 => (gu_other h1).trans (gu_other h3)⟩

set_option maxRecDepth 10000 in
theorem c_X4_laterSign {l : Launch} {Γ : gC} {ad : Nat → Nat} {I : Nat → Nat → Int} {J : Nat → Nat → Int64} {d : Nat} {B R : List Int} {x : Int} (hg : gPrn I B R) (hR : R.length < 1600) (hd : 1 ≤ d) : gKv l Γ gm_X4_laterSign d [.ref (gad (gSS ad) 28), .int (iv x)] (gSS ad, I, J) (fun μ => ∃ I1, μ = (gSS ad, I1, J) ∧ gPrn I1 B (R ++ [-x]) ∧ (∀ p, p ≠ 28 → p ≠ 29 → p ≠ 30 → p ≠ 31 → I1 p = I p)) := by
  refine gKv_of gk_X4_laterSign.1 (Nat.le_of_ble_eq_true rfl) ?_
  show gG l Γ gm_X4_laterSign (d, 0, 0, 0, 0) 0 [(0, .ref (gad (gSS ad) 28)), (1, .int (iv x))] [] _ _
  refine gg_aload_n dX4_laterSign_0 0 rfl ?_
  refine gg_iload_n dX4_laterSign_1 1 rfl ?_
  refine gg_ineg dX4_laterSign_2 ?_
  refine gg_callVv (own := RX4) (yt := gm_X4_later) rfl gl_RX4_41 gk_X4_later gr_X4_later dX4_laterSign_3 (c_X4_later (d := d - 1) hg hR) sh_28 pl_28 (by decide) rfl rfl rfl (Nat.le_of_ble_eq_true rfl) (by show _ ≤ d; omega) ⟨Nat.le_refl _, Nat.le_refl _⟩ (fun μ' hc => ?_)
  obtain ⟨I1, rfl, hg1, hI1⟩ := hc
  refine gg_vretv dX4_laterSign_6 rfl ⟨rfl, rfl⟩ ?_
  exact ⟨I1, rfl, hg1, hI1⟩

set_option maxRecDepth 10000 in
theorem c_X4_laterTree {l : Launch} {Γ : gC} {ad : Nat → Nat} {I : Nat → Nat → Int} {J : Nat → Nat → Int64} {d : Nat} {B R : List Int} {j as : Nat} (hg : gPrn I B R) (hR : R.length < 1600) (hd : 1 ≤ d) : gKv l Γ gm_X4_laterTree d [.ref (gad (gSS ad) 28), .int (iv (j : Int)), .int (iv (as : Int))] (gSS ad, I, J) (fun μ => ∃ I1, μ = (gSS ad, I1, J) ∧ gPrn I1 B (R ++ [((j * 5 + as : Nat) : Int)]) ∧ (∀ p, p ≠ 28 → p ≠ 29 → p ≠ 30 → p ≠ 31 → I1 p = I p)) := by
  refine gKv_of gk_X4_laterTree.1 (Nat.le_of_ble_eq_true rfl) ?_
  show gG l Γ gm_X4_laterTree (d, 0, 0, 0, 0) 0 [(0, .ref (gad (gSS ad) 28)), (1, .int (iv (j : Int))), (2, .int (iv (as : Int)))] [] _ _
  refine gg_aload_n dX4_laterTree_0 0 rfl ?_
  refine gg_iload_n dX4_laterTree_1 1 rfl ?_
  refine gg_iconst dX4_laterTree_2 ?_
  refine gg_imul dX4_laterTree_3 ?_
  refine gg_iload_n dX4_laterTree_4 2 rfl ?_
  refine gg_iadd dX4_laterTree_5 ?_
  refine gg_toI (b := ((j * 5 + as : Nat) : Int)) (by omega) ?_
  refine gg_callVv (own := RX4) (yt := gm_X4_later) rfl gl_RX4_41 gk_X4_later gr_X4_later dX4_laterTree_6 (c_X4_later (d := d - 1) hg hR) sh_28 pl_28 (by decide) rfl rfl rfl (Nat.le_of_ble_eq_true rfl) (by show _ ≤ d; omega) ⟨Nat.le_refl _, Nat.le_refl _⟩ (fun μ' hc => ?_)
  obtain ⟨I1, rfl, hg1, hI1⟩ := hc
  refine gg_vretv dX4_laterTree_9 rfl ⟨rfl, rfl⟩ ?_
  exact ⟨I1, rfl, hg1, hI1⟩

