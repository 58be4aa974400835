/-! Formula: a row of nodes at a, a + 1 (kinds), a + 2 (numbers), a + 3 (sizes).
 A row: n nodes, their kinds K, numbers N, sizes Z -/
def gAt (I : Nat → Nat → Int) (J : Nat → Nat → Int64) (a n : Nat) (K : Nat → Nat) (N : Nat → Int64) (Z : Nat → Nat) : Prop := I a 3 = (n : Int) ∧ ∀ j, j < n → I (a + 1) j = (K j : Int) ∧ J (a + 2) j = N j ∧ I (a + 3) j = (Z j : Int)
def gPar (k : Nat) : Nat := match k with | 2 => 1 | 3 => 2 | 4 => 2 | 5 => 1 | 6 => 3 | 7 => 1 | _ => 0
theorem gParts_eq : ∀ k, k < 8 → gParts k = (gPar k : Int) := by decide
/-- where part w of node j begins -/
def gPt (Z : Nat → Nat) (j w : Nat) : Nat := match w with | 0 => j + 1 | 1 => j + 1 + Z (j + 1) | _ => j + 1 + Z (j + 1) + Z (j + 1 + Z (j + 1))
/-- a row that is a tree's: sizes are those of the parts and one, numbers of names and powers are small -/
def gWf (n : Nat) (K : Nat → Nat) (N : Nat → Int64) (Z : Nat → Nat) : Prop := n ≤ 200 ∧ (0 < n → Z 0 = n) ∧ ∀ j, j < n → K j < 8 ∧ 1 ≤ Z j ∧ j + Z j ≤ n ∧
  (gPar (K j) = 0 → Z j = 1) ∧ (gPar (K j) = 1 → Z j = 1 + Z (j + 1)) ∧ (gPar (K j) = 2 → Z j = 1 + Z (j + 1) + Z (gPt Z j 1)) ∧ (gPar (K j) = 3 → Z j = 1 + Z (j + 1) + Z (gPt Z j 1) + Z (gPt Z j 2)) ∧
  (1 ≤ gPar (K j) → j + 1 < n) ∧ (2 ≤ gPar (K j) → gPt Z j 1 < n) ∧ (3 ≤ gPar (K j) → gPt Z j 2 < n) ∧
  (K j = 1 → ∃ m : Nat, m < 8 ∧ N j = Int64.ofNat m) ∧ (K j = 5 → ∃ m : Nat, m < 10 ∧ N j = Int64.ofNat m) ∧ (K j ≠ 0 → K j ≠ 1 → K j ≠ 5 → N j = 0)

set_option maxRecDepth 10000 in
theorem c_X1_size {l : Launch} {Γ : gC} {ad : Nat → Nat} {I : Nat → Nat → Int} {J : Nat → Nat → Int64} {d : Nat} {a n : Nat} {K : Nat → Nat} {N : Nat → Int64} {Z : Nat → Nat} (hF : gF a) (hA : gAt I J a n K N Z) : gKi l Γ gm_X1_size d [.ref (gad (gSS ad) a)] (gSS ad, I, J) (fun e μ => μ = (gSS ad, I, J) ∧ e = (n : Int)) := by
  refine gKi_of gk_X1_size.1 (Nat.le_of_ble_eq_true rfl) ?_
  show gG l Γ gm_X1_size (d, 0, 0, 0, 0) 0 [(0, .ref (gad (gSS ad) a))] [] _ _
  have hs := hA.1
  refine gg_aload_n dX1_size_0 0 rfl ?_
  refine gg_getI rfl gf_RX1_22 dX1_size_1 (gFsh hF) (gFlt hF) (by decide) (by decide) ?_
  refine gg_ireti dX1_size_4 rfl ⟨rfl, rfl⟩ ?_
  exact ⟨rfl, hs⟩

set_option maxRecDepth 10000 in
theorem c_X1_isEmpty {l : Launch} {Γ : gC} {ad : Nat → Nat} {I : Nat → Nat → Int} {J : Nat → Nat → Int64} {d : Nat} {a n : Nat} {K : Nat → Nat} {N : Nat → Int64} {Z : Nat → Nat} (hF : gF a) (hA : gAt I J a n K N Z) (hn : n ≤ 200) : gKi l Γ gm_X1_isEmpty d [.ref (gad (gSS ad) a)] (gSS ad, I, J) (fun e μ => μ = (gSS ad, I, J) ∧ ((e = 1 ∧ n = 0) ∨ (e = 0 ∧ ¬ n = 0))) := by
  refine gKi_of gk_X1_isEmpty.1 (Nat.le_of_ble_eq_true rfl) ?_
  show gG l Γ gm_X1_isEmpty (d, 0, 0, 0, 0) 0 [(0, .ref (gad (gSS ad) a))] [] _ _
  have hs := hA.1
  refine gg_aload_n dX1_isEmpty_0 0 rfl ?_
  refine gg_getI rfl gf_RX1_22 dX1_isEmpty_1 (gFsh hF) (gFlt hF) (by decide) (by decide) ?_
  refine gg_if_ne (tgt := 11) dX1_isEmpty_4 (by decide) (by omega) (fun hb1 => ?_) (fun hb1 => ?_)
  · refine gg_iconst dX1_isEmpty_11 ?_
    refine gg_iretz dX1_isEmpty_12 rfl (by decide) ⟨rfl, rfl⟩ ?_
    refine ⟨rfl, ?_⟩ <;> omega
  · refine gg_iconst dX1_isEmpty_7 ?_
    refine gg_goto (tgt := 12) dX1_isEmpty_8 (by decide) ?_
    refine gg_iretz dX1_isEmpty_12 rfl (by decide) ⟨rfl, rfl⟩ ?_
    refine ⟨rfl, ?_⟩ <;> omega

set_option maxRecDepth 10000 in
theorem c_X1_has {l : Launch} {Γ : gC} {ad : Nat → Nat} {I : Nat → Nat → Int} {J : Nat → Nat → Int64} {d : Nat} {a n : Nat} {K : Nat → Nat} {N : Nat → Int64} {Z : Nat → Nat} (hF : gF a) (hA : gAt I J a n K N Z) (hn : n ≤ 200) {i : Int} (hi : -2147483648 ≤ i ∧ i ≤ 2147483647) : gKi l Γ gm_X1_has d [.ref (gad (gSS ad) a), .int (iv i)] (gSS ad, I, J) (fun e μ => μ = (gSS ad, I, J) ∧ ((e = 1 ∧ (0 ≤ i ∧ i < (n : Int))) ∨ (e = 0 ∧ ¬ (0 ≤ i ∧ i < (n : Int))))) := by
  refine gKi_of gk_X1_has.1 (Nat.le_of_ble_eq_true rfl) ?_
  show gG l Γ gm_X1_has (d, 0, 0, 0, 0) 0 [(0, .ref (gad (gSS ad) a)), (1, .int (iv i))] [] _ _
  have hs := hA.1
  refine gg_iload_n dX1_has_0 1 rfl ?_
  refine gg_if_lt (tgt := 16) dX1_has_1 (by decide) (by omega) (fun hb1 => ?_) (fun hb1 => ?_)
  · refine gg_iconst dX1_has_16 ?_
    refine gg_iretz dX1_has_17 rfl (by decide) ⟨rfl, rfl⟩ ?_
    refine ⟨rfl, ?_⟩ <;> omega
  · refine gg_iload_n dX1_has_4 1 rfl ?_
    refine gg_aload_n dX1_has_5 0 rfl ?_
    refine gg_getI rfl gf_RX1_22 dX1_has_6 (gFsh hF) (gFlt hF) (by decide) (by decide) ?_
    refine gg_icmp_ge (tgt := 16) dX1_has_9 (by decide) (by omega) (fun hb2 => ?_) (fun hb2 => ?_)
    · refine gg_iconst dX1_has_16 ?_
      refine gg_iretz dX1_has_17 rfl (by decide) ⟨rfl, rfl⟩ ?_
      refine ⟨rfl, ?_⟩ <;> omega
    · refine gg_iconst dX1_has_12 ?_
      refine gg_goto (tgt := 17) dX1_has_13 (by decide) ?_
      refine gg_iretz dX1_has_17 rfl (by decide) ⟨rfl, rfl⟩ ?_
      refine ⟨rfl, ?_⟩ <;> omega

set_option maxRecDepth 10000 in
theorem c_X1_kind {l : Launch} {Γ : gC} {ad : Nat → Nat} {I : Nat → Nat → Int} {J : Nat → Nat → Int64} {d : Nat} {a n : Nat} {K : Nat → Nat} {N : Nat → Int64} {Z : Nat → Nat} (hF : gF a) (hA : gAt I J a n K N Z) (hn : n ≤ 200) {j : Nat} (hj : j < n) (hd : 1 ≤ d) : gKi l Γ gm_X1_kind d [.ref (gad (gSS ad) a), .int (iv (j : Int))] (gSS ad, I, J) (fun e μ => μ = (gSS ad, I, J) ∧ e = (K j : Int)) := by
  refine gKi_of gk_X1_kind.1 (Nat.le_of_ble_eq_true rfl) ?_
  show gG l Γ gm_X1_kind (d, 0, 0, 0, 0) 0 [(0, .ref (gad (gSS ad) a)), (1, .int (iv (j : Int)))] [] _ _
  have hs := hA.1
  have hkj := hA.2 j hj
  refine gg_aload_n dX1_kind_0 0 rfl ?_
  refine gg_iload_n dX1_kind_1 1 rfl ?_
  refine gg_callVi (own := RX1) (yt := gm_X1_has) rfl gl_RX1_26 gk_X1_has gr_X1_has dX1_kind_2 (c_X1_has (d := d - 1) hF hA hn (by omega)) (gFsh hF) (gFlt hF) (by decide) rfl rfl rfl (Nat.le_of_ble_eq_true rfl) (by show _ ≤ d; omega) ⟨Nat.le_refl _, Nat.le_refl _⟩ (fun e1 μ' hc => ?_)
  obtain ⟨rfl, ⟨rfl, hb2⟩ | ⟨rfl, hb2⟩⟩ := hc
  rotate_left
  · omega
  refine gg_if_eq_f (tgt := 17) dX1_kind_5 (by decide) (by decide) (by decide) ?_
  refine gg_aload_n dX1_kind_8 0 rfl ?_
  refine gg_getR (k' := (a + 1)) rfl gf_RX1_9 dX1_kind_9 (gFsh hF) (gFlt hF) (by decide) (by decide) (gFr0 hF) ?_
  refine gg_iload_n dX1_kind_12 1 rfl ?_
  refine gg_ialdj j dX1_kind_13 (gFs1 hF) (gFl1 hF) (by decide) rfl (by omega) ?_
  refine gg_goto (tgt := 18) dX1_kind_14 (by decide) ?_
  refine gg_ireti dX1_kind_18 rfl ⟨rfl, rfl⟩ ?_
  exact ⟨rfl, hkj.1⟩

set_option maxRecDepth 10000 in
theorem c_X1_number {l : Launch} {Γ : gC} {ad : Nat → Nat} {I : Nat → Nat → Int} {J : Nat → Nat → Int64} {d : Nat} {a n : Nat} {K : Nat → Nat} {N : Nat → Int64} {Z : Nat → Nat} (hF : gF a) (hA : gAt I J a n K N Z) (hn : n ≤ 200) {j : Nat} (hj : j < n) (hd : 1 ≤ d) : gKl l Γ gm_X1_number d [.ref (gad (gSS ad) a), .int (iv (j : Int))] (gSS ad, I, J) (fun e μ => μ = (gSS ad, I, J) ∧ e = N j) := by
  refine gKl_of gk_X1_number.1 (Nat.le_of_ble_eq_true rfl) ?_
  show gG l Γ gm_X1_number (d, 0, 0, 0, 0) 0 [(0, .ref (gad (gSS ad) a)), (1, .int (iv (j : Int)))] [] _ _
  have hs := hA.1
  have hkj := hA.2 j hj
  refine gg_aload_n dX1_number_0 0 rfl ?_
  refine gg_iload_n dX1_number_1 1 rfl ?_
  refine gg_callVi (own := RX1) (yt := gm_X1_has) rfl gl_RX1_26 gk_X1_has gr_X1_has dX1_number_2 (c_X1_has (d := d - 1) hF hA hn (by omega)) (gFsh hF) (gFlt hF) (by decide) rfl rfl rfl (Nat.le_of_ble_eq_true rfl) (by show _ ≤ d; omega) ⟨Nat.le_refl _, Nat.le_refl _⟩ (fun e1 μ' hc => ?_)
  obtain ⟨rfl, ⟨rfl, hb2⟩ | ⟨rfl, hb2⟩⟩ := hc
  rotate_left
  · omega
  refine gg_if_eq_f (tgt := 17) dX1_number_5 (by decide) (by decide) (by decide) ?_
  refine gg_aload_n dX1_number_8 0 rfl ?_
  refine gg_getR (k' := (a + 2)) rfl gf_RX1_15 dX1_number_9 (gFsh hF) (gFlt hF) (by decide) (by decide) (gFr1 hF) ?_
  refine gg_iload_n dX1_number_12 1 rfl ?_
  refine gg_laldj j dX1_number_13 (gFs2 hF) (gFl2 hF) (by decide) rfl (by omega) ?_
  refine gg_goto (tgt := 18) dX1_number_14 (by decide) ?_
  refine gg_lretl dX1_number_18 rfl ⟨rfl, rfl⟩ ?_
  exact ⟨rfl, hkj.2.1⟩

set_option maxRecDepth 10000 in
theorem c_X1_nodes {l : Launch} {Γ : gC} {ad : Nat → Nat} {I : Nat → Nat → Int} {J : Nat → Nat → Int64} {d : Nat} {a n : Nat} {K : Nat → Nat} {N : Nat → Int64} {Z : Nat → Nat} (hF : gF a) (hA : gAt I J a n K N Z) (hn : n ≤ 200) {j : Nat} (hj : j < n) : gKi l Γ gm_X1_nodes d [.ref (gad (gSS ad) a), .int (iv (j : Int))] (gSS ad, I, J) (fun e μ => μ = (gSS ad, I, J) ∧ e = (Z j : Int)) := by
  refine gKi_of gk_X1_nodes.1 (Nat.le_of_ble_eq_true rfl) ?_
  show gG l Γ gm_X1_nodes (d, 0, 0, 0, 0) 0 [(0, .ref (gad (gSS ad) a)), (1, .int (iv (j : Int)))] [] _ _
  have hs := hA.1
  have hkj := hA.2 j hj
  refine gg_iload_n dX1_nodes_0 1 rfl ?_
  refine gg_if_lt_f (tgt := 21) dX1_nodes_1 (by decide) (by omega) (by omega) ?_
  refine gg_iload_n dX1_nodes_4 1 rfl ?_
  refine gg_aload_n dX1_nodes_5 0 rfl ?_
  refine gg_getI rfl gf_RX1_22 dX1_nodes_6 (gFsh hF) (gFlt hF) (by decide) (by decide) ?_
  refine gg_icmp_ge_f (tgt := 21) dX1_nodes_9 (by decide) (by omega) (by omega) ?_
  refine gg_aload_n dX1_nodes_12 0 rfl ?_
  refine gg_getR (k' := (a + 3)) rfl gf_RX1_19 dX1_nodes_13 (gFsh hF) (gFlt hF) (by decide) (by decide) (gFr2 hF) ?_
  refine gg_iload_n dX1_nodes_16 1 rfl ?_
  refine gg_ialdj j dX1_nodes_17 (gFs3 hF) (gFl3 hF) (by decide) rfl (by omega) ?_
  refine gg_goto (tgt := 22) dX1_nodes_18 (by decide) ?_
  refine gg_ireti dX1_nodes_22 rfl ⟨rfl, rfl⟩ ?_
  exact ⟨rfl, hkj.2.2⟩

set_option maxRecDepth 10000 in
theorem c_X9_isByte {l : Launch} {Γ : gC} {ad : Nat → Nat} {I : Nat → Nat → Int} {J : Nat → Nat → Int64} {d : Nat} {i : Int} (hi : -2147483648 ≤ i ∧ i ≤ 2147483647) : gKi l Γ gm_X9_isByte d [.int (iv i)] (gSS ad, I, J) (fun e μ => μ = (gSS ad, I, J) ∧ ((e = 1 ∧ (0 ≤ i ∧ i ≤ 255)) ∨ (e = 0 ∧ ¬ (0 ≤ i ∧ i ≤ 255)))) := by
  refine gKi_of gk_X9_isByte.1 (Nat.le_of_ble_eq_true rfl) ?_
  show gG l Γ gm_X9_isByte (d, 0, 0, 0, 0) 0 [(0, .int (iv i))] [] _ _
  refine gg_iload_n dX9_isByte_0 0 rfl ?_
  refine gg_if_lt (tgt := 15) dX9_isByte_1 (by decide) (by omega) (fun hb1 => ?_) (fun hb1 => ?_)
  · refine gg_iconst dX9_isByte_15 ?_
    refine gg_iretz dX9_isByte_16 rfl (by decide) ⟨rfl, rfl⟩ ?_
    refine ⟨rfl, ?_⟩ <;> omega
  · refine gg_iload_n dX9_isByte_4 0 rfl ?_
    refine gg_sipush dX9_isByte_5 (by decide) ?_
    refine gg_icmp_gt (tgt := 15) dX9_isByte_8 (by decide) (by omega) (fun hb2 => ?_) (fun hb2 => ?_)
    · refine gg_iconst dX9_isByte_15 ?_
      refine gg_iretz dX9_isByte_16 rfl (by decide) ⟨rfl, rfl⟩ ?_
      refine ⟨rfl, ?_⟩ <;> omega
    · refine gg_iconst dX9_isByte_11 ?_
      refine gg_goto (tgt := 16) dX9_isByte_12 (by decide) ?_
      refine gg_iretz dX9_isByte_16 rfl (by decide) ⟨rfl, rfl⟩ ?_
      refine ⟨rfl, ?_⟩ <;> omega

set_option maxRecDepth 10000 in
theorem c_X9_isFormula {l : Launch} {Γ : gC} {ad : Nat → Nat} {I : Nat → Nat → Int} {J : Nat → Nat → Int64} {d : Nat} {i : Int} (hi : -2147483648 ≤ i ∧ i ≤ 2147483647) : gKi l Γ gm_X9_isFormula d [.int (iv i)] (gSS ad, I, J) (fun e μ => μ = (gSS ad, I, J) ∧ ((e = 1 ∧ (0 ≤ i ∧ i ≤ 11)) ∨ (e = 0 ∧ ¬ (0 ≤ i ∧ i ≤ 11)))) := by
  refine gKi_of gk_X9_isFormula.1 (Nat.le_of_ble_eq_true rfl) ?_
  show gG l Γ gm_X9_isFormula (d, 0, 0, 0, 0) 0 [(0, .int (iv i))] [] _ _
  refine gg_iload_n dX9_isFormula_0 0 rfl ?_
  refine gg_if_lt (tgt := 14) dX9_isFormula_1 (by decide) (by omega) (fun hb1 => ?_) (fun hb1 => ?_)
  · refine gg_iconst dX9_isFormula_14 ?_
    refine gg_iretz dX9_isFormula_15 rfl (by decide) ⟨rfl, rfl⟩ ?_
    refine ⟨rfl, ?_⟩ <;> omega
  · refine gg_iload_n dX9_isFormula_4 0 rfl ?_
    refine gg_bipush dX9_isFormula_5 (by decide) ?_
    refine gg_icmp_ge (tgt := 14) dX9_isFormula_7 (by decide) (by omega) (fun hb2 => ?_) (fun hb2 => ?_)
    · refine gg_iconst dX9_isFormula_14 ?_
      refine gg_iretz dX9_isFormula_15 rfl (by decide) ⟨rfl, rfl⟩ ?_
      refine ⟨rfl, ?_⟩ <;> omega
    · refine gg_iconst dX9_isFormula_10 ?_
      refine gg_goto (tgt := 15) dX9_isFormula_11 (by decide) ?_
      refine gg_iretz dX9_isFormula_15 rfl (by decide) ⟨rfl, rfl⟩ ?_
      refine ⟨rfl, ?_⟩ <;> omega

set_option maxRecDepth 10000 in
theorem c_X9_isName {l : Launch} {Γ : gC} {ad : Nat → Nat} {I : Nat → Nat → Int} {J : Nat → Nat → Int64} {d : Nat} {i : Int} (hi : -2147483648 ≤ i ∧ i ≤ 2147483647) : gKi l Γ gm_X9_isName d [.int (iv i)] (gSS ad, I, J) (fun e μ => μ = (gSS ad, I, J) ∧ ((e = 1 ∧ (0 ≤ i ∧ i ≤ 7)) ∨ (e = 0 ∧ ¬ (0 ≤ i ∧ i ≤ 7)))) := by
  refine gKi_of gk_X9_isName.1 (Nat.le_of_ble_eq_true rfl) ?_
  show gG l Γ gm_X9_isName (d, 0, 0, 0, 0) 0 [(0, .int (iv i))] [] _ _
  refine gg_iload_n dX9_isName_0 0 rfl ?_
  refine gg_if_lt (tgt := 14) dX9_isName_1 (by decide) (by omega) (fun hb1 => ?_) (fun hb1 => ?_)
  · refine gg_iconst dX9_isName_14 ?_
    refine gg_iretz dX9_isName_15 rfl (by decide) ⟨rfl, rfl⟩ ?_
    refine ⟨rfl, ?_⟩ <;> omega
  · refine gg_iload_n dX9_isName_4 0 rfl ?_
    refine gg_bipush dX9_isName_5 (by decide) ?_
    refine gg_icmp_ge (tgt := 14) dX9_isName_7 (by decide) (by omega) (fun hb2 => ?_) (fun hb2 => ?_)
    · refine gg_iconst dX9_isName_14 ?_
      refine gg_iretz dX9_isName_15 rfl (by decide) ⟨rfl, rfl⟩ ?_
      refine ⟨rfl, ?_⟩ <;> omega
    · refine gg_iconst dX9_isName_10 ?_
      refine gg_goto (tgt := 15) dX9_isName_11 (by decide) ?_
      refine gg_iretz dX9_isName_15 rfl (by decide) ⟨rfl, rfl⟩ ?_
      refine ⟨rfl, ?_⟩ <;> omega

set_option maxRecDepth 10000 in
theorem c_X9_isKind {l : Launch} {Γ : gC} {ad : Nat → Nat} {I : Nat → Nat → Int} {J : Nat → Nat → Int64} {d : Nat} {i : Int} (hi : -2147483648 ≤ i ∧ i ≤ 2147483647) : gKi l Γ gm_X9_isKind d [.int (iv i)] (gSS ad, I, J) (fun e μ => μ = (gSS ad, I, J) ∧ ((e = 1 ∧ (0 ≤ i ∧ i ≤ 7)) ∨ (e = 0 ∧ ¬ (0 ≤ i ∧ i ≤ 7)))) := by
  refine gKi_of gk_X9_isKind.1 (Nat.le_of_ble_eq_true rfl) ?_
  show gG l Γ gm_X9_isKind (d, 0, 0, 0, 0) 0 [(0, .int (iv i))] [] _ _
  refine gg_iload_n dX9_isKind_0 0 rfl ?_
  refine gg_if_lt (tgt := 14) dX9_isKind_1 (by decide) (by omega) (fun hb1 => ?_) (fun hb1 => ?_)
  · refine gg_iconst dX9_isKind_14 ?_
    refine gg_iretz dX9_isKind_15 rfl (by decide) ⟨rfl, rfl⟩ ?_
    refine ⟨rfl, ?_⟩ <;> omega
  · refine gg_iload_n dX9_isKind_4 0 rfl ?_
    refine gg_bipush dX9_isKind_5 (by decide) ?_
    refine gg_icmp_ge (tgt := 14) dX9_isKind_7 (by decide) (by omega) (fun hb2 => ?_) (fun hb2 => ?_)
    · refine gg_iconst dX9_isKind_14 ?_
      refine gg_iretz dX9_isKind_15 rfl (by decide) ⟨rfl, rfl⟩ ?_
      refine ⟨rfl, ?_⟩ <;> omega
    · refine gg_iconst dX9_isKind_10 ?_
      refine gg_goto (tgt := 15) dX9_isKind_11 (by decide) ?_
      refine gg_iretz dX9_isKind_15 rfl (by decide) ⟨rfl, rfl⟩ ?_
      refine ⟨rfl, ?_⟩ <;> omega

set_option maxRecDepth 10000 in
theorem c_X9_isSheet {l : Launch} {Γ : gC} {ad : Nat → Nat} {I : Nat → Nat → Int} {J : Nat → Nat → Int64} {d : Nat} {i : Int} (hi : -2147483648 ≤ i ∧ i ≤ 2147483647) : gKi l Γ gm_X9_isSheet d [.int (iv i)] (gSS ad, I, J) (fun e μ => μ = (gSS ad, I, J) ∧ ((e = 1 ∧ (0 ≤ i ∧ i ≤ 3)) ∨ (e = 0 ∧ ¬ (0 ≤ i ∧ i ≤ 3)))) := by
  refine gKi_of gk_X9_isSheet.1 (Nat.le_of_ble_eq_true rfl) ?_
  show gG l Γ gm_X9_isSheet (d, 0, 0, 0, 0) 0 [(0, .int (iv i))] [] _ _
  refine gg_iload_n dX9_isSheet_0 0 rfl ?_
  refine gg_if_lt (tgt := 13) dX9_isSheet_1 (by decide) (by omega) (fun hb1 => ?_) (fun hb1 => ?_)
  · refine gg_iconst dX9_isSheet_13 ?_
    refine gg_iretz dX9_isSheet_14 rfl (by decide) ⟨rfl, rfl⟩ ?_
    refine ⟨rfl, ?_⟩ <;> omega
  · refine gg_iload_n dX9_isSheet_4 0 rfl ?_
    refine gg_iconst dX9_isSheet_5 ?_
    refine gg_icmp_ge (tgt := 13) dX9_isSheet_6 (by decide) (by omega) (fun hb2 => ?_) (fun hb2 => ?_)
    · refine gg_iconst dX9_isSheet_13 ?_
      refine gg_iretz dX9_isSheet_14 rfl (by decide) ⟨rfl, rfl⟩ ?_
      refine ⟨rfl, ?_⟩ <;> omega
    · refine gg_iconst dX9_isSheet_9 ?_
      refine gg_goto (tgt := 14) dX9_isSheet_10 (by decide) ?_
      refine gg_iretz dX9_isSheet_14 rfl (by decide) ⟨rfl, rfl⟩ ?_
      refine ⟨rfl, ?_⟩ <;> omega

set_option maxRecDepth 10000 in
theorem c_X1_parts {l : Launch} {Γ : gC} {ad : Nat → Nat} {I : Nat → Nat → Int} {J : Nat → Nat → Int64} {d : Nat} {a n : Nat} {K : Nat → Nat} {N : Nat → Int64} {Z : Nat → Nat} (hF : gF a) (hA : gAt I J a n K N Z) (hn : n ≤ 200) {j : Nat} (hj : j < n) (hd : 2 ≤ d) (hk : K j < 8) : gKi l Γ gm_X1_parts d [.ref (gad (gSS ad) a), .int (iv (j : Int))] (gSS ad, I, J) (fun e μ => μ = (gSS ad, I, J) ∧ e = (gPar (K j) : Int)) := by
  refine gKi_of gk_X1_parts.1 (Nat.le_of_ble_eq_true rfl) ?_
  show gG l Γ gm_X1_parts (d, 0, 0, 0, 0) 0 [(0, .ref (gad (gSS ad) a)), (1, .int (iv (j : Int)))] [] _ _
  have hs := hA.1
  have hkj := hA.2 j hj
  refine gg_aload_n dX1_parts_0 0 rfl ?_
  refine gg_iload_n dX1_parts_1 1 rfl ?_
  refine gg_callVi (own := RX1) (yt := gm_X1_kind) rfl gl_RX1_30 gk_X1_kind gr_X1_kind dX1_parts_2 (c_X1_kind (d := d - 1) hF hA hn hj (by omega)) (gFsh hF) (gFlt hF) (by decide) rfl rfl rfl (Nat.le_of_ble_eq_true rfl) (by show _ ≤ d; omega) ⟨Nat.le_refl _, Nat.le_refl _⟩ (fun e1 μ' hc => ?_)
  obtain ⟨rfl, rfl⟩ := hc
  refine gg_istore_n (ls' := [(2, .int (iv (K j : Int))), (0, .ref (gad (gSS ad) a)), (1, .int (iv (j : Int)))]) dX1_parts_5 rfl (by decide) rfl ?_
  refine gg_iload_n dX1_parts_6 0 rfl ?_
  refine gg_callSNi (own := RX1) (host := RX9) (yt := gm_X9_isKind) rfl (by decide +kernel) gk_X9_isKind gr_X9_isKind dX1_parts_7 (c_X9_isKind (d := d - 1) (by omega)) rfl rfl (Nat.le_of_ble_eq_true rfl) (by show _ ≤ d; omega) ⟨Nat.le_refl _, Nat.le_refl _⟩ (fun e2 μ' hc => ?_)
  obtain ⟨rfl, ⟨rfl, hb3⟩ | ⟨rfl, hb3⟩⟩ := hc
  rotate_left
  · omega
  refine gg_if_eq_f (tgt := 21) dX1_parts_10 (by decide) (by decide) (by decide) ?_
  refine gg_parts rfl dX1_parts_13 ?_
  refine gg_iload_n dX1_parts_16 0 rfl ?_
  refine gg_parts_atj (K j) dX1_parts_17 rfl hk ?_
  refine gg_goto (tgt := 22) dX1_parts_18 (by decide) ?_
  refine gg_ireti dX1_parts_22 rfl ⟨rfl, rfl⟩ ?_
  exact ⟨rfl, gParts_eq _ hk⟩

set_option maxRecDepth 10000 in
theorem c_X1_part0 {l : Launch} {Γ : gC} {ad : Nat → Nat} {I : Nat → Nat → Int} {J : Nat → Nat → Int64} {d : Nat} {a n : Nat} {K : Nat → Nat} {N : Nat → Int64} {Z : Nat → Nat} (hF : gF a) (hA : gAt I J a n K N Z) (hn : n ≤ 200) {j : Nat} (hj : j < n) (hd : 1 ≤ d) : gKi l Γ gm_X1_part d [.ref (gad (gSS ad) a), .int (iv (j : Int)), .int (iv 0)] (gSS ad, I, J) (fun e μ => μ = (gSS ad, I, J) ∧ e = (gPt Z j 0 : Int)) := by
  refine gKi_of gk_X1_part.1 (Nat.le_of_ble_eq_true rfl) ?_
  show gG l Γ gm_X1_part (d, 0, 0, 0, 0) 0 [(0, .ref (gad (gSS ad) a)), (1, .int (iv (j : Int))), (2, .int (iv 0))] [] _ _
  have hs := hA.1
  refine gg_iload_n dX1_part_0 1 rfl ?_
  refine gg_iconst dX1_part_1 ?_
  refine gg_iadd dX1_part_2 ?_
  refine gg_istore_n (ls' := [(3, .int (iv ((j : Int) + 1))), (0, .ref (gad (gSS ad) a)), (1, .int (iv (j : Int))), (2, .int (iv 0))]) dX1_part_3 rfl (by decide) rfl ?_
  refine gg_iconst dX1_part_4 ?_
  refine gg_istore (ls' := [(4, .int (iv 0)), (3, .int (iv ((j : Int) + 1))), (0, .ref (gad (gSS ad) a)), (1, .int (iv (j : Int))), (2, .int (iv 0))]) dX1_part_5 (by decide) rfl ?_
  refine gg_iload dX1_part_7 0 rfl ?_
  refine gg_iload_n dX1_part_9 4 rfl ?_
  refine gg_icmp_ge_t (tgt := 33) dX1_part_10 (by decide) (by decide) (by decide) ?_
  refine gg_iload_n dX1_part_33 1 rfl ?_
  refine gg_ireti dX1_part_34 rfl ⟨rfl, rfl⟩ ?_
  exact ⟨rfl, by simp only [gPt]; omega⟩

set_option maxRecDepth 10000 in
theorem c_X1_part1 {l : Launch} {Γ : gC} {ad : Nat → Nat} {I : Nat → Nat → Int} {J : Nat → Nat → Int64} {d : Nat} {a n : Nat} {K : Nat → Nat} {N : Nat → Int64} {Z : Nat → Nat} (hF : gF a) (hA : gAt I J a n K N Z) (hn : n ≤ 200) {j : Nat} (h1 : j + 1 < n) (hj : j < n) (hd : 1 ≤ d) : gKi l Γ gm_X1_part d [.ref (gad (gSS ad) a), .int (iv (j : Int)), .int (iv 1)] (gSS ad, I, J) (fun e μ => μ = (gSS ad, I, J) ∧ e = (gPt Z j 1 : Int)) := by
  refine gKi_of gk_X1_part.1 (Nat.le_of_ble_eq_true rfl) ?_
  show gG l Γ gm_X1_part (d, 0, 0, 0, 0) 0 [(0, .ref (gad (gSS ad) a)), (1, .int (iv (j : Int))), (2, .int (iv 1))] [] _ _
  have hs := hA.1
  refine gg_iload_n dX1_part_0 1 rfl ?_
  refine gg_iconst dX1_part_1 ?_
  refine gg_iadd dX1_part_2 ?_
  refine gg_istore_n (ls' := [(3, .int (iv ((j : Int) + 1))), (0, .ref (gad (gSS ad) a)), (1, .int (iv (j : Int))), (2, .int (iv 1))]) dX1_part_3 rfl (by decide) rfl ?_
  refine gg_iconst dX1_part_4 ?_
  refine gg_istore (ls' := [(4, .int (iv 0)), (3, .int (iv ((j : Int) + 1))), (0, .ref (gad (gSS ad) a)), (1, .int (iv (j : Int))), (2, .int (iv 1))]) dX1_part_5 (by decide) rfl ?_
  refine gg_iload dX1_part_7 0 rfl ?_
  refine gg_iload_n dX1_part_9 4 rfl ?_
  refine gg_icmp_ge_f (tgt := 33) dX1_part_10 (by decide) (by decide) (by decide) ?_
  refine gg_iload dX1_part_13 0 rfl ?_
  refine gg_iconst dX1_part_15 ?_
  refine gg_icmp_ge_f (tgt := 33) dX1_part_16 (by decide) (by decide) (by decide) ?_
  refine gg_iload_n dX1_part_19 1 rfl ?_
  refine gg_aload_n dX1_part_20 2 rfl ?_
  refine gg_iload_n dX1_part_21 1 rfl ?_
  refine gg_callVi (own := RX1) (yt := gm_X1_nodes) rfl gl_RX1_40 gk_X1_nodes gr_X1_nodes dX1_part_22 (c_X1_nodes (d := d - 1) hF hA hn (j := j + 1) h1) (gFsh hF) (gFlt hF) (by decide) rfl rfl rfl (Nat.le_of_ble_eq_true rfl) (by show _ ≤ d; omega) ⟨Nat.le_refl _, Nat.le_refl _⟩ (fun e1 μ' hc => ?_)
  obtain ⟨rfl, rfl⟩ := hc
  refine gg_iadd dX1_part_25 ?_
  refine gg_istore_n (ls' := [(3, .int (iv (((j : Int) + 1) + (Z (j + 1) : Int)))), (4, .int (iv 0)), (0, .ref (gad (gSS ad) a)), (1, .int (iv (j : Int))), (2, .int (iv 1))]) dX1_part_26 rfl (by decide) rfl ?_
  refine gg_iincv (ls' := [(4, .int (iv 1)), (3, .int (iv (((j : Int) + 1) + (Z (j + 1) : Int)))), (0, .ref (gad (gSS ad) a)), (1, .int (iv (j : Int))), (2, .int (iv 1))]) dX1_part_27 1 rfl rfl (by decide) rfl ?_
  refine gg_goto (tgt := 7) dX1_part_30 (by decide) ?_
  refine gg_iload dX1_part_7 0 rfl ?_
  refine gg_iload_n dX1_part_9 4 rfl ?_
  refine gg_icmp_ge_t (tgt := 33) dX1_part_10 (by decide) (by decide) (by decide) ?_
  refine gg_iload_n dX1_part_33 1 rfl ?_
  refine gg_ireti dX1_part_34 rfl ⟨rfl, rfl⟩ ?_
  exact ⟨rfl, by simp only [gPt]; omega⟩

set_option maxRecDepth 10000 in
theorem c_X1_part2 {l : Launch} {Γ : gC} {ad : Nat → Nat} {I : Nat → Nat → Int} {J : Nat → Nat → Int64} {d : Nat} {a n : Nat} {K : Nat → Nat} {N : Nat → Int64} {Z : Nat → Nat} (hF : gF a) (hA : gAt I J a n K N Z) (hn : n ≤ 200) {j : Nat} (h1 : j + 1 < n) (h2 : j + 1 + Z (j + 1) < n) (hj : j < n) (hd : 1 ≤ d) : gKi l Γ gm_X1_part d [.ref (gad (gSS ad) a), .int (iv (j : Int)), .int (iv 2)] (gSS ad, I, J) (fun e μ => μ = (gSS ad, I, J) ∧ e = (gPt Z j 2 : Int)) := by
  refine gKi_of gk_X1_part.1 (Nat.le_of_ble_eq_true rfl) ?_
  show gG l Γ gm_X1_part (d, 0, 0, 0, 0) 0 [(0, .ref (gad (gSS ad) a)), (1, .int (iv (j : Int))), (2, .int (iv 2))] [] _ _
  have hs := hA.1
  refine gg_iload_n dX1_part_0 1 rfl ?_
  refine gg_iconst dX1_part_1 ?_
  refine gg_iadd dX1_part_2 ?_
  refine gg_istore_n (ls' := [(3, .int (iv ((j : Int) + 1))), (0, .ref (gad (gSS ad) a)), (1, .int (iv (j : Int))), (2, .int (iv 2))]) dX1_part_3 rfl (by decide) rfl ?_
  refine gg_iconst dX1_part_4 ?_
  refine gg_istore (ls' := [(4, .int (iv 0)), (3, .int (iv ((j : Int) + 1))), (0, .ref (gad (gSS ad) a)), (1, .int (iv (j : Int))), (2, .int (iv 2))]) dX1_part_5 (by decide) rfl ?_
  refine gg_iload dX1_part_7 0 rfl ?_
  refine gg_iload_n dX1_part_9 4 rfl ?_
  refine gg_icmp_ge_f (tgt := 33) dX1_part_10 (by decide) (by decide) (by decide) ?_
  refine gg_iload dX1_part_13 0 rfl ?_
  refine gg_iconst dX1_part_15 ?_
  refine gg_icmp_ge_f (tgt := 33) dX1_part_16 (by decide) (by decide) (by decide) ?_
  refine gg_iload_n dX1_part_19 1 rfl ?_
  refine gg_aload_n dX1_part_20 2 rfl ?_
  refine gg_iload_n dX1_part_21 1 rfl ?_
  refine gg_callVi (own := RX1) (yt := gm_X1_nodes) rfl gl_RX1_40 gk_X1_nodes gr_X1_nodes dX1_part_22 (c_X1_nodes (d := d - 1) hF hA hn (j := j + 1) h1) (gFsh hF) (gFlt hF) (by decide) rfl rfl rfl (Nat.le_of_ble_eq_true rfl) (by show _ ≤ d; omega) ⟨Nat.le_refl _, Nat.le_refl _⟩ (fun e1 μ' hc => ?_)
  obtain ⟨rfl, rfl⟩ := hc
  refine gg_iadd dX1_part_25 ?_
  refine gg_istore_n (ls' := [(3, .int (iv (((j : Int) + 1) + (Z (j + 1) : Int)))), (4, .int (iv 0)), (0, .ref (gad (gSS ad) a)), (1, .int (iv (j : Int))), (2, .int (iv 2))]) dX1_part_26 rfl (by decide) rfl ?_
  refine gg_iincv (ls' := [(4, .int (iv 1)), (3, .int (iv (((j : Int) + 1) + (Z (j + 1) : Int)))), (0, .ref (gad (gSS ad) a)), (1, .int (iv (j : Int))), (2, .int (iv 2))]) dX1_part_27 1 rfl rfl (by decide) rfl ?_
  refine gg_goto (tgt := 7) dX1_part_30 (by decide) ?_
  refine gg_iload dX1_part_7 0 rfl ?_
  refine gg_iload_n dX1_part_9 4 rfl ?_
  refine gg_icmp_ge_f (tgt := 33) dX1_part_10 (by decide) (by decide) (by decide) ?_
  refine gg_iload dX1_part_13 0 rfl ?_
  refine gg_iconst dX1_part_15 ?_
  refine gg_icmp_ge_f (tgt := 33) dX1_part_16 (by decide) (by decide) (by decide) ?_
  refine gg_iload_n dX1_part_19 1 rfl ?_
  refine gg_aload_n dX1_part_20 2 rfl ?_
  refine gg_iload_n dX1_part_21 1 rfl ?_
  refine gg_callVi (own := RX1) (yt := gm_X1_nodes) rfl gl_RX1_40 gk_X1_nodes gr_X1_nodes dX1_part_22 (c_X1_nodes (d := d - 1) hF hA hn (j := j + 1 + Z (j + 1)) h2) (gFsh hF) (gFlt hF) (by decide) rfl rfl rfl (Nat.le_of_ble_eq_true rfl) (by show _ ≤ d; omega) ⟨Nat.le_refl _, Nat.le_refl _⟩ (fun e2 μ' hc => ?_)
  obtain ⟨rfl, rfl⟩ := hc
  refine gg_iadd dX1_part_25 ?_
  refine gg_istore_n (ls' := [(3, .int (iv ((((j : Int) + 1) + (Z (j + 1) : Int)) + (Z (j + 1 + Z (j + 1)) : Int)))), (4, .int (iv 1)), (0, .ref (gad (gSS ad) a)), (1, .int (iv (j : Int))), (2, .int (iv 2))]) dX1_part_26 rfl (by decide) rfl ?_
  refine gg_iincv (ls' := [(4, .int (iv 2)), (3, .int (iv ((((j : Int) + 1) + (Z (j + 1) : Int)) + (Z (j + 1 + Z (j + 1)) : Int)))), (0, .ref (gad (gSS ad) a)), (1, .int (iv (j : Int))), (2, .int (iv 2))]) dX1_part_27 1 rfl rfl (by decide) rfl ?_
  refine gg_goto (tgt := 7) dX1_part_30 (by decide) ?_
  refine gg_iload dX1_part_7 0 rfl ?_
  refine gg_iload_n dX1_part_9 4 rfl ?_
  refine gg_icmp_ge_t (tgt := 33) dX1_part_10 (by decide) (by decide) (by decide) ?_
  refine gg_iload_n dX1_part_33 1 rfl ?_
  refine gg_ireti dX1_part_34 rfl ⟨rfl, rfl⟩ ?_
  exact ⟨rfl, by simp only [gPt]; omega⟩

set_option maxRecDepth 10000 in
theorem c_X1_clear {l : Launch} {Γ : gC} {ad : Nat → Nat} {I : Nat → Nat → Int} {J : Nat → Nat → Int64} {d : Nat} {a : Nat} (hF : gF a) : gKv l Γ gm_X1_clear d [.ref (gad (gSS ad) a)] (gSS ad, I, J) (fun μ => μ = (gSS ad, gu I a 3 0, J)) := by
  refine gKv_of gk_X1_clear.1 (Nat.le_of_ble_eq_true rfl) ?_
  show gG l Γ gm_X1_clear (d, 0, 0, 0, 0) 0 [(0, .ref (gad (gSS ad) a))] [] _ _
  refine gg_aload_n dX1_clear_0 0 rfl ?_
  refine gg_iconst dX1_clear_1 ?_
  refine gg_putI rfl gf_RX1_22 dX1_clear_2 (gFsh hF) (gFlt hF) (by decide) (by decide) (by decide) (gfit_i _) ?_
  refine gg_vretv dX1_clear_5 rfl ⟨rfl, rfl⟩ ?_
  exact rfl

set_option maxRecDepth 10000 in
theorem c_X1_add {l : Launch} {Γ : gC} {ad : Nat → Nat} {I : Nat → Nat → Int} {J : Nat → Nat → Int64} {d : Nat} {a n : Nat} {k z : Int} {x : Int64} (hF : gF a) (hs : I a 3 = (n : Int)) (hn : n < 200) : gKv l Γ gm_X1_add d [.ref (gad (gSS ad) a), .int (iv k), .long x, .int (iv z)] (gSS ad, I, J) (fun μ => μ = (gSS ad, gu (gu (gu I (a + 1) n k) (a + 3) n z) a 3 ((n : Int) + 1), gv J (a + 2) n x)) := by
  refine gKv_of gk_X1_add.1 (Nat.le_of_ble_eq_true rfl) ?_
  show gG l Γ gm_X1_add (d, 0, 0, 0, 0) 0 [(0, .ref (gad (gSS ad) a)), (1, .int (iv k)), (2, .long x), (4, .int (iv z))] [] _ _
  refine gg_aload_n dX1_add_0 0 rfl ?_
  refine gg_getI rfl gf_RX1_22 dX1_add_1 (gFsh hF) (gFlt hF) (by decide) (by decide) ?_
  refine gg_toI (b := (n : Int)) (by simp [gu, hs]) ?_
  refine gg_sipush dX1_add_4 (by decide) ?_
  refine gg_icmp_ge_f (tgt := 51) dX1_add_7 (by decide) (by omega) (by omega) ?_
  refine gg_aload_n dX1_add_10 0 rfl ?_
  refine gg_getR (k' := (a + 1)) rfl gf_RX1_9 dX1_add_11 (gFsh hF) (gFlt hF) (by decide) (by decide) (gFr0 hF) ?_
  refine gg_aload_n dX1_add_14 0 rfl ?_
  refine gg_getI rfl gf_RX1_22 dX1_add_15 (gFsh hF) (gFlt hF) (by decide) (by decide) ?_
  refine gg_toI (b := (n : Int)) (by simp [gu, hs]) ?_
  refine gg_iload_n dX1_add_18 1 rfl ?_
  refine gg_iastj n dX1_add_19 (gFs1 hF) (gFl1 hF) (by decide) rfl (by omega) ?_
  refine gg_aload_n dX1_add_20 0 rfl ?_
  refine gg_getR (k' := (a + 2)) rfl gf_RX1_15 dX1_add_21 (gFsh hF) (gFlt hF) (by decide) (by decide) (gFr1 hF) ?_
  refine gg_aload_n dX1_add_24 0 rfl ?_
  refine gg_getI rfl gf_RX1_22 dX1_add_25 (gFsh hF) (gFlt hF) (by decide) (by decide) ?_
  refine gg_toI (b := (n : Int)) (by simp [gu, hs]) ?_
  refine gg_lload_n dX1_add_28 2 rfl ?_
  refine gg_lastj n dX1_add_29 (gFs2 hF) (gFl2 hF) (by decide) rfl (by omega) ?_
  refine gg_aload_n dX1_add_30 0 rfl ?_
  refine gg_getR (k' := (a + 3)) rfl gf_RX1_19 dX1_add_31 (gFsh hF) (gFlt hF) (by decide) (by decide) (gFr2 hF) ?_
  refine gg_aload_n dX1_add_34 0 rfl ?_
  refine gg_getI rfl gf_RX1_22 dX1_add_35 (gFsh hF) (gFlt hF) (by decide) (by decide) ?_
  refine gg_toI (b := (n : Int)) (by simp [gu, hs]) ?_
  refine gg_iload dX1_add_38 3 rfl ?_
  refine gg_iastj n dX1_add_40 (gFs3 hF) (gFl3 hF) (by decide) rfl (by omega) ?_
  refine gg_aload_n dX1_add_41 0 rfl ?_
  refine gg_dup dX1_add_42 rfl ?_
  refine gg_getI rfl gf_RX1_22 dX1_add_43 (gFsh hF) (gFlt hF) (by decide) (by decide) ?_
  refine gg_toI (b := (n : Int)) (by simp [gu, hs]) ?_
  refine gg_iconst dX1_add_46 ?_
  refine gg_iadd dX1_add_47 ?_
  refine gg_putI rfl gf_RX1_22 dX1_add_48 (gFsh hF) (gFlt hF) (by decide) (by decide) (by decide) (gfit_i _) ?_
  refine gg_vretv dX1_add_51 rfl ⟨rfl, rfl⟩ ?_
  exact rfl

set_option maxRecDepth 10000 in
theorem c_X1_setNumber {l : Launch} {Γ : gC} {ad : Nat → Nat} {I : Nat → Nat → Int} {J : Nat → Nat → Int64} {d : Nat} {a n : Nat} {K : Nat → Nat} {N : Nat → Int64} {Z : Nat → Nat} (hF : gF a) (hA : gAt I J a n K N Z) (hn : n ≤ 200) {j : Nat} {x : Int64} (hj : j < n) (hd : 1 ≤ d) : gKv l Γ gm_X1_setNumber d [.ref (gad (gSS ad) a), .int (iv (j : Int)), .long x] (gSS ad, I, J) (fun μ => μ = (gSS ad, I, gv J (a + 2) j x)) := by
  refine gKv_of gk_X1_setNumber.1 (Nat.le_of_ble_eq_true rfl) ?_
  show gG l Γ gm_X1_setNumber (d, 0, 0, 0, 0) 0 [(0, .ref (gad (gSS ad) a)), (1, .int (iv (j : Int))), (2, .long x)] [] _ _
  have hs := hA.1
  refine gg_aload_n dX1_setNumber_0 0 rfl ?_
  refine gg_iload_n dX1_setNumber_1 1 rfl ?_
  refine gg_callVi (own := RX1) (yt := gm_X1_has) rfl gl_RX1_26 gk_X1_has gr_X1_has dX1_setNumber_2 (c_X1_has (d := d - 1) hF hA hn (by omega)) (gFsh hF) (gFlt hF) (by decide) rfl rfl rfl (Nat.le_of_ble_eq_true rfl) (by show _ ≤ d; omega) ⟨Nat.le_refl _, Nat.le_refl _⟩ (fun e1 μ' hc => ?_)
  obtain ⟨rfl, ⟨rfl, hb2⟩ | ⟨rfl, hb2⟩⟩ := hc
  rotate_left
  · omega
  refine gg_if_eq_f (tgt := 15) dX1_setNumber_5 (by decide) (by decide) (by decide) ?_
  refine gg_aload_n dX1_setNumber_8 0 rfl ?_
  refine gg_getR (k' := (a + 2)) rfl gf_RX1_15 dX1_setNumber_9 (gFsh hF) (gFlt hF) (by decide) (by decide) (gFr1 hF) ?_
  refine gg_iload_n dX1_setNumber_12 1 rfl ?_
  refine gg_lload_n dX1_setNumber_13 2 rfl ?_
  refine gg_lastj j dX1_setNumber_14 (gFs2 hF) (gFl2 hF) (by decide) rfl (by omega) ?_
  refine gg_vretv dX1_setNumber_15 rfl ⟨rfl, rfl⟩ ?_
  exact rfl

theorem gF_ap {a b : Nat} (ha : gF a) (hb : gF b) : b + 3 ≠ a + 1 ∧ b + 1 ≠ a + 3 ∧ b ≠ a + 1 ∧ b ≠ a + 2 ∧ b ≠ a + 3 ∧ b + 1 ≠ a ∧ b + 2 ≠ a ∧ b + 3 ≠ a ∧ b + 2 ≠ a + 1 ∧ b + 2 ≠ a + 3 ∧ b + 1 ≠ a + 2 ∧ b + 3 ≠ a + 2 := by
  obtain ⟨a0, -, -, -, -, a1, a2, a3⟩ := ha
  obtain ⟨b0, -, -, -, -, b1, b2, b3⟩ := hb
  have k : ∀ {x y : Nat} {u v : Nat × Nat}, gSh x = u → gSh y = v → u ≠ v → x ≠ y := fun h1 h2 h3 e => h3 (by rw [← h1, ← h2, e])
  have e1 : a ≠ b + 1 := k a0 b1 (by decide)
  have e2 : a ≠ b + 2 := k a0 b2 (by decide)
  have e3 : a ≠ b + 3 := k a0 b3 (by decide)
  have f1 : b ≠ a + 1 := k b0 a1 (by decide)
  have f2 : b ≠ a + 2 := k b0 a2 (by decide)
  have f3 : b ≠ a + 3 := k b0 a3 (by decide)
  omega
theorem va_cpy0 {α : Type} {f g : Nat → α} {n j : Nat} (h : j < n) : va_cpy f g 0 0 n j = f j := by simp [va_cpy, h]
set_option maxRecDepth 10000 in
theorem c_X1_become {l : Launch} {Γ : gC} {ad : Nat → Nat} {I : Nat → Nat → Int} {J : Nat → Nat → Int64} {d : Nat} {a b n : Nat} {K : Nat → Nat} {N : Nat → Int64} {Z : Nat → Nat} (hF : gF a) (hG : gF b) (hA : gAt I J b n K N Z) (hn : n ≤ 200) (hd : 1 ≤ d) : gKv l Γ gm_X1_become d [.ref (gad (gSS ad) a), .ref (gad (gSS ad) b)] (gSS ad, I, J) (fun μ => ∃ I1 J1, μ = (gSS ad, I1, J1) ∧ gAt I1 J1 a n K N Z ∧ (∀ p q, p ≠ a → p ≠ a + 1 → p ≠ a + 3 → I1 p q = I p q) ∧ (∀ q, q ≠ 3 → I1 a q = I a q) ∧ (∀ p q, p ≠ a + 2 → J1 p q = J p q)) := by
  refine gKv_of gk_X1_become.1 (Nat.le_of_ble_eq_true rfl) ?_
  show gG l Γ gm_X1_become (d, 0, 0, 0, 0) 0 [(0, .ref (gad (gSS ad) a)), (1, .ref (gad (gSS ad) b))] [] _ _
  have hs := hA.1
  have q0 : b + 3 ≠ a + 1 := (gF_ap hF hG).1
  have q1 : b ≠ a + 1 := (gF_ap hF hG).2.2.1
  have q2 : b ≠ a + 2 := (gF_ap hF hG).2.2.2.1
  have q3 : b ≠ a + 3 := (gF_ap hF hG).2.2.2.2.1
  have q4 : b + 1 ≠ a + 3 := (gF_ap hF hG).2.1
  have q5 : ¬ b + 2 = a := (gF_ap hF hG).2.2.2.2.2.2.1
  refine gg_aload_n dX1_become_0 1 rfl ?_
  refine gg_getR (k' := (b + 1)) rfl gf_RX1_9 dX1_become_1 (gFsh hG) (gFlt hG) (by decide) (by decide) (gFr0 hG) ?_
  refine gg_iconst dX1_become_4 ?_
  refine gg_aload_n dX1_become_5 0 rfl ?_
  refine gg_getR (k' := (a + 1)) rfl gf_RX1_9 dX1_become_6 (gFsh hF) (gFlt hF) (by decide) (by decide) (gFr0 hF) ?_
  refine gg_iconst dX1_become_9 ?_
  refine gg_aload_n dX1_become_10 1 rfl ?_
  refine gg_getI rfl gf_RX1_22 dX1_become_11 (gFsh hG) (gFlt hG) (by decide) (by decide) ?_
  refine gg_toI (b := (n : Int)) (by simp [gur, hs, q1, q2, q3, q4]) ?_
  refine gg_copyi rfl gl_RX1_43 dX1_become_14 (gFs1 hG) (gFl1 hG) (gFs1 hF) (gFl1 hF) (by omega) (by decide) (Nat.le_of_ble_eq_true rfl) (by omega) ⟨Nat.le_refl _, Nat.le_refl _⟩ ?_
  refine gg_aload_n dX1_become_17 1 rfl ?_
  refine gg_getR (k' := (b + 2)) rfl gf_RX1_15 dX1_become_18 (gFsh hG) (gFlt hG) (by decide) (by decide) (gFr1 hG) ?_
  refine gg_iconst dX1_become_21 ?_
  refine gg_aload_n dX1_become_22 0 rfl ?_
  refine gg_getR (k' := (a + 2)) rfl gf_RX1_15 dX1_become_23 (gFsh hF) (gFlt hF) (by decide) (by decide) (gFr1 hF) ?_
  refine gg_iconst dX1_become_26 ?_
  refine gg_aload_n dX1_become_27 1 rfl ?_
  refine gg_getI rfl gf_RX1_22 dX1_become_28 (gFsh hG) (gFlt hG) (by decide) (by decide) ?_
  refine gg_toI (b := (n : Int)) (by simp [gur, hs, q1, q2, q3, q4]) ?_
  refine gg_copyl rfl gl_RX1_43 dX1_become_31 (gFs2 hG) (gFl2 hG) (gFs2 hF) (gFl2 hF) (by omega) (by decide) (Nat.le_of_ble_eq_true rfl) (by omega) ⟨Nat.le_refl _, Nat.le_refl _⟩ ?_
  refine gg_aload_n dX1_become_34 1 rfl ?_
  refine gg_getR (k' := (b + 3)) rfl gf_RX1_19 dX1_become_35 (gFsh hG) (gFlt hG) (by decide) (by decide) (gFr2 hG) ?_
  refine gg_iconst dX1_become_38 ?_
  refine gg_aload_n dX1_become_39 0 rfl ?_
  refine gg_getR (k' := (a + 3)) rfl gf_RX1_19 dX1_become_40 (gFsh hF) (gFlt hF) (by decide) (by decide) (gFr2 hF) ?_
  refine gg_iconst dX1_become_43 ?_
  refine gg_aload_n dX1_become_44 1 rfl ?_
  refine gg_getI rfl gf_RX1_22 dX1_become_45 (gFsh hG) (gFlt hG) (by decide) (by decide) ?_
  refine gg_toI (b := (n : Int)) (by simp [gur, hs, q1, q2, q3, q4]) ?_
  refine gg_copyi rfl gl_RX1_43 dX1_become_48 (gFs3 hG) (gFl3 hG) (gFs3 hF) (gFl3 hF) (by omega) (by decide) (Nat.le_of_ble_eq_true rfl) (by omega) ⟨Nat.le_refl _, Nat.le_refl _⟩ ?_
  refine gg_aload_n dX1_become_51 0 rfl ?_
  refine gg_aload_n dX1_become_52 1 rfl ?_
  refine gg_getI rfl gf_RX1_22 dX1_become_53 (gFsh hG) (gFlt hG) (by decide) (by decide) ?_
  refine gg_toI (b := (n : Int)) (by simp [gur, hs, q1, q2, q3, q4]) ?_
  refine gg_putI rfl gf_RX1_22 dX1_become_56 (gFsh hF) (gFlt hF) (by decide) (by decide) (by decide) (gfit_i _) ?_
  refine gg_vretv dX1_become_59 rfl ⟨rfl, rfl⟩ ?_
  refine ⟨_, _, rfl, ⟨by simp [gu], fun j hj => ?_⟩, fun p q h1 h2 h3 => ?_, fun q h1 => ?_, fun p q h1 => ?_⟩
  · have hz := hA.2 j hj
    have hp : (0 : Int).toNat = 0 := rfl
    have hp2 : (n : Int).toNat = n := Int.toNat_natCast n
    refine ⟨?_, ?_, ?_⟩
    · simp [gu, gur, hp2, va_cpy, hj, hz.1]
    · simp [gvr, hp2, va_cpy, hj, hz.2.1]
    · simp [gu, gur, hp2, va_cpy, hj, hz.2.2, q0, q5]
  · simp [gu, gur, h1, h2, h3]
  · simp [gu, gur, h1]
  · simp [gvr, h1]

def gCnt (K : Nat → Nat) : Nat → Nat
  | 0 => 0
  | n + 1 => gCnt K n + (if K n = 0 then 1 else 0)
/-- where the k-th number stands -/
def gPno (K : Nat → Nat) (n : Nat) (k e : Int) : Prop := (∃ i, i < n ∧ e = (i : Int) ∧ K i = 0 ∧ (gCnt K i : Int) = k) ∨ (e = -1 ∧ ∀ i, i < n → K i = 0 → (gCnt K i : Int) ≠ k)
theorem gCnt_le (K : Nat → Nat) : ∀ n, gCnt K n ≤ n
  | 0 => Nat.le_refl _
  | n + 1 => by
    have := gCnt_le K n
    simp only [gCnt]
    split <;> omega
set_option maxRecDepth 10000 in
theorem w_X1_placeOfNumber {l : Launch} {Γ : gC} {ad : Nat → Nat} {I : Nat → Nat → Int} {J : Nat → Nat → Int64} {d : Nat} {a n : Nat} {K : Nat → Nat} {N : Nat → Int64} {Z : Nat → Nat} (hF : gF a) (hA : gAt I J a n K N Z) (hW : gWf n K N Z) {k : Int} (hk : -2147483648 ≤ k ∧ k ≤ 2147483647) : ∀ (m : Nat) (i : Nat), n - i < m → (i ≤ n) → (∀ t, t < i → K t = 0 → (gCnt K t : Int) ≠ k) → gG l Γ gm_X1_placeOfNumber (d, 0, 0, 0, 0) 4 [(3, .int (iv (i : Int))), (2, .int (iv (gCnt K i : Int))), (0, .ref (gad (gSS ad) a)), (1, .int (iv k))] [] (gSS ad, I, J) (gDi (fun e μ => μ = (gSS ad, I, J) ∧ gPno K n k e)) := by
  intro m
  induction m with
  | zero => intros; omega
  | succ m ih =>
    intro i hm hi hno
    have hs := hA.1
    have hn := hW.1
    refine gg_iload_n dX1_placeOfNumber_4 0 rfl ?_
    refine gg_aload_n dX1_placeOfNumber_5 2 rfl ?_
    refine gg_getI rfl gf_RX1_22 dX1_placeOfNumber_6 (gFsh hF) (gFlt hF) (by decide) (by decide) ?_
    refine gg_icmp_ge (tgt := 37) dX1_placeOfNumber_9 (by decide) (by omega) (fun hb => ?_) (fun hb => ?_)
    · have hin : i = n := by omega
      refine gg_iconst dX1_placeOfNumber_37 ?_
      refine gg_ireti dX1_placeOfNumber_38 rfl ⟨rfl, rfl⟩ ?_
      exact ⟨rfl, Or.inr ⟨rfl, fun t ht => hno t (by omega)⟩⟩
    · have hb1 : i < n := by omega
      have hc := gCnt_le K i
      have hz := (hA.2 i hb1).1
      refine gg_aload_n dX1_placeOfNumber_12 2 rfl ?_
      refine gg_getR (k' := (a + 1)) rfl gf_RX1_9 dX1_placeOfNumber_13 (gFsh hF) (gFlt hF) (by decide) (by decide) (gFr0 hF) ?_
      refine gg_iload_n dX1_placeOfNumber_16 0 rfl ?_
      refine gg_ialdj i dX1_placeOfNumber_17 (gFs1 hF) (gFl1 hF) (by decide) rfl (by omega) ?_
      refine gg_toI (b := (K i : Int)) hz ?_
      refine gg_if_ne (tgt := 31) dX1_placeOfNumber_18 (by decide) (by have := (hW.2.2 i hb1).1; omega) (fun hk9 => ?_) (fun hk9 => ?_)
      · have hk0 : ¬ K i = 0 := by omega
        refine gg_iincv (ls' := [(3, .int (iv ((i + 1 : Nat) : Int))), (2, .int (iv (gCnt K i : Int))), (0, .ref (gad (gSS ad) a)), (1, .int (iv k))]) dX1_placeOfNumber_31 0 rfl (by omega) (by decide) rfl ?_
        refine gg_goto (tgt := 4) dX1_placeOfNumber_34 (by decide) ?_
        rw [← show gCnt K (i + 1) = gCnt K i by simp [gCnt, hk0]]
        exact ih (i + 1) (by omega) (by omega) (fun t ht hz => by
          rcases Nat.lt_succ_iff_lt_or_eq.mp ht with h | h
          · exact hno t h hz
          · subst h
            omega)
      · have hk0 : K i = 0 := by omega
        refine gg_iload_n dX1_placeOfNumber_21 1 rfl ?_
        refine gg_iload_n dX1_placeOfNumber_22 3 rfl ?_
        refine gg_icmp_ne (tgt := 28) dX1_placeOfNumber_23 (by decide) (by omega) (fun hk1 => ?_) (fun hk1 => ?_)
        · refine gg_iincv (ls' := [(2, .int (iv (gCnt K (i + 1) : Int))), (3, .int (iv (i : Int))), (0, .ref (gad (gSS ad) a)), (1, .int (iv k))]) dX1_placeOfNumber_28 1 rfl (by simp [gCnt, hk0]) (by decide) rfl ?_
          refine gg_iincv (ls' := [(3, .int (iv ((i + 1 : Nat) : Int))), (2, .int (iv (gCnt K (i + 1) : Int))), (0, .ref (gad (gSS ad) a)), (1, .int (iv k))]) dX1_placeOfNumber_31 1 rfl (by omega) (by decide) rfl ?_
          refine gg_goto (tgt := 4) dX1_placeOfNumber_34 (by decide) ?_
          exact ih (i + 1) (by omega) (by omega) (fun t ht hz => by
            rcases Nat.lt_succ_iff_lt_or_eq.mp ht with h | h
            · exact hno t h hz
            · subst h
              omega)
        · refine gg_iload_n dX1_placeOfNumber_26 0 rfl ?_
          refine gg_ireti dX1_placeOfNumber_27 rfl ⟨rfl, rfl⟩ ?_
          exact ⟨rfl, Or.inl ⟨i, hb1, rfl, hk0, by omega⟩⟩

set_option maxRecDepth 10000 in
theorem c_X1_placeOfNumber {l : Launch} {Γ : gC} {ad : Nat → Nat} {I : Nat → Nat → Int} {J : Nat → Nat → Int64} {d : Nat} {a n : Nat} {K : Nat → Nat} {N : Nat → Int64} {Z : Nat → Nat} (hF : gF a) (hA : gAt I J a n K N Z) (hW : gWf n K N Z) {k : Int} (hk : -2147483648 ≤ k ∧ k ≤ 2147483647) : gKi l Γ gm_X1_placeOfNumber d [.ref (gad (gSS ad) a), .int (iv k)] (gSS ad, I, J) (fun e μ => μ = (gSS ad, I, J) ∧ gPno K n k e) := by
  refine gKi_of gk_X1_placeOfNumber.1 (Nat.le_of_ble_eq_true rfl) ?_
  show gG l Γ gm_X1_placeOfNumber (d, 0, 0, 0, 0) 0 [(0, .ref (gad (gSS ad) a)), (1, .int (iv k))] [] _ _
  refine gg_iconst dX1_placeOfNumber_0 ?_
  refine gg_istore_n (ls' := [(2, .int (iv 0)), (0, .ref (gad (gSS ad) a)), (1, .int (iv k))]) dX1_placeOfNumber_1 rfl (by decide) rfl ?_
  refine gg_iconst dX1_placeOfNumber_2 ?_
  refine gg_istore_n (ls' := [(3, .int (iv 0)), (2, .int (iv 0)), (0, .ref (gad (gSS ad) a)), (1, .int (iv k))]) dX1_placeOfNumber_3 rfl (by decide) rfl ?_
  refine gg_sub [0, 1, 2, 3] rfl ?_
  exact w_X1_placeOfNumber hF hA hW hk (n + 1) 0 (by omega) (by omega) (fun t ht => absurd ht (Nat.not_lt_zero _))

/-- nodes i of one and j of the other are alike -/
def gAl (K : Nat → Nat) (N : Nat → Int64) (Z : Nat → Nat) (i : Nat) (K' : Nat → Nat) (N' : Nat → Int64) (Z' : Nat → Nat) (j : Nat) : Prop := Z i = Z' j ∧ ∀ k, k < Z i → K (i + k) = K' (j + k) ∧ N (i + k) = N' (j + k)
set_option maxRecDepth 10000 in
theorem w_X1_isAlike {l : Launch} {Γ : gC} {ad : Nat → Nat} {I : Nat → Nat → Int} {J : Nat → Nat → Int64} {d : Nat} {a n b n' i j : Nat} {K K' : Nat → Nat} {N N' : Nat → Int64} {Z Z' : Nat → Nat} (hF : gF a) (hA : gAt I J a n K N Z) (hW : gWf n K N Z) (hG : gF b) (hA' : gAt I J b n' K' N' Z') (hW' : gWf n' K' N' Z') (hi : i < n) (hj : j < n') (hd : 2 ≤ d) (hz : Z i = Z' j) : ∀ (m : Nat) (k : Nat), Z i - k < m → (k ≤ Z i) → (∀ t, t < k → K (i + t) = K' (j + t) ∧ N (i + t) = N' (j + t)) → gG l Γ gm_X1_isAlike (d, 0, 0, 0, 0) 22 [(5, .int (iv (k : Int))), (4, .int (iv (Z i : Int))), (0, .ref (gad (gSS ad) a)), (1, .int (iv (i : Int))), (2, .ref (gad (gSS ad) b)), (3, .int (iv (j : Int)))] [] (gSS ad, I, J) (gDi (fun e μ => μ = (gSS ad, I, J) ∧ ((e = 1 ∧ (gAl K N Z i K' N' Z' j)) ∨ (e = 0 ∧ ¬ (gAl K N Z i K' N' Z' j))))) := by
  intro m
  induction m with
  | zero => intros; omega
  | succ m ih =>
    intro k hm hk hall
    have hs := hA.1
    have hs' := hA'.1
    have h1 := (hW.2.2 i hi).2.2.1
    have h2 := (hW'.2.2 j hj).2.2.1
    have hw1 := hW.1
    have hw2 := hW'.1
    refine gg_iload dX1_isAlike_22 0 rfl ?_
    refine gg_iload dX1_isAlike_24 1 rfl ?_
    refine gg_icmp_ge (tgt := 76) dX1_isAlike_26 (by decide) (by omega) (fun hb => ?_) (fun hb => ?_)
    · refine gg_iconst dX1_isAlike_76 ?_
      refine gg_iretz dX1_isAlike_77 rfl (by decide) ⟨rfl, rfl⟩ ?_
      exact ⟨rfl, Or.inl ⟨rfl, hz, fun t ht => hall t (by omega)⟩⟩
    · have hkz : k < Z i := by omega
      refine gg_aload_n dX1_isAlike_29 2 rfl ?_
      refine gg_iload_n dX1_isAlike_30 3 rfl ?_
      refine gg_iload dX1_isAlike_31 0 rfl ?_
      refine gg_iadd dX1_isAlike_33 ?_
      refine gg_toI (b := ((i + k : Nat) : Int)) (by omega) ?_
      refine gg_callVi (own := RX1) (yt := gm_X1_kind) rfl gl_RX1_30 gk_X1_kind gr_X1_kind dX1_isAlike_34 (c_X1_kind (d := d - 1) hF hA (hW.1) (j := i + k) (by omega) (by omega)) (gFsh hF) (gFlt hF) (by decide) rfl rfl rfl (Nat.le_of_ble_eq_true rfl) (by show _ ≤ d; omega) ⟨Nat.le_refl _, Nat.le_refl _⟩ (fun e1 μ' hc => ?_)
      obtain ⟨rfl, rfl⟩ := hc
      refine gg_aload_n dX1_isAlike_37 4 rfl ?_
      refine gg_iload_n dX1_isAlike_38 5 rfl ?_
      refine gg_iload dX1_isAlike_39 0 rfl ?_
      refine gg_iadd dX1_isAlike_41 ?_
      refine gg_toI (b := ((j + k : Nat) : Int)) (by omega) ?_
      refine gg_callVi (own := RX1) (yt := gm_X1_kind) rfl gl_RX1_30 gk_X1_kind gr_X1_kind dX1_isAlike_42 (c_X1_kind (d := d - 1) hG hA' (hW'.1) (j := j + k) (by omega) (by omega)) (gFsh hG) (gFlt hG) (by decide) rfl rfl rfl (Nat.le_of_ble_eq_true rfl) (by show _ ≤ d; omega) ⟨Nat.le_refl _, Nat.le_refl _⟩ (fun e2 μ' hc => ?_)
      obtain ⟨rfl, rfl⟩ := hc
      refine gg_icmp_ne (tgt := 68) dX1_isAlike_45 (by decide) (by have := (hW.2.2 (i + k) (by omega)).1; have := (hW'.2.2 (j + k) (by omega)).1; omega) (fun hkk => ?_) (fun hkk => ?_)
      · refine gg_iconst dX1_isAlike_68 ?_
        refine gg_iretz dX1_isAlike_69 rfl (by decide) ⟨rfl, rfl⟩ ?_
        exact ⟨rfl, Or.inr ⟨rfl, fun h => absurd (h.2 k hkz).1 (by omega)⟩⟩
      · refine gg_aload_n dX1_isAlike_48 2 rfl ?_
        refine gg_iload_n dX1_isAlike_49 3 rfl ?_
        refine gg_iload dX1_isAlike_50 0 rfl ?_
        refine gg_iadd dX1_isAlike_52 ?_
        refine gg_toI (b := ((i + k : Nat) : Int)) (by omega) ?_
        refine gg_callVl (own := RX1) (yt := gm_X1_number) rfl gl_RX1_49 gk_X1_number gr_X1_number dX1_isAlike_53 (c_X1_number (d := d - 1) hF hA (hW.1) (j := i + k) (by omega) (by omega)) (gFsh hF) (gFlt hF) (by decide) rfl rfl rfl (Nat.le_of_ble_eq_true rfl) (by show _ ≤ d; omega) ⟨Nat.le_refl _, Nat.le_refl _⟩ (fun e3 μ' hc => ?_)
        obtain ⟨rfl, rfl⟩ := hc
        refine gg_aload_n dX1_isAlike_56 4 rfl ?_
        refine gg_iload_n dX1_isAlike_57 5 rfl ?_
        refine gg_iload dX1_isAlike_58 0 rfl ?_
        refine gg_iadd dX1_isAlike_60 ?_
        refine gg_toI (b := ((j + k : Nat) : Int)) (by omega) ?_
        refine gg_callVl (own := RX1) (yt := gm_X1_number) rfl gl_RX1_49 gk_X1_number gr_X1_number dX1_isAlike_61 (c_X1_number (d := d - 1) hG hA' (hW'.1) (j := j + k) (by omega) (by omega)) (gFsh hG) (gFlt hG) (by decide) rfl rfl rfl (Nat.le_of_ble_eq_true rfl) (by show _ ≤ d; omega) ⟨Nat.le_refl _, Nat.le_refl _⟩ (fun e4 μ' hc => ?_)
        obtain ⟨rfl, rfl⟩ := hc
        refine gg_lcmp_eq (tgt := 70) dX1_isAlike_64 dX1_isAlike_65 (by decide) (fun hnn => ?_) (fun hnn => ?_)
        · refine gg_iincv (ls' := [(5, .int (iv ((k + 1 : Nat) : Int))), (4, .int (iv (Z i : Int))), (0, .ref (gad (gSS ad) a)), (1, .int (iv (i : Int))), (2, .ref (gad (gSS ad) b)), (3, .int (iv (j : Int)))]) dX1_isAlike_70 0 rfl (by omega) (by decide) rfl ?_
          refine gg_goto (tgt := 22) dX1_isAlike_73 (by decide) ?_
          exact ih (k + 1) (by omega) (by omega) (fun t ht => by
            rcases Nat.lt_succ_iff_lt_or_eq.mp ht with h | h
            · exact hall t h
            · subst h
              exact ⟨by omega, hnn⟩)
        · refine gg_iconst dX1_isAlike_68 ?_
          refine gg_iretz dX1_isAlike_69 rfl (by decide) ⟨rfl, rfl⟩ ?_
          exact ⟨rfl, Or.inr ⟨rfl, fun h => hnn (h.2 k hkz).2⟩⟩

set_option maxRecDepth 10000 in
theorem c_X1_isAlike {l : Launch} {Γ : gC} {ad : Nat → Nat} {I : Nat → Nat → Int} {J : Nat → Nat → Int64} {d : Nat} {a n b n' i j : Nat} {K K' : Nat → Nat} {N N' : Nat → Int64} {Z Z' : Nat → Nat} (hF : gF a) (hA : gAt I J a n K N Z) (hW : gWf n K N Z) (hG : gF b) (hA' : gAt I J b n' K' N' Z') (hW' : gWf n' K' N' Z') (hi : i < n) (hj : j < n') (hd : 2 ≤ d) : gKi l Γ gm_X1_isAlike d [.ref (gad (gSS ad) a), .int (iv (i : Int)), .ref (gad (gSS ad) b), .int (iv (j : Int))] (gSS ad, I, J) (fun e μ => μ = (gSS ad, I, J) ∧ ((e = 1 ∧ (gAl K N Z i K' N' Z' j)) ∨ (e = 0 ∧ ¬ (gAl K N Z i K' N' Z' j)))) := by
  refine gKi_of gk_X1_isAlike.1 (Nat.le_of_ble_eq_true rfl) ?_
  show gG l Γ gm_X1_isAlike (d, 0, 0, 0, 0) 0 [(0, .ref (gad (gSS ad) a)), (1, .int (iv (i : Int))), (2, .ref (gad (gSS ad) b)), (3, .int (iv (j : Int)))] [] _ _
  have h1 := (hW.2.2 i hi).2.2.1
  have h2 := (hW'.2.2 j hj).2.2.1
  have hw1 := hW.1
  have hw2 := hW'.1
  refine gg_aload_n dX1_isAlike_0 0 rfl ?_
  refine gg_iload_n dX1_isAlike_1 1 rfl ?_
  refine gg_callVi (own := RX1) (yt := gm_X1_nodes) rfl gl_RX1_40 gk_X1_nodes gr_X1_nodes dX1_isAlike_2 (c_X1_nodes (d := d - 1) hF hA (hW.1) (j := i) hi) (gFsh hF) (gFlt hF) (by decide) rfl rfl rfl (Nat.le_of_ble_eq_true rfl) (by show _ ≤ d; omega) ⟨Nat.le_refl _, Nat.le_refl _⟩ (fun e1 μ' hc => ?_)
  obtain ⟨rfl, rfl⟩ := hc
  refine gg_istore (ls' := [(4, .int (iv (Z i : Int))), (0, .ref (gad (gSS ad) a)), (1, .int (iv (i : Int))), (2, .ref (gad (gSS ad) b)), (3, .int (iv (j : Int)))]) dX1_isAlike_5 (by decide) rfl ?_
  refine gg_iload dX1_isAlike_7 0 rfl ?_
  refine gg_aload_n dX1_isAlike_9 3 rfl ?_
  refine gg_iload_n dX1_isAlike_10 4 rfl ?_
  refine gg_callVi (own := RX1) (yt := gm_X1_nodes) rfl gl_RX1_40 gk_X1_nodes gr_X1_nodes dX1_isAlike_11 (c_X1_nodes (d := d - 1) hG hA' (hW'.1) (j := j) hj) (gFsh hG) (gFlt hG) (by decide) rfl rfl rfl (Nat.le_of_ble_eq_true rfl) (by show _ ≤ d; omega) ⟨Nat.le_refl _, Nat.le_refl _⟩ (fun e2 μ' hc => ?_)
  obtain ⟨rfl, rfl⟩ := hc
  refine gg_icmp_eq (tgt := 19) dX1_isAlike_14 (by decide) (by omega) (fun hz => ?_) (fun hz => ?_)
  · refine gg_iconst dX1_isAlike_19 ?_
    refine gg_istore (ls' := [(5, .int (iv 0)), (4, .int (iv (Z i : Int))), (0, .ref (gad (gSS ad) a)), (1, .int (iv (i : Int))), (2, .ref (gad (gSS ad) b)), (3, .int (iv (j : Int)))]) dX1_isAlike_20 (by decide) rfl ?_
    refine gg_sub [0, 1, 2, 3, 4, 5] rfl ?_
    exact w_X1_isAlike hF hA hW hG hA' hW' hi hj hd (by omega) (Z i + 1) 0 (by omega) (by omega) (fun t ht => absurd ht (Nat.not_lt_zero _))
  · refine gg_iconst dX1_isAlike_17 ?_
    refine gg_iretz dX1_isAlike_18 rfl (by decide) ⟨rfl, rfl⟩ ?_
    exact ⟨rfl, Or.inr ⟨rfl, fun h => hz (by have := h.1; omega)⟩⟩

