/-! Formula: a row of nodes at a, a + 1 (kinds), a + 2 (numbers), a + 3 (sizes).
 A row: n nodes, their kinds K, numbers N, sizes Z -/
def gAt (I : Nat → Nat → Int) (J : Nat → Nat → Int64) (a n : Nat) (K : Nat → Nat) (N : Nat → Int64) (Z : Nat → Nat) : Prop := I a 3 = (n : Int) ∧ ∀ j, j < n → I (a + 1) j = (K j : Int) ∧ J (a + 2) j = N j ∧ I (a + 3) j = (Z j : Int)
def gPar (k : Nat) : Nat := match k with | 2 => 1 | 3 => 2 | 4 => 2 | 5 => 1 | 6 => 3 | 7 => 1 | _ => 0
theorem gParts_eq : ∀ k, k < 8 → gParts k = (gPar k : Int) := by decide
/-- where part w of node j begins -/
def gPt (Z : Nat → Nat) (j w : Nat) : Nat := match w with | 0 => j + 1 | 1 => j + 1 + Z (j + 1) | _ => j + 1 + Z (j + 1) + Z (j + 1 + Z (j + 1))
/-- a row that is a tree's: sizes are those of the parts and one, numbers of names and powers are small -/
def gWf (n : Nat) (K : Nat → Nat) (N : Nat → Int64) (Z : Nat → Nat) : Prop := n ≤ 200 ∧ (0 < n → Z 0 = n) ∧ ∀ j, j < n → K j < 8 ∧ 1 ≤ Z j ∧ j + Z j ≤ n ∧
  (gPar (K j) = 0 → Z j = 1) ∧ (gPar (K j) = 1 → Z j = 1 + Z (j + 1)) ∧ (gPar (K j) = 2 → Z j = 1 + Z (j + 1) + Z (gPt Z j 1)) ∧ (gPar (K j) = 3 → Z j = 1 + Z (j + 1) + Z (gPt Z j 1) + Z (gPt Z j 2)) ∧
  (1 ≤ gPar (K j) → j + 1 < n) ∧ (2 ≤ gPar (K j) → gPt Z j 1 < n) ∧ (3 ≤ gPar (K j) → gPt Z j 2 < n) ∧
  (K j = 1 → ∃ m : Nat, m < 8 ∧ N j = Int64.ofNat m) ∧ (K j = 5 → ∃ m : Nat, m < 10 ∧ N j = Int64.ofNat m) ∧ (K j ≠ 0 → K j ≠ 1 → K j ≠ 5 → N j = 0)

set_option maxRecDepth 10000 in
theorem c_X1_size {l : Launch} {Γ : gC} {ad : Nat → Nat} {I : Nat → Nat → Int} {J : Nat → Nat → Int64} {d : Nat} {a n : Nat} {K : Nat → Nat} {N : Nat → Int64} {Z : Nat → Nat} (hF : gF a) (hA : gAt I J a n K N Z) : gKi l Γ gm_X1_size d [.ref (gad (gSS ad) a)] (gSS ad, I, J) (fun e μ => μ = (gSS ad, I, J) ∧ e = (n : Int)) := by
  refine gKi_of gk_X1_size.1 (Nat.le_of_ble_eq_true rfl) ?_
  show gG l Γ gm_X1_size (d, 0, 0, 0, 0) 0 [(0, .ref (gad (gSS ad) a))] [] _ _
  have hs := hA.1
  refine gg_aload_n dX1_size_0 0 rfl ?_
  refine gg_getI rfl gf_RX1_22 dX1_size_1 (gFsh hF) (gFlt hF) (by decide) (by decide) ?_
  refine gg_ireti dX1_size_4 rfl ⟨rfl, rfl⟩ ?_
  exact ⟨rfl, hs⟩

set_option maxRecDepth 10000 in
theorem c_X1_isEmpty {l : Launch} {Γ : gC} {ad : Nat → Nat} {I : Nat → Nat → Int} {J : Nat → Nat → Int64} {d : Nat} {a n : Nat} {K : Nat → Nat} {N : Nat → Int64} {Z : Nat → Nat} (hF : gF a) (hA : gAt I J a n K N Z) (hn : n ≤ 200) : gKi l Γ gm_X1_isEmpty d [.ref (gad (gSS ad) a)] (gSS ad, I, J) (fun e μ => μ = (gSS ad, I, J) ∧ ((e = 1 ∧ n = 0) ∨ (e = 0 ∧ ¬ n = 0))) := by
  refine gKi_of gk_X1_isEmpty.1 (Nat.le_of_ble_eq_true rfl) ?_
  show gG l Γ gm_X1_isEmpty (d, 0, 0, 0, 0) 0 [(0, .ref (gad (gSS ad) a))] [] _ _
  have hs := hA.1
  refine gg_aload_n dX1_isEmpty_0 0 rfl ?_
  refine gg_getI rfl gf_RX1_22 dX1_isEmpty_1 (gFsh hF) (gFlt hF) (by decide) (by decide) ?_
  refine gg_if_ne (tgt := 11) dX1_isEmpty_4 (by decide) (by omega) (fun hb1 => ?_) (fun hb1 => ?_)
  · refine gg_iconst dX1_isEmpty_11 ?_
    refine gg_iretz dX1_isEmpty_12 rfl (by decide) ⟨rfl, rfl⟩ ?_
    refine ⟨rfl, ?_⟩ <;> omega
  · refine gg_iconst dX1_isEmpty_7 ?_
    refine gg_goto (tgt := 12) dX1_isEmpty_8 (by decide) ?_
    refine gg_iretz dX1_isEmpty_12 rfl (by decide) ⟨rfl, rfl⟩ ?_
    refine ⟨rfl, ?_⟩ <;> omega

set_option maxRecDepth 10000 in
theorem c_X1_has {l : Launch} {Γ : gC} {ad : Nat → Nat} {I : Nat → Nat → Int} {J : Nat → Nat → Int64} {d : Nat} {a n : Nat} {K : Nat → Nat} {N : Nat → Int64} {Z : Nat → Nat} (hF : gF a) (hA : gAt I J a n K N Z) (hn : n ≤ 200) {i : Int} (hi : -2147483648 ≤ i ∧ i ≤ 2147483647) : gKi l Γ gm_X1_has d [.ref (gad (gSS ad) a), .int (iv i)] (gSS ad, I, J) (fun e μ => μ = (gSS ad, I, J) ∧ ((e = 1 ∧ (0 ≤ i ∧ i < (n : Int))) ∨ (e = 0 ∧ ¬ (0 ≤ i ∧ i < (n : Int))))) := by
  refine gKi_of gk_X1_has.1 (Nat.le_of_ble_eq_true rfl) ?_
  show gG l Γ gm_X1_has (d, 0, 0, 0, 0) 0 [(0, .ref (gad (gSS ad) a)), (1, .int (iv i))] [] _ _
  have hs := hA.1
  refine gg_iload_n dX1_has_0 1 rfl ?_
  refine gg_if_lt (tgt := 16) dX1_has_1 (by decide) (by omega) (fun hb1 => ?_) (fun hb1 => ?_)
  · refine gg_iconst dX1_has_16 ?_
    refine gg_iretz dX1_has_17 rfl (by decide) ⟨rfl, rfl⟩ ?_
    refine ⟨rfl, ?_⟩ <;> omega
  · refine gg_iload_n dX1_has_4 1 rfl ?_
    refine gg_aload_n dX1_has_5 0 rfl ?_
    refine gg_getI rfl gf_RX1_22 dX1_has_6 (gFsh hF) (gFlt hF) (by decide) (by decide) ?_
    refine gg_icmp_ge (tgt := 16) dX1_has_9 (by decide) (by omega) (fun hb2 => ?_) (fun hb2 => ?_)
    · refine gg_iconst dX1_has_16 ?_
      refine gg_iretz dX1_has_17 rfl (by decide) ⟨rfl, rfl⟩ ?_
      refine ⟨rfl, ?_⟩ <;> omega
    · refine gg_iconst dX1_has_12 ?_
      refine gg_goto (tgt := 17) dX1_has_13 (by decide) ?_
      refine gg_iretz dX1_has_17 rfl (by decide) ⟨rfl, rfl⟩ ?_
      refine ⟨rfl, ?_⟩ <;> omega

set_option maxRecDepth 10000 in
theorem c_X1_kind {l : Launch} {Γ : gC} {ad : Nat → Nat} {I : Nat → Nat → Int} {J : Nat → Nat → Int64} {d : Nat} {a n : Nat} {K : Nat → Nat} {N : Nat → Int64} {Z : Nat → Nat} (hF : gF a) (hA : gAt I J a n K N Z) (hn : n ≤ 200) {j : Nat} (hj : j < n) (hd : 1 ≤ d) : gKi l Γ gm_X1_kind d [.ref (gad (gSS ad) a), .int (iv (j : Int))] (gSS ad, I, J) (fun e μ => μ = (gSS ad, I, J) ∧ e = (K j : Int)) := by
  refine gKi_of gk_X1_kind.1 (Nat.le_of_ble_eq_true rfl) ?_
  show gG l Γ gm_X1_kind (d, 0, 0, 0, 0) 0 [(0, .ref (gad (gSS ad) a)), (1, .int (iv (j : Int)))] [] _ _
  have hs := hA.1
  have hkj := hA.2 j hj
  refine gg_aload_n dX1_kind_0 0 rfl ?_
  refine gg_iload_n dX1_kind_1 1 rfl ?_
  refine gg_callVi (own := RX1) (yt := gm_X1_has) rfl gl_RX1_26 gk_X1_has gr_X1_has dX1_kind_2 (c_X1_has (d := d - 1) hF hA hn (by omega)) (gFsh hF) (gFlt hF) (by decide) rfl rfl rfl (Nat.le_of_ble_eq_true rfl) (by show _ ≤ d; omega) ⟨Nat.le_refl _, Nat.le_refl _⟩ (fun e1 μ' hc => ?_)
  obtain ⟨rfl, ⟨rfl, hb2⟩ | ⟨rfl, hb2⟩⟩ := hc
  rotate_left
  · omega
  refine gg_if_eq_f (tgt := 17) dX1_kind_5 (by decide) (by decide) (by decide) ?_
  refine gg_aload_n dX1_kind_8 0 rfl ?_
  refine gg_getR (k' := (a + 1)) rfl gf_RX1_9 dX1_kind_9 (gFsh hF) (gFlt hF) (by decide) (by decide) (gFr0 hF) ?_
  refine gg_iload_n dX1_kind_12 1 rfl ?_
  refine gg_ialdj j dX1_kind_13 (gFs1 hF) (gFl1 hF) (by decide) rfl (by omega) ?_
  refine gg_goto (tgt := 18) dX1_kind_14 (by decide) ?_
  refine gg_ireti dX1_kind_18 rfl ⟨rfl, rfl⟩ ?_
  exact ⟨rfl, hkj.1⟩

set_option maxRecDepth 10000 in
theorem c_X1_number {l : Launch} {Γ : gC} {ad : Nat → Nat} {I : Nat → Nat → Int} {J : Nat → Nat → Int64} {d : Nat} {a n : Nat} {K : Nat → Nat} {N : Nat → Int64} {Z : Nat → Nat} (hF : gF a) (hA : gAt I J a n K N Z) (hn : n ≤ 200) {j : Nat} (hj : j < n) (hd : 1 ≤ d) : gKl l Γ gm_X1_number d [.ref (gad (gSS ad) a), .int (iv (j : Int))] (gSS ad, I, J) (fun e μ => μ = (gSS ad, I, J) ∧ e = N j) := by
  refine gKl_of gk_X1_number.1 (Nat.le_of_ble_eq_true rfl) ?_
  show gG l Γ gm_X1_number (d, 0, 0, 0, 0) 0 [(0, .ref (gad (gSS ad) a)), (1, .int (iv (j : Int)))] [] _ _
  have hs := hA.1
  have hkj := hA.2 j hj
  refine gg_aload_n dX1_number_0 0 rfl ?_
  refine gg_iload_n dX1_number_1 1 rfl ?_
  refine gg_callVi (own := RX1) (yt := gm_X1_has) rfl gl_RX1_26 gk_X1_has gr_X1_has dX1_number_2 (c_X1_has (d := d - 1) hF hA hn (by omega)) (gFsh hF) (gFlt hF) (by decide) rfl rfl rfl (Nat.le_of_ble_eq_true rfl) (by show _ ≤ d; omega) ⟨Nat.le_refl _, Nat.le_refl _⟩ (fun e1 μ' hc => ?_)
  obtain ⟨rfl, ⟨rfl, hb2⟩ | ⟨rfl, hb2⟩⟩ := hc
  rotate_left
  · omega
  refine gg_if_eq_f (tgt := 17) dX1_number_5 (by decide) (by decide) (by decide) ?_
  refine gg_aload_n dX1_number_8 0 rfl ?_
  refine gg_getR (k' := (a + 2)) rfl gf_RX1_15 dX1_number_9 (gFsh hF) (gFlt hF) (by decide) (by decide) (gFr1 hF) ?_
  refine gg_iload_n dX1_number_12 1 rfl ?_
  refine gg_laldj j dX1_number_13 (gFs2 hF) (gFl2 hF) (by decide) rfl (by omega) ?_
  refine gg_goto (tgt := 18) dX1_number_14 (by decide) ?_
  refine gg_lretl dX1_number_18 rfl ⟨rfl, rfl⟩ ?_
  exact ⟨rfl, hkj.2.1⟩

set_option maxRecDepth 10000 in
theorem c_X1_nodes {l : Launch} {Γ : gC} {ad : Nat → Nat} {I : Nat → Nat → Int} {J : Nat → Nat → Int64} {d : Nat} {a n : Nat} {K : Nat → Nat} {N : Nat → Int64} {Z : Nat → Nat} (hF : gF a) (hA : gAt I J a n K N Z) (hn : n ≤ 200) {j : Nat} (hj : j < n) : gKi l Γ gm_X1_nodes d [.ref (gad (gSS ad) a), .int (iv (j : Int))] (gSS ad, I, J) (fun e μ => μ = (gSS ad, I, J) ∧ e = (Z j : Int)) := by
  refine gKi_of gk_X1_nodes.1 (Nat.le_of_ble_eq_true rfl) ?_
  show gG l Γ gm_X1_nodes (d, 0, 0, 0, 0) 0 [(0, .ref (gad (gSS ad) a)), (1, .int (iv (j : Int)))] [] _ _
  have hs := hA.1
  have hkj := hA.2 j hj
  refine gg_iload_n dX1_nodes_0 1 rfl ?_
  refine gg_if_lt_f (tgt := 21) dX1_nodes_1 (by decide) (by omega) (by omega) ?_
  refine gg_iload_n dX1_nodes_4 1 rfl ?_
  refine gg_aload_n dX1_nodes_5 0 rfl ?_
  refine gg_getI rfl gf_RX1_22 dX1_nodes_6 (gFsh hF) (gFlt hF) (by decide) (by decide) ?_
  refine gg_icmp_ge_f (tgt := 21) dX1_nodes_9 (by decide) (by omega) (by omega) ?_
  refine gg_aload_n dX1_nodes_12 0 rfl ?_
  refine gg_getR (k' := (a + 3)) rfl gf_RX1_19 dX1_nodes_13 (gFsh hF) (gFlt hF) (by decide) (by decide) (gFr2 hF) ?_
  refine gg_iload_n dX1_nodes_16 1 rfl ?_
  refine gg_ialdj j dX1_nodes_17 (gFs3 hF) (gFl3 hF) (by decide) rfl (by omega) ?_
  refine gg_goto (tgt := 22) dX1_nodes_18 (by decide) ?_
  refine gg_ireti dX1_nodes_22 rfl ⟨rfl, rfl⟩ ?_
  exact ⟨rfl, hkj.2.2⟩

set_option maxRecDepth 10000 in
theorem c_X9_isByte {l : Launch} {Γ : gC} {ad : Nat → Nat} {I : Nat → Nat → Int} {J : Nat → Nat → Int64} {d : Nat} {i : Int} (hi : -2147483648 ≤ i ∧ i ≤ 2147483647) : gKi l Γ gm_X9_isByte d [.int (iv i)] (gSS ad, I, J) (fun e μ => μ = (gSS ad, I, J) ∧ ((e = 1 ∧ (0 ≤ i ∧ i ≤ 255)) ∨ (e = 0 ∧ ¬ (0 ≤ i ∧ i ≤ 255)))) := by
  refine gKi_of gk_X9_isByte.1 (Nat.le_of_ble_eq_true rfl) ?_
  show gG l Γ gm_X9_isByte (d, 0, 0, 0, 0) 0 [(0, .int (iv i))] [] _ _
  refine gg_iload_n dX9_isByte_0 0 rfl ?_
  refine gg_if_lt (tgt := 15) dX9_isByte_1 (by decide) (by omega) (fun hb1 => ?_) (fun hb1 => ?_)
  · refine gg_iconst dX9_isByte_15 ?_
    refine gg_iretz dX9_isByte_16 rfl (by decide) ⟨rfl, rfl⟩ ?_
    refine ⟨rfl, ?_⟩ <;> omega
  · refine gg_iload_n dX9_isByte_4 0 rfl ?_
    refine gg_sipush dX9_isByte_5 (by decide) ?_
    refine gg_icmp_gt (tgt := 15) dX9_isByte_8 (by decide) (by omega) (fun hb2 => ?_) (fun hb2 => ?_)
    · refine gg_iconst dX9_isByte_15 ?_
      refine gg_iretz dX9_isByte_16 rfl (by decide) ⟨rfl, rfl⟩ ?_
      refine ⟨rfl, ?_⟩ <;> omega
    · refine gg_iconst dX9_isByte_11 ?_
      refine gg_goto (tgt := 16) dX9_isByte_12 (by decide) ?_
      refine gg_iretz dX9_isByte_16 rfl (by decide) ⟨rfl, rfl⟩ ?_
      refine ⟨rfl, ?_⟩ <;> omega

set_option maxRecDepth 10000 in
theorem c_X9_isFormula {l : Launch} {Γ : gC} {ad : Nat → Nat} {I : Nat → Nat → Int} {J : Nat → Nat → Int64} {d : Nat} {i : Int} (hi : -2147483648 ≤ i ∧ i ≤ 2147483647) : gKi l Γ gm_X9_isFormula d [.int (iv i)] (gSS ad, I, J) (fun e μ => μ = (gSS ad, I, J) ∧ ((e = 1 ∧ (0 ≤ i ∧ i ≤ 11)) ∨ (e = 0 ∧ ¬ (0 ≤ i ∧ i ≤ 11)))) := by
  refine gKi_of gk_X9_isFormula.1 (Nat.le_of_ble_eq_true rfl) ?_
  show gG l Γ gm_X9_isFormula (d, 0, 0, 0, 0) 0 [(0, .int (iv i))] [] _ _
  refine gg_iload_n dX9_isFormula_0 0 rfl ?_
  refine gg_if_lt (tgt := 14) dX9_isFormula_1 (by decide) (by omega) (fun hb1 => ?_) (fun hb1 => ?_)
  · refine gg_iconst dX9_isFormula_14 ?_
    refine gg_iretz dX9_isFormula_15 rfl (by decide) ⟨rfl, rfl⟩ ?_
    refine ⟨rfl, ?_⟩ <;> omega
  · refine gg_iload_n dX9_isFormula_4 0 rfl ?_
    refine gg_bipush dX9_isFormula_5 (by decide) ?_
    refine gg_icmp_ge (tgt := 14) dX9_isFormula_7 (by decide) (by omega) (fun hb2 => ?_) (fun hb2 => ?_)
    · refine gg_iconst dX9_isFormula_14 ?_
      refine gg_iretz dX9_isFormula_15 rfl (by decide) ⟨rfl, rfl⟩ ?_
      refine ⟨rfl, ?_⟩ <;> omega
    · refine gg_iconst dX9_isFormula_10 ?_
      refine gg_goto (tgt := 15) dX9_isFormula_11 (by decide) ?_
      refine gg_iretz dX9_isFormula_15 rfl (by decide) ⟨rfl, rfl⟩ ?_
      refine ⟨rfl, ?_⟩ <;> omega

set_option maxRecDepth 10000 in
theorem c_X9_isName {l : Launch} {Γ : gC} {ad : Nat → Nat} {I : Nat → Nat → Int} {J : Nat → Nat → Int64} {d : Nat} {i : Int} (hi : -2147483648 ≤ i ∧ i ≤ 2147483647) : gKi l Γ gm_X9_isName d [.int (iv i)] (gSS ad, I, J) (fun e μ => μ = (gSS ad, I, J) ∧ ((e = 1 ∧ (0 ≤ i ∧ i ≤ 7)) ∨ (e = 0 ∧ ¬ (0 ≤ i ∧ i ≤ 7)))) := by
  refine gKi_of gk_X9_isName.1 (Nat.le_of_ble_eq_true rfl) ?_
  show gG l Γ gm_X9_isName (d, 0, 0, 0, 0) 0 [(0, .int (iv i))] [] _ _
  refine gg_iload_n dX9_isName_0 0 rfl ?_
  refine gg_if_lt (tgt := 14) dX9_isName_1 (by decide) (by omega) (fun hb1 => ?_) (fun hb1 => ?_)
  · refine gg_iconst dX9_isName_14 ?_
    refine gg_iretz dX9_isName_15 rfl (by decide) ⟨rfl, rfl⟩ ?_
    refine ⟨rfl, ?_⟩ <;> omega
  · refine gg_iload_n dX9_isName_4 0 rfl ?_
    refine gg_bipush dX9_isName_5 (by decide) ?_
    refine gg_icmp_ge (tgt := 14) dX9_isName_7 (by decide) (by omega) (fun hb2 => ?_) (fun hb2 => ?_)
    · refine gg_iconst dX9_isName_14 ?_
      refine gg_iretz dX9_isName_15 rfl (by decide) ⟨rfl, rfl⟩ ?_
      refine ⟨rfl, ?_⟩ <;> omega
    · refine gg_iconst dX9_isName_10 ?_
      refine gg_goto (tgt := 15) dX9_isName_11 (by decide) ?_
      refine gg_iretz dX9_isName_15 rfl (by decide) ⟨rfl, rfl⟩ ?_
      refine ⟨rfl, ?_⟩ <;> omega

set_option maxRecDepth 10000 in
theorem c_X9_isKind {l : Launch} {Γ : gC} {ad : Nat → Nat} {I : Nat → Nat → Int} {J : Nat → Nat → Int64} {d : Nat} {i : Int} (hi : -2147483648 ≤ i ∧ i ≤ 2147483647) : gKi l Γ gm_X9_isKind d [.int (iv i)] (gSS ad, I, J) (fun e μ => μ = (gSS ad, I, J) ∧ ((e = 1 ∧ (0 ≤ i ∧ i ≤ 7)) ∨ (e = 0 ∧ ¬ (0 ≤ i ∧ i ≤ 7)))) := by
  refine gKi_of gk_X9_isKind.1 (Nat.le_of_ble_eq_true rfl) ?_
  show gG l Γ gm_X9_isKind (d, 0, 0, 0, 0) 0 [(0, .int (iv i))] [] _ _
  refine gg_iload_n dX9_isKind_0 0 rfl ?_
  refine gg_if_lt (tgt := 14) dX9_isKind_1 (by decide) (by omega) (fun hb1 => ?_) (fun hb1 => ?_)
  · refine gg_iconst dX9_isKind_14 ?_
    refine gg_iretz dX9_isKind_15 rfl (by decide) ⟨rfl, rfl⟩ ?_
    refine ⟨rfl, ?_⟩ <;> omega
  · refine gg_iload_n dX9_isKind_4 0 rfl ?_
    refine gg_bipush dX9_isKind_5 (by decide) ?_
    refine gg_icmp_ge (tgt := 14) dX9_isKind_7 (by decide) (by omega) (fun hb2 => ?_) (fun hb2 => ?_)
    · refine gg_iconst dX9_isKind_14 ?_
      refine gg_iretz dX9_isKind_15 rfl (by decide) ⟨rfl, rfl⟩ ?_
      refine ⟨rfl, ?_⟩ <;> omega
    · refine gg_iconst dX9_isKind_10 ?_
      refine gg_goto (tgt := 15) dX9_isKind_11 (by decide) ?_
      refine gg_iretz dX9_isKind_15 rfl (by decide) ⟨rfl, rfl⟩ ?_
      refine ⟨rfl, ?_⟩ <;> omega

set_option maxRecDepth 10000 in
theorem c_X9_isSheet {l : Launch} {Γ : gC} {ad : Nat → Nat} {I : Nat → Nat → Int} {J : Nat → Nat → Int64} {d : Nat} {i : Int} (hi : -2147483648 ≤ i ∧ i ≤ 2147483647) : gKi l Γ gm_X9_isSheet d [.int (iv i)] (gSS ad, I, J) (fun e μ => μ = (gSS ad, I, J) ∧ ((e = 1 ∧ (0 ≤ i ∧ i ≤ 3)) ∨ (e = 0 ∧ ¬ (0 ≤ i ∧ i ≤ 3)))) := by
  refine gKi_of gk_X9_isSheet.1 (Nat.le_of_ble_eq_true rfl) ?_
  show gG l Γ gm_X9_isSheet (d, 0, 0, 0, 0) 0 [(0, .int (iv i))] [] _ _
  refine gg_iload_n dX9_isSheet_0 0 rfl ?_
  refine gg_if_lt (tgt := 13) dX9_isSheet_1 (by decide) (by omega) (fun hb1 => ?_) (fun hb1 => ?_)
  · refine gg_iconst dX9_isSheet_13 ?_
    refine gg_iretz dX9_isSheet_14 rfl (by decide) ⟨rfl, rfl⟩ ?_
    refine ⟨rfl, ?_⟩ <;> omega
  · refine gg_iload_n dX9_isSheet_4 0 rfl ?_
    refine gg_iconst dX9_isSheet_5 ?_
    refine gg_icmp_ge (tgt := 13) dX9_isSheet_6 (by decide) (by omega) (fun hb2 => ?_) (fun hb2 => ?_)
    · refine gg_iconst dX9_isSheet_13 ?_
      refine gg_iretz dX9_isSheet_14 rfl (by decide) ⟨rfl, rfl⟩ ?_
      refine ⟨rfl, ?_⟩ <;> omega
    · refine gg_iconst dX9_isSheet_9 ?_
      refine gg_goto (tgt := 14) dX9_isSheet_10 (by decide) ?_
      refine gg_iretz dX9_isSheet_14 rfl (by decide) ⟨rfl, rfl⟩ ?_
      refine ⟨rfl, ?_⟩ <;> omega

set_option maxRecDepth 10000 in
theorem c_X1_parts {l : Launch} {Γ : gC} {ad : Nat → Nat} {I : Nat → Nat → Int} {J : Nat → Nat → Int64} {d : Nat} {a n : Nat} {K : Nat → Nat} {N : Nat → Int64} {Z : Nat → Nat} (hF : gF a) (hA : gAt I J a n K N Z) (hn : n ≤ 200) {j : Nat} (hj : j < n) (hd : 2 ≤ d) (hk : K j < 8) : gKi l Γ gm_X1_parts d [.ref (gad (gSS ad) a), .int (iv (j : Int))] (gSS ad, I, J) (fun e μ => μ = (gSS ad, I, J) ∧ e = (gPar (K j) : Int)) := by
  refine gKi_of gk_X1_parts.1 (Nat.le_of_ble_eq_true rfl) ?_
  show gG l Γ gm_X1_parts (d, 0, 0, 0, 0) 0 [(0, .ref (gad (gSS ad) a)), (1, .int (iv (j : Int)))] [] _ _
  have hs := hA.1
  have hkj := hA.2 j hj
  refine gg_aload_n dX1_parts_0 0 rfl ?_
  refine gg_iload_n dX1_parts_1 1 rfl ?_
  refine gg_callVi (own := RX1) (yt := gm_X1_kind) rfl gl_RX1_30 gk_X1_kind gr_X1_kind dX1_parts_2 (c_X1_kind (d := d - 1) hF hA hn hj (by omega)) (gFsh hF) (gFlt hF) (by decide) rfl rfl rfl (Nat.le_of_ble_eq_true rfl) (by show _ ≤ d; omega) ⟨Nat.le_refl _, Nat.le_refl _⟩ (fun e1 μ' hc => ?_)
  obtain ⟨rfl, rfl⟩ := hc
  refine gg_istore_n (ls' := [(2, .int (iv (K j : Int))), (0, .ref (gad (gSS ad) a)), (1, .int (iv (j : Int)))]) dX1_parts_5 rfl (by decide) rfl ?_
  refine gg_iload_n dX1_parts_6 0 rfl ?_
  refine gg_callSNi (own := RX1) (host := RX9) (yt := gm_X9_isKind) rfl (by decide +kernel) gk_X9_isKind gr_X9_isKind dX1_parts_7 (c_X9_isKind (d := d - 1) (by omega)) rfl rfl (Nat.le_of_ble_eq_true rfl) (by show _ ≤ d; omega) ⟨Nat.le_refl _, Nat.le_refl _⟩ (fun e2 μ' hc => ?_)
  obtain ⟨rfl, ⟨rfl, hb3⟩ | ⟨rfl, hb3⟩⟩ := hc
  rotate_left
  · omega
  refine gg_if_eq_f (tgt := 21) dX1_parts_10 (by decide) (by decide) (by decide) ?_
  refine gg_parts rfl dX1_parts_13 ?_
  refine gg_iload_n dX1_parts_16 0 rfl ?_
  refine gg_parts_atj (K j) dX1_parts_17 rfl hk ?_
  refine gg_goto (tgt := 22) dX1_parts_18 (by decide) ?_
  refine gg_ireti dX1_parts_22 rfl ⟨rfl, rfl⟩ ?_
  exact ⟨rfl, gParts_eq _ hk⟩

set_option maxRecDepth 10000 in
theorem c_X1_part0 {l : Launch} {Γ : gC} {ad : Nat → Nat} {I : Nat → Nat → Int} {J : Nat → Nat → Int64} {d : Nat} {a n : Nat} {K : Nat → Nat} {N : Nat → Int64} {Z : Nat → Nat} (hF : gF a) (hA : gAt I J a n K N Z) (hn : n ≤ 200) {j : Nat} (hj : j < n) (hd : 1 ≤ d) : gKi l Γ gm_X1_part d [.ref (gad (gSS ad) a), .int (iv (j : Int)), .int (iv 0)] (gSS ad, I, J) (fun e μ => μ = (gSS ad, I, J) ∧ e = (gPt Z j 0 : Int)) := by
  refine gKi_of gk_X1_part.1 (Nat.le_of_ble_eq_true rfl) ?_
  show gG l Γ gm_X1_part (d, 0, 0, 0, 0) 0 [(0, .ref (gad (gSS ad) a)), (1, .int (iv (j : Int))), (2, .int (iv 0))] [] _ _
  have hs := hA.1
  refine gg_iload_n dX1_part_0 1 rfl ?_
  refine gg_iconst dX1_part_1 ?_
  refine gg_iadd dX1_part_2 ?_
  refine gg_istore_n (ls' := [(3, .int (iv ((j : Int) + 1))), (0, .ref (gad (gSS ad) a)), (1, .int (iv (j : Int))), (2, .int (iv 0))]) dX1_part_3 rfl (by decide) rfl ?_
  refine gg_iconst dX1_part_4 ?_
  refine gg_istore (ls' := [(4, .int (iv 0)), (3, .int (iv ((j : Int) + 1))), (0, .ref (gad (gSS ad) a)), (1, .int (iv (j : Int))), (2, .int (iv 0))]) dX1_part_5 (by decide) rfl ?_
  refine gg_iload dX1_part_7 0 rfl ?_
  refine gg_iload_n dX1_part_9 4 rfl ?_
  refine gg_icmp_ge_t (tgt := 33) dX1_part_10 (by decide) (by decide) (by decide) ?_
  refine gg_iload_n dX1_part_33 1 rfl ?_
  refine gg_ireti dX1_part_34 rfl ⟨rfl, rfl⟩ ?_
  exact ⟨rfl, by simp only [gPt]; omega⟩

set_option maxRecDepth 10000 in
theorem c_X1_part1 {l : Launch} {Γ : gC} {ad : Nat → Nat} {I : Nat → Nat → Int} {J : Nat → Nat → Int64} {d : Nat} {a n : Nat} {K : Nat → Nat} {N : Nat → Int64} {Z : Nat → Nat} (hF : gF a) (hA : gAt I J a n K N Z) (hn : n ≤ 200) {j : Nat} (h1 : j + 1 < n) (hj : j < n) (hd : 1 ≤ d) : gKi l Γ gm_X1_part d [.ref (gad (gSS ad) a), .int (iv (j : Int)), .int (iv 1)] (gSS ad, I, J) (fun e μ => μ = (gSS ad, I, J) ∧ e = (gPt Z j 1 : Int)) := by
  refine gKi_of gk_X1_part.1 (Nat.le_of_ble_eq_true rfl) ?_
  show gG l Γ gm_X1_part (d, 0, 0, 0, 0) 0 [(0, .ref (gad (gSS ad) a)), (1, .int (iv (j : Int))), (2, .int (iv 1))] [] _ _
  have hs := hA.1
  refine gg_iload_n dX1_part_0 1 rfl ?_
  refine gg_iconst dX1_part_1 ?_
  refine gg_iadd dX1_part_2 ?_
  refine gg_istore_n (ls' := [(3, .int (iv ((j : Int) + 1))), (0, .ref (gad (gSS ad) a)), (1, .int (iv (j : Int))), (2, .int (iv 1))]) dX1_part_3 rfl (by decide) rfl ?_
  refine gg_iconst dX1_part_4 ?_
  refine gg_istore (ls' := [(4, .int (iv 0)), (3, .int (iv ((j : Int) + 1))), (0, .ref (gad (gSS ad) a)), (1, .int (iv (j : Int))), (2, .int (iv 1))]) dX1_part_5 (by decide) rfl ?_
  refine gg_iload dX1_part_7 0 rfl ?_
  refine gg_iload_n dX1_part_9 4 rfl ?_
  refine gg_icmp_ge_f (tgt := 33) dX1_part_10 (by decide) (by decide) (by decide) ?_
  refine gg_iload dX1_part_13 0 rfl ?_
  refine gg_iconst dX1_part_15 ?_
  refine gg_icmp_ge_f (tgt := 33) dX1_part_16 (by decide) (by decide) (by decide) ?_
  refine gg_iload_n dX1_part_19 1 rfl ?_
  refine gg_aload_n dX1_part_20 2 rfl ?_
  refine gg_iload_n dX1_part_21 1 rfl ?_
  refine gg_callVi (own := RX1) (yt := gm_X1_nodes) rfl gl_RX1_40 gk_X1_nodes gr_X1_nodes dX1_part_22 (c_X1_nodes (d := d - 1) hF hA hn (j := j + 1) h1) (gFsh hF) (gFlt hF) (by decide) rfl rfl rfl (Nat.le_of_ble_eq_true rfl) (by show _ ≤ d; omega) ⟨Nat.le_refl _, Nat.le_refl _⟩ (fun e1 μ' hc => ?_)
  obtain ⟨rfl, rfl⟩ := hc
  refine gg_iadd dX1_part_25 ?_
  refine gg_istore_n (ls' := [(3, .int (iv (((j : Int) + 1) + (Z (j + 1) : Int)))), (4, .int (iv 0)), (0, .ref (gad (gSS ad) a)), (1, .int (iv (j : Int))), (2, .int (iv 1))]) dX1_part_26 rfl (by decide) rfl ?_
  refine gg_iincv (ls' := [(4, .int (iv 1)), (3, .int (iv (((j : Int) + 1) + (Z (j + 1) : Int)))), (0, .ref (gad (gSS ad) a)), (1, .int (iv (j : Int))), (2, .int (iv 1))]) dX1_part_27 1 rfl rfl (by decide) rfl ?_
  refine gg_goto (tgt := 7) dX1_part_30 (by decide) ?_
  refine gg_iload dX1_part_7 0 rfl ?_
  refine gg_iload_n dX1_part_9 4 rfl ?_
  refine gg_icmp_ge_t (tgt := 33) dX1_part_10 (by decide) (by decide) (by decide) ?_
  refine gg_iload_n dX1_part_33 1 rfl ?_
  refine gg_ireti dX1_part_34 rfl ⟨rfl, rfl⟩ ?_
  exact ⟨rfl, by simp only [gPt]; omega⟩

set_option maxRecDepth 10000 in
theorem c_X1_part2 {l : Launch} {Γ : gC} {ad : Nat → Nat} {I : Nat → Nat → Int} {J : Nat → Nat → Int64} {d : Nat} {a n : Nat} {K : Nat → Nat} {N : Nat → Int64} {Z : Nat → Nat} (hF : gF a) (hA : gAt I J a n K N Z) (hn : n ≤ 200) {j : Nat} (h1 : j + 1 < n) (h2 : j + 1 + Z (j + 1) < n) (hj : j < n) (hd : 1 ≤ d) : gKi l Γ gm_X1_part d [.ref (gad (gSS ad) a), .int (iv (j : Int)), .int (iv 2)] (gSS ad, I, J) (fun e μ => μ = (gSS ad, I, J) ∧ e = (gPt Z j 2 : Int)) := by
  refine gKi_of gk_X1_part.1 (Nat.le_of_ble_eq_true rfl) ?_
  show gG l Γ gm_X1_part (d, 0, 0, 0, 0) 0 [(0, .ref (gad (gSS ad) a)), (1, .int (iv (j : Int))), (2, .int (iv 2))] [] _ _
  have hs := hA.1
  refine gg_iload_n dX1_part_0 1 rfl ?_
  refine gg_iconst dX1_part_1 ?_
  refine gg_iadd dX1_part_2 ?_
  refine gg_istore_n (ls' := [(3, .int (iv ((j : Int) + 1))), (0, .ref (gad (gSS ad) a)), (1, .int (iv (j : Int))), (2, .int (iv 2))]) dX1_part_3 rfl (by decide) rfl ?_
  refine gg_iconst dX1_part_4 ?_
  refine gg_istore (ls' := [(4, .int (iv 0)), (3, .int (iv ((j : Int) + 1))), (0, .ref (gad (gSS ad) a)), (1, .int (iv (j : Int))), (2, .int (iv 2))]) dX1_part_5 (by decide) rfl ?_
  refine gg_iload dX1_part_7 0 rfl ?_
  refine gg_iload_n dX1_part_9 4 rfl ?_
  refine gg_icmp_ge_f (tgt := 33) dX1_part_10 (by decide) (by decide) (by decide) ?_
  refine gg_iload dX1_part_13 0 rfl ?_
  refine gg_iconst dX1_part_15 ?_
  refine gg_icmp_ge_f (tgt := 33) dX1_part_16 (by decide) (by decide) (by decide) ?_
  refine gg_iload_n dX1_part_19 1 rfl ?_
  refine gg_aload_n dX1_part_20 2 rfl ?_
  refine gg_iload_n dX1_part_21 1 rfl ?_
  refine gg_callVi (own := RX1) (yt := gm_X1_nodes) rfl gl_RX1_40 gk_X1_nodes gr_X1_nodes dX1_part_22 (c_X1_nodes (d := d - 1) hF hA hn (j := j + 1) h1) (gFsh hF) (gFlt hF) (by decide) rfl rfl rfl (Nat.le_of_ble_eq_true rfl) (by show _ ≤ d; omega) ⟨Nat.le_refl _, Nat.le_refl _⟩ (fun e1 μ' hc => ?_)
  obtain ⟨rfl, rfl⟩ := hc
  refine gg_iadd dX1_part_25 ?_
  refine gg_istore_n (ls' := [(3, .int (iv (((j : Int) + 1) + (Z (j + 1) : Int)))), (4, .int (iv 0)), (0, .ref (gad (gSS ad) a)), (1, .int (iv (j : Int))), (2, .int (iv 2))]) dX1_part_26 rfl (by decide) rfl ?_
  refine gg_iincv (ls' := [(4, .int (iv 1)), (3, .int (iv (((j : Int) + 1) + (Z (j + 1) : Int)))), (0, .ref (gad (gSS ad) a)), (1, .int (iv (j : Int))), (2, .int (iv 2))]) dX1_part_27 1 rfl rfl (by decide) rfl ?_
  refine gg_goto (tgt := 7) dX1_part_30 (by decide) ?_
  refine gg_iload dX1_part_7 0 rfl ?_
  refine gg_iload_n dX1_part_9 4 rfl ?_
  refine gg_icmp_ge_f (tgt := 33) dX1_part_10 (by decide) (by decide) (by decide) ?_
  refine gg_iload dX1_part_13 0 rfl ?_
  refine gg_iconst dX1_part_15 ?_
  refine gg_icmp_ge_f (tgt := 33) dX1_part_16 (by decide) (by decide) (by decide) ?_
  refine gg_iload_n dX1_part_19 1 rfl ?_
  refine gg_aload_n dX1_part_20 2 rfl ?_
  refine gg_iload_n dX1_part_21 1 rfl ?_
  refine gg_callVi (own := RX1) (yt := gm_X1_nodes) rfl gl_RX1_40 gk_X1_nodes gr_X1_nodes dX1_part_22 (c_X1_nodes (d := d - 1) hF hA hn (j := j + 1 + Z (j + 1)) h2) (gFsh hF) (gFlt hF) (by decide) rfl rfl rfl (Nat.le_of_ble_eq_true rfl) (by show _ ≤ d; omega) ⟨Nat.le_refl _, Nat.le_refl _⟩ (fun e2 μ' hc => ?_)
  obtain ⟨rfl, rfl⟩ := hc
  refine gg_iadd dX1_part_25 ?_
  refine gg_istore_n (ls' := [(3, .int (iv ((((j : Int) + 1) + (Z (j + 1) : Int)) + (Z (j + 1 + Z (j + 1)) : Int)))), (4, .int (iv 1)), (0, .ref (gad (gSS ad) a)), (1, .int (iv (j : Int))), (2, .int (iv 2))]) dX1_part_26 rfl (by decide) rfl ?_
  refine gg_iincv (ls' := [(4, .int (iv 2)), (3, .int (iv ((((j : Int) + 1) + (Z (j + 1) : Int)) + (Z (j + 1 + Z (j + 1)) : Int)))), (0, .ref (gad (gSS ad) a)), (1, .int (iv (j : Int))), (2, .int (iv 2))]) dX1_part_27 1 rfl rfl (by decide) rfl ?_
  refine gg_goto (tgt := 7) dX1_part_30 (by decide) ?_
  refine gg_iload dX1_part_7 0 rfl ?_
  refine gg_iload_n dX1_part_9 4 rfl ?_
  refine gg_icmp_ge_t (tgt := 33) dX1_part_10 (by decide) (by decide) (by decide) ?_
  refine gg_iload_n dX1_part_33 1 rfl ?_
  refine gg_ireti dX1_part_34 rfl ⟨rfl, rfl⟩ ?_
  exact ⟨rfl, by simp only [gPt]; omega⟩

