/-! let, node, taken, alike on both sides -/
set_option maxRecDepth 10000 in
theorem c_X9_let {l : Launch} {Γ : gC} {ad : Nat → Nat} {I : Nat → Nat → Int} {J : Nat → Nat → Int64} {d : Nat} {q : Nat} {v : Int} (hq : q < 8) (hd : 2 ≤ d) : gKi l Γ gm_X9_let d [.ref (gad (gSS ad) 0), .int (iv (q : Int)), .int (iv v)] (gSS ad, I, J) (fun e μ => μ = (gSS ad, gu I 3 q v, J) ∧ e = I 3 q) := by
  refine gKi_of gk_X9_let.1 (Nat.le_of_ble_eq_true rfl) ?_
  show gG l Γ gm_X9_let (d, 0, 0, 0, 0) 0 [(0, .ref (gad (gSS ad) 0)), (1, .int (iv (q : Int))), (2, .int (iv v))] [] _ _
  refine gg_iload_n dX9_let_0 1 rfl ?_
  refine gg_callSi (own := RX9) (yt := gm_X9_isName) rfl gl_RX9_122 gk_X9_isName gr_X9_isName dX9_let_1 (c_X9_isName (d := d - 1) (by omega)) rfl rfl (Nat.le_of_ble_eq_true rfl) (by show _ ≤ d; omega) ⟨Nat.le_refl _, Nat.le_refl _⟩ (fun e1 μ' hc => ?_)
  obtain ⟨rfl, ⟨rfl, hb2⟩ | ⟨rfl, hb2⟩⟩ := hc
  rotate_left
  · omega
  refine gg_if_ne_t (tgt := 10) dX9_let_4 (by decide) (by decide) (by decide) ?_
  refine gg_aload_n dX9_let_10 0 rfl ?_
  refine gg_getR (k' := 3) rfl gf_RX9_18 dX9_let_11 sh_0 pl_0 (by decide) (by decide) rr_0_2 ?_
  refine gg_iload_n dX9_let_14 1 rfl ?_
  refine gg_ialdj q dX9_let_15 sh_3 pl_3 (by decide) rfl hq ?_
  refine gg_istore_n (ls' := [(3, .int (iv (I 3 q))), (0, .ref (gad (gSS ad) 0)), (1, .int (iv (q : Int))), (2, .int (iv v))]) dX9_let_16 rfl (by decide) rfl ?_
  refine gg_aload_n dX9_let_17 1 rfl ?_
  refine gg_getR (k' := 3) rfl gf_RX9_18 dX9_let_18 sh_0 pl_0 (by decide) (by decide) rr_0_2 ?_
  refine gg_iload_n dX9_let_21 2 rfl ?_
  refine gg_iload_n dX9_let_22 3 rfl ?_
  refine gg_iastj q dX9_let_23 sh_3 pl_3 (by decide) rfl hq ?_
  refine gg_iload_n dX9_let_24 0 rfl ?_
  refine gg_ireti dX9_let_25 rfl ⟨rfl, rfl⟩ ?_
  exact ⟨rfl, rfl⟩

set_option maxRecDepth 10000 in
theorem c_X9_let_out {l : Launch} {Γ : gC} {ad : Nat → Nat} {I : Nat → Nat → Int} {J : Nat → Nat → Int64} {d : Nat} {i v : Int} (hi : -2147483648 ≤ i ∧ i ≤ 2147483647) (ho : ¬ (0 ≤ i ∧ i ≤ 7)) (hd : 3 ≤ d) : gKi l Γ gm_X9_let d [.ref (gad (gSS ad) 0), .int (iv i), .int (iv v)] (gSS ad, I, J) (fun e μ => μ = (gSS ad, I, J) ∧ e = -2) := by
  refine gKi_of gk_X9_let.1 (Nat.le_of_ble_eq_true rfl) ?_
  show gG l Γ gm_X9_let (d, 0, 0, 0, 0) 0 [(0, .ref (gad (gSS ad) 0)), (1, .int (iv i)), (2, .int (iv v))] [] _ _
  refine gg_iload_n dX9_let_0 1 rfl ?_
  refine gg_callSi (own := RX9) (yt := gm_X9_isName) rfl gl_RX9_122 gk_X9_isName gr_X9_isName dX9_let_1 (c_X9_isName (d := d - 1) (by omega)) rfl rfl (Nat.le_of_ble_eq_true rfl) (by show _ ≤ d; omega) ⟨Nat.le_refl _, Nat.le_refl _⟩ (fun e1 μ' hc => ?_)
  obtain ⟨rfl, ⟨rfl, hb2⟩ | ⟨rfl, hb2⟩⟩ := hc
  · refine gg_if_ne_t (tgt := 10) dX9_let_4 (by decide) (by decide) (by decide) ?_
    exfalso
    omega
  · refine gg_if_ne_f (tgt := 10) dX9_let_4 (by decide) (by decide) (by decide) ?_
    refine gg_bipush dX9_let_7 (by decide) ?_
    refine gg_ireti dX9_let_9 rfl ⟨rfl, rfl⟩ ?_
    exact ⟨rfl, rfl⟩

set_option maxRecDepth 10000 in
theorem c_X10_let {l : Launch} {Γ : gC} {ad : Nat → Nat} {I : Nat → Nat → Int} {J : Nat → Nat → Int64} {d : Nat} {q : Nat} {v : Int} (hq : q < 8) (hd : 2 ≤ d) : gKi l Γ gm_X10_let d [.ref (gad (gSS ad) 145), .int (iv (q : Int)), .int (iv v)] (gSS ad, I, J) (fun e μ => μ = (gSS ad, gu I 186 q v, J) ∧ e = I 186 q) := by
  refine gKi_of gk_X10_let.1 (Nat.le_of_ble_eq_true rfl) ?_
  show gG l Γ gm_X10_let (d, 0, 0, 0, 0) 0 [(0, .ref (gad (gSS ad) 145)), (1, .int (iv (q : Int))), (2, .int (iv v))] [] _ _
  refine gg_iload_n dX10_let_0 1 rfl ?_
  refine gg_callSi (own := RX10) (yt := gm_X10_isName) rfl gl_RX10_189 gk_X10_isName gr_X10_isName dX10_let_1 (c_X10_isName (d := d - 1) (by omega) (by omega)) rfl rfl (Nat.le_of_ble_eq_true rfl) (by show _ ≤ d; omega) ⟨Nat.le_refl _, Nat.le_refl _⟩ (fun e1 μ' hc => ?_)
  obtain ⟨rfl, ⟨rfl, hb2⟩ | ⟨rfl, hb2⟩⟩ := hc
  rotate_left
  · omega
  refine gg_if_ne_t (tgt := 10) dX10_let_4 (by decide) (by decide) (by decide) ?_
  refine gg_aload_n dX10_let_10 0 rfl ?_
  refine gg_getR (k' := 186) rfl gf_RX10_26 dX10_let_11 sh_145 pl_145 (by decide) (by decide) rr_145_4 ?_
  refine gg_iload_n dX10_let_14 1 rfl ?_
  refine gg_ialdj q dX10_let_15 sh_186 pl_186 (by decide) rfl hq ?_
  refine gg_istore_n (ls' := [(3, .int (iv (I 186 q))), (0, .ref (gad (gSS ad) 145)), (1, .int (iv (q : Int))), (2, .int (iv v))]) dX10_let_16 rfl (by decide) rfl ?_
  refine gg_aload_n dX10_let_17 1 rfl ?_
  refine gg_getR (k' := 186) rfl gf_RX10_26 dX10_let_18 sh_145 pl_145 (by decide) (by decide) rr_145_4 ?_
  refine gg_iload_n dX10_let_21 2 rfl ?_
  refine gg_iload_n dX10_let_22 3 rfl ?_
  refine gg_iastj q dX10_let_23 sh_186 pl_186 (by decide) rfl hq ?_
  refine gg_iload_n dX10_let_24 0 rfl ?_
  refine gg_ireti dX10_let_25 rfl ⟨rfl, rfl⟩ ?_
  exact ⟨rfl, rfl⟩

set_option maxRecDepth 10000 in
theorem c_X10_let_out {l : Launch} {Γ : gC} {ad : Nat → Nat} {I : Nat → Nat → Int} {J : Nat → Nat → Int64} {d : Nat} {i v : Int} (hi : -2147483648 ≤ i ∧ i ≤ 2147483647) (ho : ¬ (0 ≤ i ∧ i ≤ 7)) (hd : 3 ≤ d) : gKi l Γ gm_X10_let d [.ref (gad (gSS ad) 145), .int (iv i), .int (iv v)] (gSS ad, I, J) (fun e μ => μ = (gSS ad, I, J) ∧ e = -2) := by
  refine gKi_of gk_X10_let.1 (Nat.le_of_ble_eq_true rfl) ?_
  show gG l Γ gm_X10_let (d, 0, 0, 0, 0) 0 [(0, .ref (gad (gSS ad) 145)), (1, .int (iv i)), (2, .int (iv v))] [] _ _
  refine gg_iload_n dX10_let_0 1 rfl ?_
  refine gg_callSi (own := RX10) (yt := gm_X10_isName) rfl gl_RX10_189 gk_X10_isName gr_X10_isName dX10_let_1 (c_X10_isName (d := d - 1) (by omega) (by omega)) rfl rfl (Nat.le_of_ble_eq_true rfl) (by show _ ≤ d; omega) ⟨Nat.le_refl _, Nat.le_refl _⟩ (fun e1 μ' hc => ?_)
  obtain ⟨rfl, ⟨rfl, hb2⟩ | ⟨rfl, hb2⟩⟩ := hc
  · refine gg_if_ne_t (tgt := 10) dX10_let_4 (by decide) (by decide) (by decide) ?_
    exfalso
    omega
  · refine gg_if_ne_f (tgt := 10) dX10_let_4 (by decide) (by decide) (by decide) ?_
    refine gg_bipush dX10_let_7 (by decide) ?_
    refine gg_ireti dX10_let_9 rfl ⟨rfl, rfl⟩ ?_
    exact ⟨rfl, rfl⟩

/-- what 'node' tells -/
def gNd (n : Nat) (K : Nat → Nat) (N : Nat → Int64) (Z : Nat → Nat) (k : Int) (w : Nat) : Int :=
  if n = 0 then -3 else if ¬ (0 ≤ k ∧ k < (n : Int)) then -12 else if w = 0 then (K k.toNat : Int) else if w = 1 then (if K k.toNat = 0 then gl2i (N k.toNat) else -1) else if w = 2 then (if K k.toNat = 1 then gl2i (N k.toNat) else -1) else if w = 3 then (if K k.toNat = 5 then gl2i (N k.toNat) else -1) else (Z k.toNat : Int)
/-- what 'taken' tells -/
def gTk (n : Nat) (K : Nat → Nat) (Z : Nat → Nat) (k : Int) (q : Nat) : Int :=
  if n = 0 then -3 else if ¬ (0 ≤ k ∧ k < (n : Int)) then -12 else if K k.toNat = q then (Z k.toNat : Int) else if K k.toNat = 7 ∧ q = 4 then 2 * (Z k.toNat : Int) - 1 else -13
set_option maxRecDepth 10000 in
theorem c_X9_refusalOfNode {l : Launch} {Γ : gC} {ad : Nat → Nat} {I : Nat → Nat → Int} {J : Nat → Nat → Int64} {d : Nat} {f n : Nat} {K : Nat → Nat} {N : Nat → Int64} {Z : Nat → Nat} (hf : f < 12) (hA : gAt I J (41 + 8 * f) n K N Z) (hW : gWf n K N Z) {k : Int} (hk0 : -2147483648 ≤ k ∧ k ≤ 2147483647) (hd : 2 ≤ d) : gKi l Γ gm_X9_refusalOfNode d [.ref (gad (gSS ad) 0), .int (iv (f : Int)), .int (iv k), .int (iv 1)] (gSS ad, I, J) (fun e μ => μ = (gSS ad, I, J) ∧ ((e = -3 ∧ n = 0) ∨ (e = -12 ∧ ¬ n = 0 ∧ ¬ (0 ≤ k ∧ k < (n : Int))) ∨ (e = 0 ∧ ¬ n = 0 ∧ 0 ≤ k ∧ k < (n : Int)))) := by
  refine gKi_of gk_X9_refusalOfNode.1 (Nat.le_of_ble_eq_true rfl) ?_
  show gG l Γ gm_X9_refusalOfNode (d, 0, 0, 0, 0) 0 [(0, .ref (gad (gSS ad) 0)), (1, .int (iv (f : Int))), (2, .int (iv k)), (3, .int (iv 1))] [] _ _
  have hn := hW.1
  refine gg_aload_n dX9_refusalOfNode_0 0 rfl ?_
  refine gg_iload_n dX9_refusalOfNode_1 1 rfl ?_
  refine gg_iload_n dX9_refusalOfNode_2 3 rfl ?_
  refine gg_callVi (own := RX9) (yt := gm_X9_refusalOf) rfl gl_RX9_166 gk_X9_refusalOf gr_X9_refusalOf dX9_refusalOfNode_3 (c_X9_refusalOf (d := d - 1) hf hA hW (by omega)) sh_0 pl_0 (by decide) rfl rfl rfl (Nat.le_of_ble_eq_true rfl) (by show _ ≤ d; omega) ⟨Nat.le_refl _, Nat.le_refl _⟩ (fun e1 μ' hc => ?_)
  obtain ⟨rfl, ⟨rfl, hn0⟩ | ⟨rfl, hn0⟩⟩ := hc
  · refine gg_istore (ls' := [(4, .int (iv (-3))), (0, .ref (gad (gSS ad) 0)), (1, .int (iv (f : Int))), (2, .int (iv k)), (3, .int (iv 1))]) dX9_refusalOfNode_6 (by decide) rfl ?_
    refine gg_iload dX9_refusalOfNode_8 0 rfl ?_
    refine gg_if_eq_f (tgt := 16) dX9_refusalOfNode_10 (by decide) (by decide) (by decide) ?_
    refine gg_iload dX9_refusalOfNode_13 0 rfl ?_
    refine gg_ireti dX9_refusalOfNode_15 rfl ⟨rfl, rfl⟩ ?_
    refine ⟨rfl, ?_⟩ <;> omega
  · refine gg_istore (ls' := [(4, .int (iv 0)), (0, .ref (gad (gSS ad) 0)), (1, .int (iv (f : Int))), (2, .int (iv k)), (3, .int (iv 1))]) dX9_refusalOfNode_6 (by decide) rfl ?_
    refine gg_iload dX9_refusalOfNode_8 0 rfl ?_
    refine gg_if_eq_t (tgt := 16) dX9_refusalOfNode_10 (by decide) (by decide) (by decide) ?_
    refine gg_aload_n dX9_refusalOfNode_16 1 rfl ?_
    refine gg_getR (k' := 1) rfl gf_RX9_11 dX9_refusalOfNode_17 sh_0 pl_0 (by decide) (by decide) rr_0_0 ?_
    refine gg_iload_n dX9_refusalOfNode_20 2 rfl ?_
    refine gg_aaldj (t := 4) f (k' := (41 + 8 * f)) dX9_refusalOfNode_21 sh_1 (by decide) pl_1 (by decide) rfl hf (rr_1 hf) ?_
    refine gg_iload_n dX9_refusalOfNode_22 3 rfl ?_
    refine gg_callVi (own := RX9) (yt := gm_X1_has) rfl gl_RX9_302 gk_X1_has gr_X1_has dX9_refusalOfNode_23 (c_X1_has (d := d - 1) (gF_fo f hf) hA hW.1 (by omega)) (gFsh (gF_fo f hf)) (gFlt (gF_fo f hf)) (by decide) rfl rfl rfl (Nat.le_of_ble_eq_true rfl) (by show _ ≤ d; omega) ⟨Nat.le_refl _, Nat.le_refl _⟩ (fun e2 μ' hc => ?_)
    obtain ⟨rfl, ⟨rfl, hk⟩ | ⟨rfl, hk⟩⟩ := hc
    · refine gg_if_eq_f (tgt := 33) dX9_refusalOfNode_26 (by decide) (by decide) (by decide) ?_
      refine gg_iconst dX9_refusalOfNode_29 ?_
      refine gg_goto (tgt := 35) dX9_refusalOfNode_30 (by decide) ?_
      refine gg_ireti dX9_refusalOfNode_35 rfl ⟨rfl, rfl⟩ ?_
      refine ⟨rfl, ?_⟩ <;> omega
    · refine gg_if_eq_t (tgt := 33) dX9_refusalOfNode_26 (by decide) (by decide) (by decide) ?_
      refine gg_bipush dX9_refusalOfNode_33 (by decide) ?_
      refine gg_ireti dX9_refusalOfNode_35 rfl ⟨rfl, rfl⟩ ?_
      refine ⟨rfl, ?_⟩ <;> omega

set_option maxRecDepth 10000 in
theorem c_X9_refusalOfNode_out {l : Launch} {Γ : gC} {ad : Nat → Nat} {I : Nat → Nat → Int} {J : Nat → Nat → Int64} {d : Nat} {i k b : Int} (hi : -2147483648 ≤ i ∧ i ≤ 2147483647) (hb : b = 0 ∨ b = 1) (ho : ¬ (0 ≤ i ∧ i ≤ 11 ∧ b = 1)) (hd : 2 ≤ d) : gKi l Γ gm_X9_refusalOfNode d [.ref (gad (gSS ad) 0), .int (iv i), .int (iv k), .int (iv b)] (gSS ad, I, J) (fun e μ => μ = (gSS ad, I, J) ∧ e = -2) := by
  refine gKi_of gk_X9_refusalOfNode.1 (Nat.le_of_ble_eq_true rfl) ?_
  show gG l Γ gm_X9_refusalOfNode (d, 0, 0, 0, 0) 0 [(0, .ref (gad (gSS ad) 0)), (1, .int (iv i)), (2, .int (iv k)), (3, .int (iv b))] [] _ _
  refine gg_aload_n dX9_refusalOfNode_0 0 rfl ?_
  refine gg_iload_n dX9_refusalOfNode_1 1 rfl ?_
  refine gg_iload_n dX9_refusalOfNode_2 3 rfl ?_
  refine gg_callVi (own := RX9) (yt := gm_X9_refusalOf) rfl gl_RX9_166 gk_X9_refusalOf gr_X9_refusalOf dX9_refusalOfNode_3 (c_X9_refusalOf_out (d := d - 1) (b := b) hi hb ho (by omega)) sh_0 pl_0 (by decide) rfl rfl rfl (Nat.le_of_ble_eq_true rfl) (by show _ ≤ d; omega) ⟨Nat.le_refl _, Nat.le_refl _⟩ (fun e1 μ' hc => ?_)
  obtain ⟨rfl, rfl⟩ := hc
  refine gg_istore (ls' := [(4, .int (iv (-2))), (0, .ref (gad (gSS ad) 0)), (1, .int (iv i)), (2, .int (iv k)), (3, .int (iv b))]) dX9_refusalOfNode_6 (by decide) rfl ?_
  refine gg_iload dX9_refusalOfNode_8 0 rfl ?_
  refine gg_if_eq_f (tgt := 16) dX9_refusalOfNode_10 (by decide) (by decide) (by decide) ?_
  refine gg_iload dX9_refusalOfNode_13 0 rfl ?_
  refine gg_ireti dX9_refusalOfNode_15 rfl ⟨rfl, rfl⟩ ?_
  exact ⟨rfl, rfl⟩

set_option maxRecDepth 10000 in
theorem c_X9_node {l : Launch} {Γ : gC} {ad : Nat → Nat} {I : Nat → Nat → Int} {J : Nat → Nat → Int64} {d : Nat} {f n : Nat} {K : Nat → Nat} {N : Nat → Int64} {Z : Nat → Nat} (hf : f < 12) (hA : gAt I J (41 + 8 * f) n K N Z) (hW : gWf n K N Z) {k : Int} {w : Nat} (hk0 : -2147483648 ≤ k ∧ k ≤ 2147483647) (hw : w ≤ 4) (hd : 3 ≤ d) : gKi l Γ gm_X9_node d [.ref (gad (gSS ad) 0), .int (iv (f : Int)), .int (iv k), .int (iv (w : Int))] (gSS ad, I, J) (fun e μ => μ = (gSS ad, I, J) ∧ e = gNd n K N Z k w) := by
  refine gKi_of gk_X9_node.1 (Nat.le_of_ble_eq_true rfl) ?_
  show gG l Γ gm_X9_node (d, 0, 0, 0, 0) 0 [(0, .ref (gad (gSS ad) 0)), (1, .int (iv (f : Int))), (2, .int (iv k)), (3, .int (iv (w : Int)))] [] _ _
  have hn := hW.1
  refine gg_aload_n dX9_node_0 0 rfl ?_
  refine gg_iload_n dX9_node_1 1 rfl ?_
  refine gg_iload_n dX9_node_2 2 rfl ?_
  refine gg_iload_n dX9_node_3 3 rfl ?_
  refine gg_if_lt_f (tgt := 16) dX9_node_4 (by decide) (by omega) (by omega) ?_
  refine gg_iload_n dX9_node_7 3 rfl ?_
  refine gg_iconst dX9_node_8 ?_
  refine gg_icmp_gt_f (tgt := 16) dX9_node_9 (by decide) (by omega) (by omega) ?_
  refine gg_iconst dX9_node_12 ?_
  refine gg_goto (tgt := 17) dX9_node_13 (by decide) ?_
  refine gg_callVi (own := RX9) (yt := gm_X9_refusalOfNode) rfl gl_RX9_147 gk_X9_refusalOfNode gr_X9_refusalOfNode dX9_node_17 (c_X9_refusalOfNode (d := d - 1) hf hA hW hk0 (by omega)) sh_0 pl_0 (by decide) rfl rfl rfl (Nat.le_of_ble_eq_true rfl) (by show _ ≤ d; omega) ⟨Nat.le_refl _, Nat.le_refl _⟩ (fun e1 μ' hc => ?_)
  obtain ⟨rfl, ⟨rfl, hn0⟩ | ⟨rfl, hn0⟩ | ⟨rfl, hn0⟩⟩ := hc
  · refine gg_istore (ls' := [(4, .int (iv (-3))), (0, .ref (gad (gSS ad) 0)), (1, .int (iv (f : Int))), (2, .int (iv k)), (3, .int (iv (w : Int)))]) dX9_node_20 (by decide) rfl ?_
    refine gg_iload dX9_node_22 0 rfl ?_
    refine gg_if_eq_f (tgt := 30) dX9_node_24 (by decide) (by decide) (by decide) ?_
    refine gg_iload dX9_node_27 0 rfl ?_
    refine gg_ireti dX9_node_29 rfl ⟨rfl, rfl⟩ ?_
    refine ⟨rfl, ?_⟩
    first | (simp_all [gNd]; done) | (simp_all [gNd]; omega)
  · refine gg_istore (ls' := [(4, .int (iv (-12))), (0, .ref (gad (gSS ad) 0)), (1, .int (iv (f : Int))), (2, .int (iv k)), (3, .int (iv (w : Int)))]) dX9_node_20 (by decide) rfl ?_
    refine gg_iload dX9_node_22 0 rfl ?_
    refine gg_if_eq_f (tgt := 30) dX9_node_24 (by decide) (by decide) (by decide) ?_
    refine gg_iload dX9_node_27 0 rfl ?_
    refine gg_ireti dX9_node_29 rfl ⟨rfl, rfl⟩ ?_
    refine ⟨rfl, ?_⟩
    first | (simp_all [gNd]; done) | (simp_all [gNd]; omega)
  · obtain ⟨j, rfl⟩ : ∃ j : Nat, k = (j : Int) := ⟨k.toNat, by omega⟩
    refine gg_istore (ls' := [(4, .int (iv 0)), (0, .ref (gad (gSS ad) 0)), (1, .int (iv (f : Int))), (2, .int (iv (j : Int))), (3, .int (iv (w : Int)))]) dX9_node_20 (by decide) rfl ?_
    refine gg_iload dX9_node_22 0 rfl ?_
    refine gg_if_eq_t (tgt := 30) dX9_node_24 (by decide) (by decide) (by decide) ?_
    refine gg_aload_n dX9_node_30 1 rfl ?_
    refine gg_getR (k' := 1) rfl gf_RX9_11 dX9_node_31 sh_0 pl_0 (by decide) (by decide) rr_0_0 ?_
    refine gg_iload_n dX9_node_34 2 rfl ?_
    refine gg_aaldj (t := 4) f (k' := (41 + 8 * f)) dX9_node_35 sh_1 (by decide) pl_1 (by decide) rfl hf (rr_1 hf) ?_
    refine gg_astore (ls' := [(5, .ref (gad (gSS ad) (41 + 8 * f))), (4, .int (iv 0)), (0, .ref (gad (gSS ad) 0)), (1, .int (iv (f : Int))), (2, .int (iv (j : Int))), (3, .int (iv (w : Int)))]) dX9_node_36 (by decide) rfl ?_
    refine gg_iload_n dX9_node_38 5 rfl ?_
    obtain hw4 | hw4 | hw4 | hw4 | hw4 := (by omega : w = 0 ∨ w = 1 ∨ w = 2 ∨ w = 3 ∨ w = 4)
    · refine gg_toI (b := 0) (by omega) ?_
      refine gg_tsw (off := 29) (tgt := 68) dX9_node_39 (by decide) (by decide) rfl (by decide) ?_
      refine gg_aload dX9_node_68 0 rfl ?_
      refine gg_iload_n dX9_node_70 4 rfl ?_
      refine gg_callVi (own := RX9) (yt := gm_X1_kind) rfl gl_RX9_151 gk_X1_kind gr_X1_kind dX9_node_71 (c_X1_kind (d := d - 1) (gF_fo f hf) hA hW.1 (j := j) (by omega) (by omega)) (gFsh (gF_fo f hf)) (gFlt (gF_fo f hf)) (by decide) rfl rfl rfl (Nat.le_of_ble_eq_true rfl) (by show _ ≤ d; omega) ⟨Nat.le_refl _, Nat.le_refl _⟩ (fun e2 μ' hc => ?_)
      obtain ⟨rfl, rfl⟩ := hc
      refine gg_ireti dX9_node_74 rfl ⟨rfl, rfl⟩ ?_
      refine ⟨rfl, ?_⟩
      first | (simp_all [gNd]; done) | (simp_all [gNd]; omega)
    · refine gg_toI (b := 1) (by omega) ?_
      refine gg_tsw (off := 36) (tgt := 75) dX9_node_39 (by decide) (by decide) rfl (by decide) ?_
      refine gg_aload dX9_node_75 0 rfl ?_
      refine gg_iload_n dX9_node_77 4 rfl ?_
      refine gg_callVi (own := RX9) (yt := gm_X1_kind) rfl gl_RX9_151 gk_X1_kind gr_X1_kind dX9_node_78 (c_X1_kind (d := d - 1) (gF_fo f hf) hA hW.1 (j := j) (by omega) (by omega)) (gFsh (gF_fo f hf)) (gFlt (gF_fo f hf)) (by decide) rfl rfl rfl (Nat.le_of_ble_eq_true rfl) (by show _ ≤ d; omega) ⟨Nat.le_refl _, Nat.le_refl _⟩ (fun e3 μ' hc => ?_)
      obtain ⟨rfl, rfl⟩ := hc
      refine gg_if_ne (tgt := 94) dX9_node_81 (by decide) (by have := (hW.2.2 j (by omega)).1; omega) (fun hb4 => ?_) (fun hb4 => ?_)
      · refine gg_iconst dX9_node_94 ?_
        refine gg_ireti dX9_node_95 rfl ⟨rfl, rfl⟩ ?_
        refine ⟨rfl, ?_⟩
        first | (simp_all [gNd]; done) | (simp_all [gNd]; omega)
      · refine gg_aload dX9_node_84 0 rfl ?_
        refine gg_iload_n dX9_node_86 4 rfl ?_
        refine gg_callVl (own := RX9) (yt := gm_X1_number) rfl gl_RX9_154 gk_X1_number gr_X1_number dX9_node_87 (c_X1_number (d := d - 1) (gF_fo f hf) hA hW.1 (j := j) (by omega) (by omega)) (gFsh (gF_fo f hf)) (gFlt (gF_fo f hf)) (by decide) rfl rfl rfl (Nat.le_of_ble_eq_true rfl) (by show _ ≤ d; omega) ⟨Nat.le_refl _, Nat.le_refl _⟩ (fun e5 μ' hc => ?_)
        obtain ⟨rfl, rfl⟩ := hc
        refine gg_l2i dX9_node_90 ?_
        refine gg_goto (tgt := 95) dX9_node_91 (by decide) ?_
        refine gg_ireti dX9_node_95 rfl ⟨rfl, rfl⟩ ?_
        refine ⟨rfl, ?_⟩
        first | (simp_all [gNd]; done) | (simp_all [gNd]; omega)
    · refine gg_toI (b := 2) (by omega) ?_
      refine gg_tsw (off := 57) (tgt := 96) dX9_node_39 (by decide) (by decide) rfl (by decide) ?_
      refine gg_aload dX9_node_96 0 rfl ?_
      refine gg_iload_n dX9_node_98 4 rfl ?_
      refine gg_callVi (own := RX9) (yt := gm_X1_kind) rfl gl_RX9_151 gk_X1_kind gr_X1_kind dX9_node_99 (c_X1_kind (d := d - 1) (gF_fo f hf) hA hW.1 (j := j) (by omega) (by omega)) (gFsh (gF_fo f hf)) (gFlt (gF_fo f hf)) (by decide) rfl rfl rfl (Nat.le_of_ble_eq_true rfl) (by show _ ≤ d; omega) ⟨Nat.le_refl _, Nat.le_refl _⟩ (fun e6 μ' hc => ?_)
      obtain ⟨rfl, rfl⟩ := hc
      refine gg_iconst dX9_node_102 ?_
      refine gg_icmp_ne (tgt := 116) dX9_node_103 (by decide) (by have := (hW.2.2 j (by omega)).1; omega) (fun hb7 => ?_) (fun hb7 => ?_)
      · refine gg_iconst dX9_node_116 ?_
        refine gg_ireti dX9_node_117 rfl ⟨rfl, rfl⟩ ?_
        refine ⟨rfl, ?_⟩
        first | (simp_all [gNd]; done) | (simp_all [gNd]; omega)
      · refine gg_aload dX9_node_106 0 rfl ?_
        refine gg_iload_n dX9_node_108 4 rfl ?_
        refine gg_callVl (own := RX9) (yt := gm_X1_number) rfl gl_RX9_154 gk_X1_number gr_X1_number dX9_node_109 (c_X1_number (d := d - 1) (gF_fo f hf) hA hW.1 (j := j) (by omega) (by omega)) (gFsh (gF_fo f hf)) (gFlt (gF_fo f hf)) (by decide) rfl rfl rfl (Nat.le_of_ble_eq_true rfl) (by show _ ≤ d; omega) ⟨Nat.le_refl _, Nat.le_refl _⟩ (fun e8 μ' hc => ?_)
        obtain ⟨rfl, rfl⟩ := hc
        refine gg_l2i dX9_node_112 ?_
        refine gg_goto (tgt := 117) dX9_node_113 (by decide) ?_
        refine gg_ireti dX9_node_117 rfl ⟨rfl, rfl⟩ ?_
        refine ⟨rfl, ?_⟩
        first | (simp_all [gNd]; done) | (simp_all [gNd]; omega)
    · refine gg_toI (b := 3) (by omega) ?_
      refine gg_tsw (off := 79) (tgt := 118) dX9_node_39 (by decide) (by decide) rfl (by decide) ?_
      refine gg_aload dX9_node_118 0 rfl ?_
      refine gg_iload_n dX9_node_120 4 rfl ?_
      refine gg_callVi (own := RX9) (yt := gm_X1_kind) rfl gl_RX9_151 gk_X1_kind gr_X1_kind dX9_node_121 (c_X1_kind (d := d - 1) (gF_fo f hf) hA hW.1 (j := j) (by omega) (by omega)) (gFsh (gF_fo f hf)) (gFlt (gF_fo f hf)) (by decide) rfl rfl rfl (Nat.le_of_ble_eq_true rfl) (by show _ ≤ d; omega) ⟨Nat.le_refl _, Nat.le_refl _⟩ (fun e9 μ' hc => ?_)
      obtain ⟨rfl, rfl⟩ := hc
      refine gg_iconst dX9_node_124 ?_
      refine gg_icmp_ne (tgt := 138) dX9_node_125 (by decide) (by have := (hW.2.2 j (by omega)).1; omega) (fun hb10 => ?_) (fun hb10 => ?_)
      · refine gg_iconst dX9_node_138 ?_
        refine gg_ireti dX9_node_139 rfl ⟨rfl, rfl⟩ ?_
        refine ⟨rfl, ?_⟩
        first | (simp_all [gNd]; done) | (simp_all [gNd]; omega)
      · refine gg_aload dX9_node_128 0 rfl ?_
        refine gg_iload_n dX9_node_130 4 rfl ?_
        refine gg_callVl (own := RX9) (yt := gm_X1_number) rfl gl_RX9_154 gk_X1_number gr_X1_number dX9_node_131 (c_X1_number (d := d - 1) (gF_fo f hf) hA hW.1 (j := j) (by omega) (by omega)) (gFsh (gF_fo f hf)) (gFlt (gF_fo f hf)) (by decide) rfl rfl rfl (Nat.le_of_ble_eq_true rfl) (by show _ ≤ d; omega) ⟨Nat.le_refl _, Nat.le_refl _⟩ (fun e11 μ' hc => ?_)
        obtain ⟨rfl, rfl⟩ := hc
        refine gg_l2i dX9_node_134 ?_
        refine gg_goto (tgt := 139) dX9_node_135 (by decide) ?_
        refine gg_ireti dX9_node_139 rfl ⟨rfl, rfl⟩ ?_
        refine ⟨rfl, ?_⟩
        first | (simp_all [gNd]; done) | (simp_all [gNd]; omega)
    · refine gg_toI (b := 4) (by omega) ?_
      refine gg_tsw_out (tgt := 140) dX9_node_39 (by decide) (by decide) (by decide) ?_
      refine gg_aload dX9_node_140 0 rfl ?_
      refine gg_iload_n dX9_node_142 4 rfl ?_
      refine gg_callVi (own := RX9) (yt := gm_X1_nodes) rfl gl_RX9_158 gk_X1_nodes gr_X1_nodes dX9_node_143 (c_X1_nodes (d := d - 1) (gF_fo f hf) hA hW.1 (j := j) (by omega)) (gFsh (gF_fo f hf)) (gFlt (gF_fo f hf)) (by decide) rfl rfl rfl (Nat.le_of_ble_eq_true rfl) (by show _ ≤ d; omega) ⟨Nat.le_refl _, Nat.le_refl _⟩ (fun e12 μ' hc => ?_)
      obtain ⟨rfl, rfl⟩ := hc
      refine gg_ireti dX9_node_146 rfl ⟨rfl, rfl⟩ ?_
      refine ⟨rfl, ?_⟩
      first | (simp_all [gNd]; done) | (simp_all [gNd]; omega)

set_option maxRecDepth 10000 in
theorem c_X9_node_out {l : Launch} {Γ : gC} {ad : Nat → Nat} {I : Nat → Nat → Int} {J : Nat → Nat → Int64} {d : Nat} {i k w : Int} (hi : -2147483648 ≤ i ∧ i ≤ 2147483647) (hw : -2147483648 ≤ w ∧ w ≤ 2147483647) (ho : ¬ (0 ≤ i ∧ i ≤ 11 ∧ 0 ≤ w ∧ w ≤ 4)) (hd : 3 ≤ d) : gKi l Γ gm_X9_node d [.ref (gad (gSS ad) 0), .int (iv i), .int (iv k), .int (iv w)] (gSS ad, I, J) (fun e μ => μ = (gSS ad, I, J) ∧ e = -2) := by
  refine gKi_of gk_X9_node.1 (Nat.le_of_ble_eq_true rfl) ?_
  show gG l Γ gm_X9_node (d, 0, 0, 0, 0) 0 [(0, .ref (gad (gSS ad) 0)), (1, .int (iv i)), (2, .int (iv k)), (3, .int (iv w))] [] _ _
  refine gg_aload_n dX9_node_0 0 rfl ?_
  refine gg_iload_n dX9_node_1 1 rfl ?_
  refine gg_iload_n dX9_node_2 2 rfl ?_
  refine gg_iload_n dX9_node_3 3 rfl ?_
  refine gg_if_lt (tgt := 16) dX9_node_4 (by decide) (by omega) (fun hb1 => ?_) (fun hb1 => ?_)
  · refine gg_iconst dX9_node_16 ?_
    refine gg_callVi (own := RX9) (yt := gm_X9_refusalOfNode) rfl gl_RX9_147 gk_X9_refusalOfNode gr_X9_refusalOfNode dX9_node_17 (c_X9_refusalOfNode_out (d := d - 1) (b := 0) hi (by omega) (by omega) (by omega)) sh_0 pl_0 (by decide) rfl rfl rfl (Nat.le_of_ble_eq_true rfl) (by show _ ≤ d; omega) ⟨Nat.le_refl _, Nat.le_refl _⟩ (fun e2 μ' hc => ?_)
    obtain ⟨rfl, rfl⟩ := hc
    refine gg_istore (ls' := [(4, .int (iv (-2))), (0, .ref (gad (gSS ad) 0)), (1, .int (iv i)), (2, .int (iv k)), (3, .int (iv w))]) dX9_node_20 (by decide) rfl ?_
    refine gg_iload dX9_node_22 0 rfl ?_
    refine gg_if_eq_f (tgt := 30) dX9_node_24 (by decide) (by decide) (by decide) ?_
    refine gg_iload dX9_node_27 0 rfl ?_
    refine gg_ireti dX9_node_29 rfl ⟨rfl, rfl⟩ ?_
    exact ⟨rfl, rfl⟩
  · refine gg_iload_n dX9_node_7 3 rfl ?_
    refine gg_iconst dX9_node_8 ?_
    refine gg_icmp_gt (tgt := 16) dX9_node_9 (by decide) (by omega) (fun hb3 => ?_) (fun hb3 => ?_)
    · refine gg_iconst dX9_node_16 ?_
      refine gg_callVi (own := RX9) (yt := gm_X9_refusalOfNode) rfl gl_RX9_147 gk_X9_refusalOfNode gr_X9_refusalOfNode dX9_node_17 (c_X9_refusalOfNode_out (d := d - 1) (b := 0) hi (by omega) (by omega) (by omega)) sh_0 pl_0 (by decide) rfl rfl rfl (Nat.le_of_ble_eq_true rfl) (by show _ ≤ d; omega) ⟨Nat.le_refl _, Nat.le_refl _⟩ (fun e4 μ' hc => ?_)
      obtain ⟨rfl, rfl⟩ := hc
      refine gg_istore (ls' := [(4, .int (iv (-2))), (0, .ref (gad (gSS ad) 0)), (1, .int (iv i)), (2, .int (iv k)), (3, .int (iv w))]) dX9_node_20 (by decide) rfl ?_
      refine gg_iload dX9_node_22 0 rfl ?_
      refine gg_if_eq_f (tgt := 30) dX9_node_24 (by decide) (by decide) (by decide) ?_
      refine gg_iload dX9_node_27 0 rfl ?_
      refine gg_ireti dX9_node_29 rfl ⟨rfl, rfl⟩ ?_
      exact ⟨rfl, rfl⟩
    · refine gg_iconst dX9_node_12 ?_
      refine gg_goto (tgt := 17) dX9_node_13 (by decide) ?_
      refine gg_callVi (own := RX9) (yt := gm_X9_refusalOfNode) rfl gl_RX9_147 gk_X9_refusalOfNode gr_X9_refusalOfNode dX9_node_17 (c_X9_refusalOfNode_out (d := d - 1) (b := 1) hi (by omega) (by omega) (by omega)) sh_0 pl_0 (by decide) rfl rfl rfl (Nat.le_of_ble_eq_true rfl) (by show _ ≤ d; omega) ⟨Nat.le_refl _, Nat.le_refl _⟩ (fun e5 μ' hc => ?_)
      obtain ⟨rfl, rfl⟩ := hc
      refine gg_istore (ls' := [(4, .int (iv (-2))), (0, .ref (gad (gSS ad) 0)), (1, .int (iv i)), (2, .int (iv k)), (3, .int (iv w))]) dX9_node_20 (by decide) rfl ?_
      refine gg_iload dX9_node_22 0 rfl ?_
      refine gg_if_eq_f (tgt := 30) dX9_node_24 (by decide) (by decide) (by decide) ?_
      refine gg_iload dX9_node_27 0 rfl ?_
      refine gg_ireti dX9_node_29 rfl ⟨rfl, rfl⟩ ?_
      exact ⟨rfl, rfl⟩

set_option maxRecDepth 10000 in
theorem c_X10_isKind0 {l : Launch} {Γ : gC} {ad : Nat → Nat} {I : Nat → Nat → Int} {J : Nat → Nat → Int64} {d : Nat} {x : Int64} : gKi l Γ gm_X10_isKind d [.int (iv 0), .long x] (gSS ad, I, J) (fun e μ => μ = (gSS ad, I, J) ∧ e = -1) := by
  refine gKi_of gk_X10_isKind.1 (Nat.le_of_ble_eq_true rfl) ?_
  show gG l Γ gm_X10_isKind (d, 0, 0, 0, 0) 0 [(0, .int (iv 0)), (1, .long x)] [] _ _
  refine gg_iload_n dX10_isKind_0 0 rfl ?_
  refine gg_if_eq_t (tgt := 9) dX10_isKind_1 (by decide) (by decide) (by decide) ?_
  refine gg_iconst dX10_isKind_9 ?_
  refine gg_ireti dX10_isKind_10 rfl ⟨rfl, rfl⟩ ?_
  exact ⟨rfl, rfl⟩

set_option maxRecDepth 10000 in
theorem c_X10_isKind1 {l : Launch} {Γ : gC} {ad : Nat → Nat} {I : Nat → Nat → Int} {J : Nat → Nat → Int64} {d : Nat} {x : Int64} : gKi l Γ gm_X10_isKind d [.int (iv 1), .long x] (gSS ad, I, J) (fun e μ => μ = (gSS ad, I, J) ∧ e = gl2i x) := by
  refine gKi_of gk_X10_isKind.1 (Nat.le_of_ble_eq_true rfl) ?_
  show gG l Γ gm_X10_isKind (d, 0, 0, 0, 0) 0 [(0, .int (iv 1)), (1, .long x)] [] _ _
  refine gg_iload_n dX10_isKind_0 0 rfl ?_
  refine gg_if_eq_f (tgt := 9) dX10_isKind_1 (by decide) (by decide) (by decide) ?_
  refine gg_lload_n dX10_isKind_4 1 rfl ?_
  refine gg_l2i dX10_isKind_5 ?_
  refine gg_goto (tgt := 10) dX10_isKind_6 (by decide) ?_
  refine gg_ireti dX10_isKind_10 rfl ⟨rfl, rfl⟩ ?_
  exact ⟨rfl, rfl⟩

set_option maxRecDepth 10000 in
theorem c_X10_node {l : Launch} {Γ : gC} {ad : Nat → Nat} {I : Nat → Nat → Int} {J : Nat → Nat → Int64} {d : Nat} {f n : Nat} {K : Nat → Nat} {N : Nat → Int64} {Z : Nat → Nat} (hf : f < 12) (hM : gMt I J f n K N Z) (hW : gWf n K N Z) {k : Int} {w : Nat} (hk0 : -2147483648 ≤ k ∧ k ≤ 2147483647) (hw : w ≤ 4) (hd : 3 ≤ d) : gKi l Γ gm_X10_node d [.ref (gad (gSS ad) 145), .int (iv (f : Int)), .int (iv k), .int (iv (w : Int))] (gSS ad, I, J) (fun e μ => μ = (gSS ad, I, J) ∧ e = gNd n K N Z k w) := by
  refine gKi_of gk_X10_node.1 (Nat.le_of_ble_eq_true rfl) ?_
  show gG l Γ gm_X10_node (d, 0, 0, 0, 0) 0 [(0, .ref (gad (gSS ad) 145)), (1, .int (iv (f : Int))), (2, .int (iv k)), (3, .int (iv (w : Int)))] [] _ _
  have hn := hW.1
  refine gg_iload_n dX10_node_0 1 rfl ?_
  refine gg_callSi (own := RX10) (yt := gm_X10_isFormula) rfl gl_RX10_181 gk_X10_isFormula gr_X10_isFormula dX10_node_1 (c_X10_isFormula (d := d - 1) (by omega) (by omega)) rfl rfl (Nat.le_of_ble_eq_true rfl) (by show _ ≤ d; omega) ⟨Nat.le_refl _, Nat.le_refl _⟩ (fun e1 μ' hc => ?_)
  obtain ⟨rfl, ⟨rfl, hb2⟩ | ⟨rfl, hb2⟩⟩ := hc
  rotate_left
  · omega
  refine gg_if_eq_f (tgt := 16) dX10_node_4 (by decide) (by decide) (by decide) ?_
  refine gg_iload_n dX10_node_7 3 rfl ?_
  refine gg_iconst dX10_node_8 ?_
  refine gg_iconst dX10_node_9 ?_
  refine gg_callSi (own := RX10) (yt := gm_X10_in) rfl gl_RX10_84 gk_X10_in gr_X10_in dX10_node_10 (c_X10_in (d := d - 1) (by omega)) rfl rfl (Nat.le_of_ble_eq_true rfl) (by show _ ≤ d; omega) ⟨Nat.le_refl _, Nat.le_refl _⟩ (fun e3 μ' hc => ?_)
  obtain ⟨rfl, ⟨rfl, hb4⟩ | ⟨rfl, hb4⟩⟩ := hc
  rotate_left
  · omega
  refine gg_if_ne_t (tgt := 19) dX10_node_13 (by decide) (by decide) (by decide) ?_
  refine gg_aload_n dX10_node_19 0 rfl ?_
  refine gg_getR (k' := 146) rfl gf_RX10_9 dX10_node_20 sh_145 pl_145 (by decide) (by decide) rr_145_0 ?_
  refine gg_iload_n dX10_node_23 1 rfl ?_
  refine gg_ialdj f dX10_node_24 sh_146 pl_146 (by decide) rfl hf ?_
  refine gg_toI (b := (n : Int)) hM.1 ?_
  refine gg_if_ne (tgt := 31) dX10_node_25 (by decide) (by omega) (fun hn0 => ?_) (fun hn0 => ?_)
  · refine gg_iload_n dX10_node_31 2 rfl ?_
    refine gg_iconst dX10_node_32 ?_
    refine gg_aload_n dX10_node_33 0 rfl ?_
    refine gg_getR (k' := 146) rfl gf_RX10_9 dX10_node_34 sh_145 pl_145 (by decide) (by decide) rr_145_0 ?_
    refine gg_iload_n dX10_node_37 1 rfl ?_
    refine gg_ialdj f dX10_node_38 sh_146 pl_146 (by decide) rfl hf ?_
    refine gg_toI (b := (n : Int)) hM.1 ?_
    refine gg_iconst dX10_node_39 ?_
    refine gg_isub dX10_node_40 ?_
    refine gg_callSi (own := RX10) (yt := gm_X10_in) rfl gl_RX10_84 gk_X10_in gr_X10_in dX10_node_41 (c_X10_in (d := d - 1) (by omega)) rfl rfl (Nat.le_of_ble_eq_true rfl) (by show _ ≤ d; omega) ⟨Nat.le_refl _, Nat.le_refl _⟩ (fun e5 μ' hc => ?_)
    obtain ⟨rfl, ⟨rfl, hk⟩ | ⟨rfl, hk⟩⟩ := hc
    · obtain ⟨j, rfl⟩ : ∃ j : Nat, k = (j : Int) := ⟨k.toNat, by omega⟩
      refine gg_if_ne_t (tgt := 50) dX10_node_44 (by decide) (by decide) (by decide) ?_
      refine gg_aload_n dX10_node_50 0 rfl ?_
      refine gg_getR (k' := 147) rfl gf_RX10_15 dX10_node_51 sh_145 pl_145 (by decide) (by decide) rr_145_1 ?_
      refine gg_iload_n dX10_node_54 1 rfl ?_
      refine gg_aaldj (t := 6) f (k' := (148 + f)) dX10_node_55 sh_147 (by decide) pl_147 (by decide) rfl hf (rr_147 hf) ?_
      refine gg_iload_n dX10_node_56 2 rfl ?_
      refine gg_ialdj j dX10_node_57 (rs_147 hf) (rl_147 hf) (by decide) rfl (by omega) ?_
      refine gg_toI (b := (K j : Int)) (hM.2 j (by omega)).1 ?_
      refine gg_istore (ls' := [(4, .int (iv (K j : Int))), (0, .ref (gad (gSS ad) 145)), (1, .int (iv (f : Int))), (2, .int (iv (j : Int))), (3, .int (iv (w : Int)))]) dX10_node_58 (by decide) rfl ?_
      refine gg_aload_n dX10_node_60 1 rfl ?_
      refine gg_getR (k' := 160) rfl gf_RX10_20 dX10_node_61 sh_145 pl_145 (by decide) (by decide) rr_145_2 ?_
      refine gg_iload_n dX10_node_64 2 rfl ?_
      refine gg_aaldj (t := 7) f (k' := (161 + f)) dX10_node_65 sh_160 (by decide) pl_160 (by decide) rfl (by omega) (rr_160 (by omega)) ?_
      refine gg_iload_n dX10_node_66 3 rfl ?_
      refine gg_laldj j dX10_node_67 (rs_160 (by omega)) (rl_160 (by omega)) (by decide) rfl (by omega) ?_
      refine gg_toL (b := N j) (hM.2 j (by omega)).2.1 ?_
      refine gg_lstore (ls' := [(5, .long (N j)), (4, .int (iv (K j : Int))), (0, .ref (gad (gSS ad) 145)), (1, .int (iv (f : Int))), (2, .int (iv (j : Int))), (3, .int (iv (w : Int)))]) dX10_node_68 (by decide) rfl ?_
      refine gg_iload_n dX10_node_70 5 rfl ?_
      obtain hw4 | hw4 | hw4 | hw4 | hw4 := (by omega : w = 0 ∨ w = 1 ∨ w = 2 ∨ w = 3 ∨ w = 4)
      · refine gg_toI (b := 0) (by omega) ?_
        refine gg_tsw (off := 29) (tgt := 100) dX10_node_71 (by decide) (by decide) rfl (by decide) ?_
        refine gg_iload dX10_node_100 1 rfl ?_
        refine gg_ireti dX10_node_102 rfl ⟨rfl, rfl⟩ ?_
        refine ⟨rfl, ?_⟩
        first | (simp_all [gNd]; done) | (simp_all [gNd]; omega)
      · refine gg_toI (b := 1) (by omega) ?_
        refine gg_tsw (off := 32) (tgt := 103) dX10_node_71 (by decide) (by decide) rfl (by decide) ?_
        refine gg_iload dX10_node_103 1 rfl ?_
        refine gg_if_ne (tgt := 112) dX10_node_105 (by decide) (by have := (hW.2.2 j (by omega)).1; omega) (fun hb6 => ?_) (fun hb6 => ?_)
        · refine gg_iconst dX10_node_112 ?_
          refine gg_lload dX10_node_113 0 rfl ?_
          refine gg_callSi (own := RX10) (yt := gm_X10_isKind) rfl gl_RX10_239 gk_X10_isKind gr_X10_isKind dX10_node_115 (c_X10_isKind0 (d := d - 1)) rfl rfl (Nat.le_of_ble_eq_true rfl) (by show _ ≤ d; omega) ⟨Nat.le_refl _, Nat.le_refl _⟩ (fun e7 μ' hc => ?_)
          obtain ⟨rfl, rfl⟩ := hc
          refine gg_ireti dX10_node_118 rfl ⟨rfl, rfl⟩ ?_
          refine ⟨rfl, ?_⟩
          first | (simp_all [gNd]; done) | (simp_all [gNd]; omega)
        · refine gg_iconst dX10_node_108 ?_
          refine gg_goto (tgt := 113) dX10_node_109 (by decide) ?_
          refine gg_lload dX10_node_113 0 rfl ?_
          refine gg_callSi (own := RX10) (yt := gm_X10_isKind) rfl gl_RX10_239 gk_X10_isKind gr_X10_isKind dX10_node_115 (c_X10_isKind1 (d := d - 1)) rfl rfl (Nat.le_of_ble_eq_true rfl) (by show _ ≤ d; omega) ⟨Nat.le_refl _, Nat.le_refl _⟩ (fun e8 μ' hc => ?_)
          obtain ⟨rfl, rfl⟩ := hc
          refine gg_ireti dX10_node_118 rfl ⟨rfl, rfl⟩ ?_
          refine ⟨rfl, ?_⟩
          first | (simp_all [gNd]; done) | (simp_all [gNd]; omega)
      · refine gg_toI (b := 2) (by omega) ?_
        refine gg_tsw (off := 48) (tgt := 119) dX10_node_71 (by decide) (by decide) rfl (by decide) ?_
        refine gg_iload dX10_node_119 1 rfl ?_
        refine gg_iconst dX10_node_121 ?_
        refine gg_icmp_ne (tgt := 129) dX10_node_122 (by decide) (by have := (hW.2.2 j (by omega)).1; omega) (fun hb9 => ?_) (fun hb9 => ?_)
        · refine gg_iconst dX10_node_129 ?_
          refine gg_lload dX10_node_130 0 rfl ?_
          refine gg_callSi (own := RX10) (yt := gm_X10_isKind) rfl gl_RX10_239 gk_X10_isKind gr_X10_isKind dX10_node_132 (c_X10_isKind0 (d := d - 1)) rfl rfl (Nat.le_of_ble_eq_true rfl) (by show _ ≤ d; omega) ⟨Nat.le_refl _, Nat.le_refl _⟩ (fun e10 μ' hc => ?_)
          obtain ⟨rfl, rfl⟩ := hc
          refine gg_ireti dX10_node_135 rfl ⟨rfl, rfl⟩ ?_
          refine ⟨rfl, ?_⟩
          first | (simp_all [gNd]; done) | (simp_all [gNd]; omega)
        · refine gg_iconst dX10_node_125 ?_
          refine gg_goto (tgt := 130) dX10_node_126 (by decide) ?_
          refine gg_lload dX10_node_130 0 rfl ?_
          refine gg_callSi (own := RX10) (yt := gm_X10_isKind) rfl gl_RX10_239 gk_X10_isKind gr_X10_isKind dX10_node_132 (c_X10_isKind1 (d := d - 1)) rfl rfl (Nat.le_of_ble_eq_true rfl) (by show _ ≤ d; omega) ⟨Nat.le_refl _, Nat.le_refl _⟩ (fun e11 μ' hc => ?_)
          obtain ⟨rfl, rfl⟩ := hc
          refine gg_ireti dX10_node_135 rfl ⟨rfl, rfl⟩ ?_
          refine ⟨rfl, ?_⟩
          first | (simp_all [gNd]; done) | (simp_all [gNd]; omega)
      · refine gg_toI (b := 3) (by omega) ?_
        refine gg_tsw (off := 65) (tgt := 136) dX10_node_71 (by decide) (by decide) rfl (by decide) ?_
        refine gg_iload dX10_node_136 1 rfl ?_
        refine gg_iconst dX10_node_138 ?_
        refine gg_icmp_ne (tgt := 146) dX10_node_139 (by decide) (by have := (hW.2.2 j (by omega)).1; omega) (fun hb12 => ?_) (fun hb12 => ?_)
        · refine gg_iconst dX10_node_146 ?_
          refine gg_lload dX10_node_147 0 rfl ?_
          refine gg_callSi (own := RX10) (yt := gm_X10_isKind) rfl gl_RX10_239 gk_X10_isKind gr_X10_isKind dX10_node_149 (c_X10_isKind0 (d := d - 1)) rfl rfl (Nat.le_of_ble_eq_true rfl) (by show _ ≤ d; omega) ⟨Nat.le_refl _, Nat.le_refl _⟩ (fun e13 μ' hc => ?_)
          obtain ⟨rfl, rfl⟩ := hc
          refine gg_ireti dX10_node_152 rfl ⟨rfl, rfl⟩ ?_
          refine ⟨rfl, ?_⟩
          first | (simp_all [gNd]; done) | (simp_all [gNd]; omega)
        · refine gg_iconst dX10_node_142 ?_
          refine gg_goto (tgt := 147) dX10_node_143 (by decide) ?_
          refine gg_lload dX10_node_147 0 rfl ?_
          refine gg_callSi (own := RX10) (yt := gm_X10_isKind) rfl gl_RX10_239 gk_X10_isKind gr_X10_isKind dX10_node_149 (c_X10_isKind1 (d := d - 1)) rfl rfl (Nat.le_of_ble_eq_true rfl) (by show _ ≤ d; omega) ⟨Nat.le_refl _, Nat.le_refl _⟩ (fun e14 μ' hc => ?_)
          obtain ⟨rfl, rfl⟩ := hc
          refine gg_ireti dX10_node_152 rfl ⟨rfl, rfl⟩ ?_
          refine ⟨rfl, ?_⟩
          first | (simp_all [gNd]; done) | (simp_all [gNd]; omega)
      · refine gg_toI (b := 4) (by omega) ?_
        refine gg_tsw_out (tgt := 153) dX10_node_71 (by decide) (by decide) (by decide) ?_
        refine gg_aload_n dX10_node_153 2 rfl ?_
        refine gg_getR (k' := 173) rfl gf_RX10_23 dX10_node_154 sh_145 pl_145 (by decide) (by decide) rr_145_3 ?_
        refine gg_iload_n dX10_node_157 3 rfl ?_
        refine gg_aaldj (t := 6) f (k' := (174 + f)) dX10_node_158 sh_173 (by decide) pl_173 (by decide) rfl hf (rr_173 hf) ?_
        refine gg_iload_n dX10_node_159 4 rfl ?_
        refine gg_ialdj j dX10_node_160 (rs_173 hf) (rl_173 hf) (by decide) rfl (by omega) ?_
        refine gg_toI (b := ((j : Int) + Z j)) (hM.2 j (by omega)).2.2 ?_
        refine gg_iload_n dX10_node_161 4 rfl ?_
        refine gg_isub dX10_node_162 ?_
        refine gg_ireti dX10_node_163 rfl ⟨rfl, rfl⟩ ?_
        refine ⟨rfl, ?_⟩
        first | (simp_all [gNd]; done) | (simp_all [gNd]; omega)
    · refine gg_if_ne_f (tgt := 50) dX10_node_44 (by decide) (by decide) (by decide) ?_
      refine gg_bipush dX10_node_47 (by decide) ?_
      refine gg_ireti dX10_node_49 rfl ⟨rfl, rfl⟩ ?_
      refine ⟨rfl, ?_⟩
      first | (simp_all [gNd]; done) | (simp_all [gNd]; omega)
  · refine gg_bipush dX10_node_28 (by decide) ?_
    refine gg_ireti dX10_node_30 rfl ⟨rfl, rfl⟩ ?_
    refine ⟨rfl, ?_⟩
    first | (simp_all [gNd]; done) | (simp_all [gNd]; omega)

set_option maxRecDepth 10000 in
theorem c_X10_node_out {l : Launch} {Γ : gC} {ad : Nat → Nat} {I : Nat → Nat → Int} {J : Nat → Nat → Int64} {d : Nat} {i k w : Int} (hi : -2147483648 ≤ i ∧ i ≤ 2147483647) (hw : -2147483648 ≤ w ∧ w ≤ 2147483647) (ho : ¬ (0 ≤ i ∧ i ≤ 11 ∧ 0 ≤ w ∧ w ≤ 4)) (hd : 3 ≤ d) : gKi l Γ gm_X10_node d [.ref (gad (gSS ad) 145), .int (iv i), .int (iv k), .int (iv w)] (gSS ad, I, J) (fun e μ => μ = (gSS ad, I, J) ∧ e = -2) := by
  refine gKi_of gk_X10_node.1 (Nat.le_of_ble_eq_true rfl) ?_
  show gG l Γ gm_X10_node (d, 0, 0, 0, 0) 0 [(0, .ref (gad (gSS ad) 145)), (1, .int (iv i)), (2, .int (iv k)), (3, .int (iv w))] [] _ _
  refine gg_iload_n dX10_node_0 1 rfl ?_
  refine gg_callSi (own := RX10) (yt := gm_X10_isFormula) rfl gl_RX10_181 gk_X10_isFormula gr_X10_isFormula dX10_node_1 (c_X10_isFormula (d := d - 1) (by omega) (by omega)) rfl rfl (Nat.le_of_ble_eq_true rfl) (by show _ ≤ d; omega) ⟨Nat.le_refl _, Nat.le_refl _⟩ (fun e1 μ' hc => ?_)
  obtain ⟨rfl, ⟨rfl, hb2⟩ | ⟨rfl, hb2⟩⟩ := hc
  · refine gg_if_eq_f (tgt := 16) dX10_node_4 (by decide) (by decide) (by decide) ?_
    refine gg_iload_n dX10_node_7 3 rfl ?_
    refine gg_iconst dX10_node_8 ?_
    refine gg_iconst dX10_node_9 ?_
    refine gg_callSi (own := RX10) (yt := gm_X10_in) rfl gl_RX10_84 gk_X10_in gr_X10_in dX10_node_10 (c_X10_in (d := d - 1) (by omega)) rfl rfl (Nat.le_of_ble_eq_true rfl) (by show _ ≤ d; omega) ⟨Nat.le_refl _, Nat.le_refl _⟩ (fun e3 μ' hc => ?_)
    obtain ⟨rfl, ⟨rfl, hb4⟩ | ⟨rfl, hb4⟩⟩ := hc
    · refine gg_if_ne_t (tgt := 19) dX10_node_13 (by decide) (by decide) (by decide) ?_
      exfalso
      omega
    · refine gg_if_ne_f (tgt := 19) dX10_node_13 (by decide) (by decide) (by decide) ?_
      refine gg_bipush dX10_node_16 (by decide) ?_
      refine gg_ireti dX10_node_18 rfl ⟨rfl, rfl⟩ ?_
      exact ⟨rfl, rfl⟩
  · refine gg_if_eq_t (tgt := 16) dX10_node_4 (by decide) (by decide) (by decide) ?_
    refine gg_bipush dX10_node_16 (by decide) ?_
    refine gg_ireti dX10_node_18 rfl ⟨rfl, rfl⟩ ?_
    exact ⟨rfl, rfl⟩

set_option maxRecDepth 10000 in
theorem c_X9_taken {l : Launch} {Γ : gC} {ad : Nat → Nat} {I : Nat → Nat → Int} {J : Nat → Nat → Int64} {d : Nat} {f n : Nat} {K : Nat → Nat} {N : Nat → Int64} {Z : Nat → Nat} (hf : f < 12) (hA : gAt I J (41 + 8 * f) n K N Z) (hW : gWf n K N Z) {k : Int} {q : Nat} (hk0 : -2147483648 ≤ k ∧ k ≤ 2147483647) (hq : q < 8) (hd : 3 ≤ d) : gKi l Γ gm_X9_taken d [.ref (gad (gSS ad) 0), .int (iv (f : Int)), .int (iv k), .int (iv (q : Int))] (gSS ad, I, J) (fun e μ => μ = (gSS ad, I, J) ∧ e = gTk n K Z k q) := by
  refine gKi_of gk_X9_taken.1 (Nat.le_of_ble_eq_true rfl) ?_
  show gG l Γ gm_X9_taken (d, 0, 0, 0, 0) 0 [(0, .ref (gad (gSS ad) 0)), (1, .int (iv (f : Int))), (2, .int (iv k)), (3, .int (iv (q : Int)))] [] _ _
  have hn := hW.1
  refine gg_aload_n dX9_taken_0 0 rfl ?_
  refine gg_iload_n dX9_taken_1 1 rfl ?_
  refine gg_iload_n dX9_taken_2 2 rfl ?_
  refine gg_iload_n dX9_taken_3 3 rfl ?_
  refine gg_callSi (own := RX9) (yt := gm_X9_isKind) rfl gl_RX9_159 gk_X9_isKind gr_X9_isKind dX9_taken_4 (c_X9_isKind (d := d - 1) (by omega)) rfl rfl (Nat.le_of_ble_eq_true rfl) (by show _ ≤ d; omega) ⟨Nat.le_refl _, Nat.le_refl _⟩ (fun e1 μ' hc => ?_)
  obtain ⟨rfl, ⟨rfl, hb2⟩ | ⟨rfl, hb2⟩⟩ := hc
  rotate_left
  · omega
  refine gg_callVi (own := RX9) (yt := gm_X9_refusalOfNode) rfl gl_RX9_147 gk_X9_refusalOfNode gr_X9_refusalOfNode dX9_taken_7 (c_X9_refusalOfNode (d := d - 1) hf hA hW hk0 (by omega)) sh_0 pl_0 (by decide) rfl rfl rfl (Nat.le_of_ble_eq_true rfl) (by show _ ≤ d; omega) ⟨Nat.le_refl _, Nat.le_refl _⟩ (fun e3 μ' hc => ?_)
  obtain ⟨rfl, ⟨rfl, hn0⟩ | ⟨rfl, hn0⟩ | ⟨rfl, hn0⟩⟩ := hc
  · refine gg_istore (ls' := [(4, .int (iv (-3))), (0, .ref (gad (gSS ad) 0)), (1, .int (iv (f : Int))), (2, .int (iv k)), (3, .int (iv (q : Int)))]) dX9_taken_10 (by decide) rfl ?_
    refine gg_iload dX9_taken_12 0 rfl ?_
    refine gg_if_eq_f (tgt := 20) dX9_taken_14 (by decide) (by decide) (by decide) ?_
    refine gg_iload dX9_taken_17 0 rfl ?_
    refine gg_ireti dX9_taken_19 rfl ⟨rfl, rfl⟩ ?_
    refine ⟨rfl, ?_⟩
    first | (simp_all [gTk]; done) | (simp_all [gTk]; omega)
  · refine gg_istore (ls' := [(4, .int (iv (-12))), (0, .ref (gad (gSS ad) 0)), (1, .int (iv (f : Int))), (2, .int (iv k)), (3, .int (iv (q : Int)))]) dX9_taken_10 (by decide) rfl ?_
    refine gg_iload dX9_taken_12 0 rfl ?_
    refine gg_if_eq_f (tgt := 20) dX9_taken_14 (by decide) (by decide) (by decide) ?_
    refine gg_iload dX9_taken_17 0 rfl ?_
    refine gg_ireti dX9_taken_19 rfl ⟨rfl, rfl⟩ ?_
    refine ⟨rfl, ?_⟩
    first | (simp_all [gTk]; done) | (simp_all [gTk]; omega)
  · obtain ⟨j, rfl⟩ : ∃ j : Nat, k = (j : Int) := ⟨k.toNat, by omega⟩
    refine gg_istore (ls' := [(4, .int (iv 0)), (0, .ref (gad (gSS ad) 0)), (1, .int (iv (f : Int))), (2, .int (iv (j : Int))), (3, .int (iv (q : Int)))]) dX9_taken_10 (by decide) rfl ?_
    refine gg_iload dX9_taken_12 0 rfl ?_
    refine gg_if_eq_t (tgt := 20) dX9_taken_14 (by decide) (by decide) (by decide) ?_
    refine gg_aload_n dX9_taken_20 1 rfl ?_
    refine gg_getR (k' := 1) rfl gf_RX9_11 dX9_taken_21 sh_0 pl_0 (by decide) (by decide) rr_0_0 ?_
    refine gg_iload_n dX9_taken_24 2 rfl ?_
    refine gg_aaldj (t := 4) f (k' := (41 + 8 * f)) dX9_taken_25 sh_1 (by decide) pl_1 (by decide) rfl hf (rr_1 hf) ?_
    refine gg_astore (ls' := [(5, .ref (gad (gSS ad) (41 + 8 * f))), (4, .int (iv 0)), (0, .ref (gad (gSS ad) 0)), (1, .int (iv (f : Int))), (2, .int (iv (j : Int))), (3, .int (iv (q : Int)))]) dX9_taken_26 (by decide) rfl ?_
    refine gg_aload dX9_taken_28 0 rfl ?_
    refine gg_iload_n dX9_taken_30 4 rfl ?_
    refine gg_callVi (own := RX9) (yt := gm_X1_kind) rfl gl_RX9_151 gk_X1_kind gr_X1_kind dX9_taken_31 (c_X1_kind (d := d - 1) (gF_fo f hf) hA hW.1 (j := j) (by omega) (by omega)) (gFsh (gF_fo f hf)) (gFlt (gF_fo f hf)) (by decide) rfl rfl rfl (Nat.le_of_ble_eq_true rfl) (by show _ ≤ d; omega) ⟨Nat.le_refl _, Nat.le_refl _⟩ (fun e4 μ' hc => ?_)
    obtain ⟨rfl, rfl⟩ := hc
    refine gg_iload_n dX9_taken_34 5 rfl ?_
    refine gg_icmp_ne (tgt := 45) dX9_taken_35 (by decide) (by have := (hW.2.2 j (by omega)).1; omega) (fun hx1 => ?_) (fun hx1 => ?_)
    · refine gg_aload dX9_taken_45 0 rfl ?_
      refine gg_iload_n dX9_taken_47 4 rfl ?_
      refine gg_callVi (own := RX9) (yt := gm_X1_kind) rfl gl_RX9_151 gk_X1_kind gr_X1_kind dX9_taken_48 (c_X1_kind (d := d - 1) (gF_fo f hf) hA hW.1 (j := j) (by omega) (by omega)) (gFsh (gF_fo f hf)) (gFlt (gF_fo f hf)) (by decide) rfl rfl rfl (Nat.le_of_ble_eq_true rfl) (by show _ ≤ d; omega) ⟨Nat.le_refl _, Nat.le_refl _⟩ (fun e5 μ' hc => ?_)
      obtain ⟨rfl, rfl⟩ := hc
      refine gg_bipush dX9_taken_51 (by decide) ?_
      refine gg_icmp_ne (tgt := 78) dX9_taken_53 (by decide) (by have := (hW.2.2 j (by omega)).1; omega) (fun hx2 => ?_) (fun hx2 => ?_)
      · refine gg_bipush dX9_taken_78 (by decide) ?_
        refine gg_ireti dX9_taken_80 rfl ⟨rfl, rfl⟩ ?_
        refine ⟨rfl, ?_⟩
        first | (simp_all [gTk]; done) | (simp_all [gTk]; omega)
      · have hk7 : K j = 7 := by omega
        have hc1 := (hW.2.2 j (by omega)).2.2.2.2.2.2.2.1 (by rw [hk7]; decide)
        have he1 := (hW.2.2 j (by omega)).2.2.2.2.1 (by rw [hk7]; rfl)
        refine gg_iload_n dX9_taken_56 5 rfl ?_
        refine gg_iconst dX9_taken_57 ?_
        refine gg_icmp_ne (tgt := 78) dX9_taken_58 (by decide) (by omega) (fun hx3 => ?_) (fun hx3 => ?_)
        · refine gg_bipush dX9_taken_78 (by decide) ?_
          refine gg_ireti dX9_taken_80 rfl ⟨rfl, rfl⟩ ?_
          refine ⟨rfl, ?_⟩
          first | (simp_all [gTk]; done) | (simp_all [gTk]; omega)
        · refine gg_iconst dX9_taken_61 ?_
          refine gg_iconst dX9_taken_62 ?_
          refine gg_aload dX9_taken_63 0 rfl ?_
          refine gg_aload dX9_taken_65 0 rfl ?_
          refine gg_iload_n dX9_taken_67 4 rfl ?_
          refine gg_iconst dX9_taken_68 ?_
          refine gg_callVi (own := RX9) (yt := gm_X1_part) rfl gl_RX9_162 gk_X1_part gr_X1_part dX9_taken_69 (c_X1_part0 (d := d - 1) (gF_fo f hf) hA hW.1 (j := j) (by omega) (by omega)) (gFsh (gF_fo f hf)) (gFlt (gF_fo f hf)) (by decide) rfl rfl rfl (Nat.le_of_ble_eq_true rfl) (by show _ ≤ d; omega) ⟨Nat.le_refl _, Nat.le_refl _⟩ (fun e6 μ' hc => ?_)
          obtain ⟨rfl, rfl⟩ := hc
          refine gg_callVi (own := RX9) (yt := gm_X1_nodes) rfl gl_RX9_158 gk_X1_nodes gr_X1_nodes dX9_taken_72 (c_X1_nodes (d := d - 1) (gF_fo f hf) hA hW.1 (j := j + 1) hc1) (gFsh (gF_fo f hf)) (gFlt (gF_fo f hf)) (by decide) rfl rfl rfl (Nat.le_of_ble_eq_true rfl) (by show _ ≤ d; omega) ⟨Nat.le_refl _, Nat.le_refl _⟩ (fun e7 μ' hc => ?_)
          obtain ⟨rfl, rfl⟩ := hc
          refine gg_imul dX9_taken_75 ?_
          refine gg_iadd dX9_taken_76 ?_
          refine gg_ireti dX9_taken_77 rfl ⟨rfl, rfl⟩ ?_
          refine ⟨rfl, ?_⟩
          first | (simp_all [gTk]; done) | (simp_all [gTk]; omega)
    · refine gg_aload dX9_taken_38 0 rfl ?_
      refine gg_iload_n dX9_taken_40 4 rfl ?_
      refine gg_callVi (own := RX9) (yt := gm_X1_nodes) rfl gl_RX9_158 gk_X1_nodes gr_X1_nodes dX9_taken_41 (c_X1_nodes (d := d - 1) (gF_fo f hf) hA hW.1 (j := j) (by omega)) (gFsh (gF_fo f hf)) (gFlt (gF_fo f hf)) (by decide) rfl rfl rfl (Nat.le_of_ble_eq_true rfl) (by show _ ≤ d; omega) ⟨Nat.le_refl _, Nat.le_refl _⟩ (fun e8 μ' hc => ?_)
      obtain ⟨rfl, rfl⟩ := hc
      refine gg_ireti dX9_taken_44 rfl ⟨rfl, rfl⟩ ?_
      refine ⟨rfl, ?_⟩
      first | (simp_all [gTk]; done) | (simp_all [gTk]; omega)

set_option maxRecDepth 10000 in
theorem c_X9_taken_out {l : Launch} {Γ : gC} {ad : Nat → Nat} {I : Nat → Nat → Int} {J : Nat → Nat → Int64} {d : Nat} {i k q : Int} (hi : -2147483648 ≤ i ∧ i ≤ 2147483647) (hq : -2147483648 ≤ q ∧ q ≤ 2147483647) (ho : ¬ (0 ≤ i ∧ i ≤ 11 ∧ 0 ≤ q ∧ q ≤ 7)) (hd : 3 ≤ d) : gKi l Γ gm_X9_taken d [.ref (gad (gSS ad) 0), .int (iv i), .int (iv k), .int (iv q)] (gSS ad, I, J) (fun e μ => μ = (gSS ad, I, J) ∧ e = -2) := by
  refine gKi_of gk_X9_taken.1 (Nat.le_of_ble_eq_true rfl) ?_
  show gG l Γ gm_X9_taken (d, 0, 0, 0, 0) 0 [(0, .ref (gad (gSS ad) 0)), (1, .int (iv i)), (2, .int (iv k)), (3, .int (iv q))] [] _ _
  refine gg_aload_n dX9_taken_0 0 rfl ?_
  refine gg_iload_n dX9_taken_1 1 rfl ?_
  refine gg_iload_n dX9_taken_2 2 rfl ?_
  refine gg_iload_n dX9_taken_3 3 rfl ?_
  refine gg_callSi (own := RX9) (yt := gm_X9_isKind) rfl gl_RX9_159 gk_X9_isKind gr_X9_isKind dX9_taken_4 (c_X9_isKind (d := d - 1) (by omega)) rfl rfl (Nat.le_of_ble_eq_true rfl) (by show _ ≤ d; omega) ⟨Nat.le_refl _, Nat.le_refl _⟩ (fun e1 μ' hc => ?_)
  obtain ⟨rfl, ⟨rfl, hb2⟩ | ⟨rfl, hb2⟩⟩ := hc
  · refine gg_callVi (own := RX9) (yt := gm_X9_refusalOfNode) rfl gl_RX9_147 gk_X9_refusalOfNode gr_X9_refusalOfNode dX9_taken_7 (c_X9_refusalOfNode_out (d := d - 1) (b := 1) hi (by omega) (by omega) (by omega)) sh_0 pl_0 (by decide) rfl rfl rfl (Nat.le_of_ble_eq_true rfl) (by show _ ≤ d; omega) ⟨Nat.le_refl _, Nat.le_refl _⟩ (fun e3 μ' hc => ?_)
    obtain ⟨rfl, rfl⟩ := hc
    refine gg_istore (ls' := [(4, .int (iv (-2))), (0, .ref (gad (gSS ad) 0)), (1, .int (iv i)), (2, .int (iv k)), (3, .int (iv q))]) dX9_taken_10 (by decide) rfl ?_
    refine gg_iload dX9_taken_12 0 rfl ?_
    refine gg_if_eq_f (tgt := 20) dX9_taken_14 (by decide) (by decide) (by decide) ?_
    refine gg_iload dX9_taken_17 0 rfl ?_
    refine gg_ireti dX9_taken_19 rfl ⟨rfl, rfl⟩ ?_
    exact ⟨rfl, rfl⟩
  · refine gg_callVi (own := RX9) (yt := gm_X9_refusalOfNode) rfl gl_RX9_147 gk_X9_refusalOfNode gr_X9_refusalOfNode dX9_taken_7 (c_X9_refusalOfNode_out (d := d - 1) (b := 0) hi (by omega) (by omega) (by omega)) sh_0 pl_0 (by decide) rfl rfl rfl (Nat.le_of_ble_eq_true rfl) (by show _ ≤ d; omega) ⟨Nat.le_refl _, Nat.le_refl _⟩ (fun e4 μ' hc => ?_)
    obtain ⟨rfl, rfl⟩ := hc
    refine gg_istore (ls' := [(4, .int (iv (-2))), (0, .ref (gad (gSS ad) 0)), (1, .int (iv i)), (2, .int (iv k)), (3, .int (iv q))]) dX9_taken_10 (by decide) rfl ?_
    refine gg_iload dX9_taken_12 0 rfl ?_
    refine gg_if_eq_f (tgt := 20) dX9_taken_14 (by decide) (by decide) (by decide) ?_
    refine gg_iload dX9_taken_17 0 rfl ?_
    refine gg_ireti dX9_taken_19 rfl ⟨rfl, rfl⟩ ?_
    exact ⟨rfl, rfl⟩

set_option maxRecDepth 10000 in
theorem c_X10_taken {l : Launch} {Γ : gC} {ad : Nat → Nat} {I : Nat → Nat → Int} {J : Nat → Nat → Int64} {d : Nat} {f n : Nat} {K : Nat → Nat} {N : Nat → Int64} {Z : Nat → Nat} (hf : f < 12) (hM : gMt I J f n K N Z) (hW : gWf n K N Z) {k : Int} {q : Nat} (hk0 : -2147483648 ≤ k ∧ k ≤ 2147483647) (hq : q < 8) (hd : 3 ≤ d) : gKi l Γ gm_X10_taken d [.ref (gad (gSS ad) 145), .int (iv (f : Int)), .int (iv k), .int (iv (q : Int))] (gSS ad, I, J) (fun e μ => μ = (gSS ad, I, J) ∧ e = gTk n K Z k q) := by
  refine gKi_of gk_X10_taken.1 (Nat.le_of_ble_eq_true rfl) ?_
  show gG l Γ gm_X10_taken (d, 0, 0, 0, 0) 0 [(0, .ref (gad (gSS ad) 145)), (1, .int (iv (f : Int))), (2, .int (iv k)), (3, .int (iv (q : Int)))] [] _ _
  have hn := hW.1
  refine gg_iload_n dX10_taken_0 1 rfl ?_
  refine gg_callSi (own := RX10) (yt := gm_X10_isFormula) rfl gl_RX10_181 gk_X10_isFormula gr_X10_isFormula dX10_taken_1 (c_X10_isFormula (d := d - 1) (by omega) (by omega)) rfl rfl (Nat.le_of_ble_eq_true rfl) (by show _ ≤ d; omega) ⟨Nat.le_refl _, Nat.le_refl _⟩ (fun e1 μ' hc => ?_)
  obtain ⟨rfl, ⟨rfl, hb2⟩ | ⟨rfl, hb2⟩⟩ := hc
  rotate_left
  · omega
  refine gg_if_eq_f (tgt := 17) dX10_taken_4 (by decide) (by decide) (by decide) ?_
  refine gg_iload_n dX10_taken_7 3 rfl ?_
  refine gg_iconst dX10_taken_8 ?_
  refine gg_bipush dX10_taken_9 (by decide) ?_
  refine gg_callSi (own := RX10) (yt := gm_X10_in) rfl gl_RX10_84 gk_X10_in gr_X10_in dX10_taken_11 (c_X10_in (d := d - 1) (by omega)) rfl rfl (Nat.le_of_ble_eq_true rfl) (by show _ ≤ d; omega) ⟨Nat.le_refl _, Nat.le_refl _⟩ (fun e3 μ' hc => ?_)
  obtain ⟨rfl, ⟨rfl, hb4⟩ | ⟨rfl, hb4⟩⟩ := hc
  rotate_left
  · omega
  refine gg_if_ne_t (tgt := 20) dX10_taken_14 (by decide) (by decide) (by decide) ?_
  refine gg_aload_n dX10_taken_20 0 rfl ?_
  refine gg_getR (k' := 146) rfl gf_RX10_9 dX10_taken_21 sh_145 pl_145 (by decide) (by decide) rr_145_0 ?_
  refine gg_iload_n dX10_taken_24 1 rfl ?_
  refine gg_ialdj f dX10_taken_25 sh_146 pl_146 (by decide) rfl hf ?_
  refine gg_toI (b := (n : Int)) hM.1 ?_
  refine gg_if_ne (tgt := 32) dX10_taken_26 (by decide) (by omega) (fun hn0 => ?_) (fun hn0 => ?_)
  · refine gg_iload_n dX10_taken_32 2 rfl ?_
    refine gg_iconst dX10_taken_33 ?_
    refine gg_aload_n dX10_taken_34 0 rfl ?_
    refine gg_getR (k' := 146) rfl gf_RX10_9 dX10_taken_35 sh_145 pl_145 (by decide) (by decide) rr_145_0 ?_
    refine gg_iload_n dX10_taken_38 1 rfl ?_
    refine gg_ialdj f dX10_taken_39 sh_146 pl_146 (by decide) rfl hf ?_
    refine gg_toI (b := (n : Int)) hM.1 ?_
    refine gg_iconst dX10_taken_40 ?_
    refine gg_isub dX10_taken_41 ?_
    refine gg_callSi (own := RX10) (yt := gm_X10_in) rfl gl_RX10_84 gk_X10_in gr_X10_in dX10_taken_42 (c_X10_in (d := d - 1) (by omega)) rfl rfl (Nat.le_of_ble_eq_true rfl) (by show _ ≤ d; omega) ⟨Nat.le_refl _, Nat.le_refl _⟩ (fun e5 μ' hc => ?_)
    obtain ⟨rfl, ⟨rfl, hk⟩ | ⟨rfl, hk⟩⟩ := hc
    · obtain ⟨j, rfl⟩ : ∃ j : Nat, k = (j : Int) := ⟨k.toNat, by omega⟩
      refine gg_if_ne_t (tgt := 51) dX10_taken_45 (by decide) (by decide) (by decide) ?_
      refine gg_aload_n dX10_taken_51 0 rfl ?_
      refine gg_getR (k' := 173) rfl gf_RX10_23 dX10_taken_52 sh_145 pl_145 (by decide) (by decide) rr_145_3 ?_
      refine gg_iload_n dX10_taken_55 1 rfl ?_
      refine gg_aaldj (t := 6) f (k' := (174 + f)) dX10_taken_56 sh_173 (by decide) pl_173 (by decide) rfl hf (rr_173 hf) ?_
      refine gg_iload_n dX10_taken_57 2 rfl ?_
      refine gg_ialdj j dX10_taken_58 (rs_173 hf) (rl_173 hf) (by decide) rfl (by omega) ?_
      refine gg_toI (b := ((j : Int) + Z j)) (hM.2 j (by omega)).2.2 ?_
      refine gg_iload_n dX10_taken_59 2 rfl ?_
      refine gg_isub dX10_taken_60 ?_
      refine gg_toI (b := (Z j : Int)) (by omega) ?_
      refine gg_istore (ls' := [(4, .int (iv (Z j : Int))), (0, .ref (gad (gSS ad) 145)), (1, .int (iv (f : Int))), (2, .int (iv (j : Int))), (3, .int (iv (q : Int)))]) dX10_taken_61 (by decide) rfl ?_
      refine gg_aload_n dX10_taken_63 1 rfl ?_
      refine gg_getR (k' := 147) rfl gf_RX10_15 dX10_taken_64 sh_145 pl_145 (by decide) (by decide) rr_145_1 ?_
      refine gg_iload_n dX10_taken_67 2 rfl ?_
      refine gg_aaldj (t := 6) f (k' := (148 + f)) dX10_taken_68 sh_147 (by decide) pl_147 (by decide) rfl hf (rr_147 hf) ?_
      refine gg_iload_n dX10_taken_69 3 rfl ?_
      refine gg_ialdj j dX10_taken_70 (rs_147 hf) (rl_147 hf) (by decide) rfl (by omega) ?_
      refine gg_toI (b := (K j : Int)) (hM.2 j (by omega)).1 ?_
      refine gg_iload_n dX10_taken_71 4 rfl ?_
      refine gg_icmp_ne (tgt := 78) dX10_taken_72 (by decide) (by have := (hW.2.2 j (by omega)).1; omega) (fun hx1 => ?_) (fun hx1 => ?_)
      · refine gg_iload_n dX10_taken_78 4 rfl ?_
        refine gg_iconst dX10_taken_79 ?_
        refine gg_icmp_ne (tgt := 105) dX10_taken_80 (by decide) (by omega) (fun hx2 => ?_) (fun hx2 => ?_)
        · refine gg_bipush dX10_taken_105 (by decide) ?_
          refine gg_ireti dX10_taken_107 rfl ⟨rfl, rfl⟩ ?_
          refine ⟨rfl, ?_⟩
          first | (simp_all [gTk]; done) | (simp_all [gTk]; omega)
        · refine gg_aload_n dX10_taken_83 1 rfl ?_
          refine gg_getR (k' := 147) rfl gf_RX10_15 dX10_taken_84 sh_145 pl_145 (by decide) (by decide) rr_145_1 ?_
          refine gg_iload_n dX10_taken_87 2 rfl ?_
          refine gg_aaldj (t := 6) f (k' := (148 + f)) dX10_taken_88 sh_147 (by decide) pl_147 (by decide) rfl hf (rr_147 hf) ?_
          refine gg_iload_n dX10_taken_89 3 rfl ?_
          refine gg_ialdj j dX10_taken_90 (rs_147 hf) (rl_147 hf) (by decide) rfl (by omega) ?_
          refine gg_toI (b := (K j : Int)) (hM.2 j (by omega)).1 ?_
          refine gg_bipush dX10_taken_91 (by decide) ?_
          refine gg_icmp_ne (tgt := 105) dX10_taken_93 (by decide) (by have := (hW.2.2 j (by omega)).1; omega) (fun hx3 => ?_) (fun hx3 => ?_)
          · refine gg_bipush dX10_taken_105 (by decide) ?_
            refine gg_ireti dX10_taken_107 rfl ⟨rfl, rfl⟩ ?_
            refine ⟨rfl, ?_⟩
            first | (simp_all [gTk]; done) | (simp_all [gTk]; omega)
          · refine gg_iconst dX10_taken_96 ?_
            refine gg_iload dX10_taken_97 0 rfl ?_
            refine gg_imul dX10_taken_99 ?_
            refine gg_iconst dX10_taken_100 ?_
            refine gg_isub dX10_taken_101 ?_
            refine gg_goto (tgt := 107) dX10_taken_102 (by decide) ?_
            refine gg_ireti dX10_taken_107 rfl ⟨rfl, rfl⟩ ?_
            refine ⟨rfl, ?_⟩
            first | (simp_all [gTk]; done) | (simp_all [gTk]; omega)
      · refine gg_iload dX10_taken_75 0 rfl ?_
        refine gg_ireti dX10_taken_77 rfl ⟨rfl, rfl⟩ ?_
        refine ⟨rfl, ?_⟩
        first | (simp_all [gTk]; done) | (simp_all [gTk]; omega)
    · refine gg_if_ne_f (tgt := 51) dX10_taken_45 (by decide) (by decide) (by decide) ?_
      refine gg_bipush dX10_taken_48 (by decide) ?_
      refine gg_ireti dX10_taken_50 rfl ⟨rfl, rfl⟩ ?_
      refine ⟨rfl, ?_⟩
      first | (simp_all [gTk]; done) | (simp_all [gTk]; omega)
  · refine gg_bipush dX10_taken_29 (by decide) ?_
    refine gg_ireti dX10_taken_31 rfl ⟨rfl, rfl⟩ ?_
    refine ⟨rfl, ?_⟩
    first | (simp_all [gTk]; done) | (simp_all [gTk]; omega)

set_option maxRecDepth 10000 in
theorem c_X10_taken_out {l : Launch} {Γ : gC} {ad : Nat → Nat} {I : Nat → Nat → Int} {J : Nat → Nat → Int64} {d : Nat} {i k q : Int} (hi : -2147483648 ≤ i ∧ i ≤ 2147483647) (hq : -2147483648 ≤ q ∧ q ≤ 2147483647) (ho : ¬ (0 ≤ i ∧ i ≤ 11 ∧ 0 ≤ q ∧ q ≤ 7)) (hd : 3 ≤ d) : gKi l Γ gm_X10_taken d [.ref (gad (gSS ad) 145), .int (iv i), .int (iv k), .int (iv q)] (gSS ad, I, J) (fun e μ => μ = (gSS ad, I, J) ∧ e = -2) := by
  refine gKi_of gk_X10_taken.1 (Nat.le_of_ble_eq_true rfl) ?_
  show gG l Γ gm_X10_taken (d, 0, 0, 0, 0) 0 [(0, .ref (gad (gSS ad) 145)), (1, .int (iv i)), (2, .int (iv k)), (3, .int (iv q))] [] _ _
  refine gg_iload_n dX10_taken_0 1 rfl ?_
  refine gg_callSi (own := RX10) (yt := gm_X10_isFormula) rfl gl_RX10_181 gk_X10_isFormula gr_X10_isFormula dX10_taken_1 (c_X10_isFormula (d := d - 1) (by omega) (by omega)) rfl rfl (Nat.le_of_ble_eq_true rfl) (by show _ ≤ d; omega) ⟨Nat.le_refl _, Nat.le_refl _⟩ (fun e1 μ' hc => ?_)
  obtain ⟨rfl, ⟨rfl, hb2⟩ | ⟨rfl, hb2⟩⟩ := hc
  · refine gg_if_eq_f (tgt := 17) dX10_taken_4 (by decide) (by decide) (by decide) ?_
    refine gg_iload_n dX10_taken_7 3 rfl ?_
    refine gg_iconst dX10_taken_8 ?_
    refine gg_bipush dX10_taken_9 (by decide) ?_
    refine gg_callSi (own := RX10) (yt := gm_X10_in) rfl gl_RX10_84 gk_X10_in gr_X10_in dX10_taken_11 (c_X10_in (d := d - 1) (by omega)) rfl rfl (Nat.le_of_ble_eq_true rfl) (by show _ ≤ d; omega) ⟨Nat.le_refl _, Nat.le_refl _⟩ (fun e3 μ' hc => ?_)
    obtain ⟨rfl, ⟨rfl, hb4⟩ | ⟨rfl, hb4⟩⟩ := hc
    · refine gg_if_ne_t (tgt := 20) dX10_taken_14 (by decide) (by decide) (by decide) ?_
      exfalso
      omega
    · refine gg_if_ne_f (tgt := 20) dX10_taken_14 (by decide) (by decide) (by decide) ?_
      refine gg_bipush dX10_taken_17 (by decide) ?_
      refine gg_ireti dX10_taken_19 rfl ⟨rfl, rfl⟩ ?_
      exact ⟨rfl, rfl⟩
  · refine gg_if_eq_t (tgt := 17) dX10_taken_4 (by decide) (by decide) (by decide) ?_
    refine gg_bipush dX10_taken_17 (by decide) ?_
    refine gg_ireti dX10_taken_19 rfl ⟨rfl, rfl⟩ ?_
    exact ⟨rfl, rfl⟩

