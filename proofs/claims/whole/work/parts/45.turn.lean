/-! turning trees: what becomes of a tree, as a list; the class's folding -/
def gfNeg (a : gLn) : gLn := if (gHd a).1 = 0 then [(0, -(gHd a).2)] else if (gHd a).1 = 2 then a.tail else (2, 0) :: a
def gfSum (a b : gLn) : gLn := if (gHd a).1 = 0 ∧ (gHd b).1 = 0 then [(0, (gHd a).2 + (gHd b).2)] else if (gHd a).1 = 0 ∧ (gHd a).2 = 0 then b else if (gHd b).1 = 0 ∧ (gHd b).2 = 0 then a else (3, 0) :: (a ++ b)
def gfPro (a b : gLn) : gLn := if (gHd a).1 = 0 ∧ (gHd b).1 = 0 then [(0, (gHd a).2 * (gHd b).2)] else if ((gHd a).1 = 0 ∧ (gHd a).2 = 0) ∨ ((gHd b).1 = 0 ∧ (gHd b).2 = 0) then [(0, 0)] else if (gHd a).1 = 0 ∧ (gHd a).2 = 1 then b else if (gHd b).1 = 0 ∧ (gHd b).2 = 1 then a else (4, 0) :: (a ++ b)
def gfPow (a : gLn) (x : Int64) : gLn := if x = 0 then [(0, 1)] else if x = 1 then a else if (gHd a).1 = 0 then [(0, gpow (gHd a).2 (gnum x))] else (5, x) :: a
def gfPic (w a b : gLn) : gLn := if (gHd w).1 = 0 then (if (gHd w).2 = 0 then b else a) else (6, 0) :: (w ++ (a ++ b))
def gfSqu (a : gLn) : gLn := if (gHd a).1 = 0 then [(0, (gHd a).2 * (gHd a).2)] else (7, 0) :: a
def gfF (K : Nat → Nat) (N : Nat → Int64) (Z : Nat → Nat) (W : Nat → gLn) (j : Nat) : gLn := if K j = 2 then gfNeg (W (j + 1)) else if K j = 3 then gfSum (W (j + 1)) (W (gPt Z j 1)) else if K j = 4 then gfPro (W (j + 1)) (W (gPt Z j 1)) else if K j = 5 then gfPow (W (j + 1)) (N j) else if K j = 6 then gfPic (W (j + 1)) (W (gPt Z j 1)) (W (gPt Z j 2)) else if K j = 7 then gfSqu (W (j + 1)) else [(K j, N j)]
theorem gfF_loc {K : Nat → Nat} {N : Nat → Int64} {Z : Nat → Nat} {W W' : Nat → gLn} {j : Nat} (h : ∀ t, j < t → W t = W' t) : gfF K N Z W j = gfF K N Z W' j := by
  unfold gfF
  rw [h (j + 1) (by omega), h _ (gPt_gt Z j 1), h _ (gPt_gt Z j 2)]
theorem gFd_ex (n : Nat) (K : Nat → Nat) (N : Nat → Int64) (Z : Nat → Nat) : ∃ W : Nat → gLn, ∀ j, j < n → W j = gfF K N Z W j := gfix_ex [] n (gfF K N Z) (fun _ _ _ h => gfF_loc h)
noncomputable def gFd (n : Nat) (K : Nat → Nat) (N : Nat → Int64) (Z : Nat → Nat) : Nat → gLn := Classical.choose (gFd_ex n K N Z)
theorem gFd_is (n : Nat) (K : Nat → Nat) (N : Nat → Int64) (Z : Nat → Nat) : ∀ j, j < n → gFd n K N Z j = gfF K N Z (gFd n K N Z) j := Classical.choose_spec (gFd_ex n K N Z)
def gdP (a da b db : gLn) : gLn := (3, 0) :: (((4, 0) :: (da ++ b)) ++ ((4, 0) :: (a ++ db)))
def gdW (a da : gLn) (x : Int64) : gLn := if x = 0 then [(0, 0)] else (4, 0) :: (((4, 0) :: ([(0, x)] ++ ((5, x - 1) :: a))) ++ da)
def gdrF (nm : Int) (K : Nat → Nat) (N : Nat → Int64) (Z : Nat → Nat) (V : Nat → gLn) (j : Nat) : gLn := if K j = 1 then [(0, if N j = gi2l nm then 1 else 0)] else if K j = 2 then (2, 0) :: V (j + 1) else if K j = 3 then (3, 0) :: (V (j + 1) ++ V (gPt Z j 1)) else if K j = 4 then gdP (gSt1 K N Z (j + 1)) (V (j + 1)) (gSt1 K N Z (gPt Z j 1)) (V (gPt Z j 1)) else if K j = 5 then gdW (gSt1 K N Z (j + 1)) (V (j + 1)) (N j) else if K j = 6 then (6, 0) :: (gSt1 K N Z (j + 1) ++ (V (gPt Z j 1) ++ V (gPt Z j 2))) else if K j = 7 then gdP (gSt1 K N Z (j + 1)) (V (j + 1)) (gSt1 K N Z (j + 1)) (V (j + 1)) else [(0, 0)]
theorem gdrF_loc {nm : Int} {K : Nat → Nat} {N : Nat → Int64} {Z : Nat → Nat} {W W' : Nat → gLn} {j : Nat} (h : ∀ t, j < t → W t = W' t) : gdrF nm K N Z W j = gdrF nm K N Z W' j := by
  unfold gdrF
  rw [h (j + 1) (by omega), h _ (gPt_gt Z j 1), h _ (gPt_gt Z j 2)]
theorem gDv_ex (n : Nat) (nm : Int) (K : Nat → Nat) (N : Nat → Int64) (Z : Nat → Nat) : ∃ W : Nat → gLn, ∀ j, j < n → W j = gdrF nm K N Z W j := gfix_ex [] n (gdrF nm K N Z) (fun _ _ _ h => gdrF_loc h)
noncomputable def gDv0 (n : Nat) (nm : Int) (K : Nat → Nat) (N : Nat → Int64) (Z : Nat → Nat) : Nat → gLn := Classical.choose (gDv_ex n nm K N Z)
theorem gDv0_is (n : Nat) (nm : Int) (K : Nat → Nat) (N : Nat → Int64) (Z : Nat → Nat) : ∀ j, j < n → gDv0 n nm K N Z j = gdrF nm K N Z (gDv0 n nm K N Z) j := Classical.choose_spec (gDv_ex n nm K N Z)
/-- the part of a node, nothing if it has none such -/
def gVp (K : Nat → Nat) (Z : Nat → Nat) (V : Nat → gLn) (i w : Nat) : gLn := if w < gPar (K i) then V (gPt Z i w) else []
def gRpF (nm : Int) (B : gLn) (K : Nat → Nat) (N : Nat → Int64) (Z : Nat → Nat) (V : Nat → gLn) (j : Nat) : gLn := if K j = 1 ∧ N j = gi2l nm then B else (K j, N j) :: (gVp K Z V j 0 ++ (gVp K Z V j 1 ++ gVp K Z V j 2))
theorem gRpF_loc {nm : Int} {B : gLn} {K : Nat → Nat} {N : Nat → Int64} {Z : Nat → Nat} {W W' : Nat → gLn} {j : Nat} (h : ∀ t, j < t → W t = W' t) : gRpF nm B K N Z W j = gRpF nm B K N Z W' j := by
  unfold gRpF gVp
  rw [h _ (gPt_gt Z j 0), h _ (gPt_gt Z j 1), h _ (gPt_gt Z j 2)]
theorem gRp_ex (n : Nat) (nm : Int) (B : gLn) (K : Nat → Nat) (N : Nat → Int64) (Z : Nat → Nat) : ∃ W : Nat → gLn, ∀ j, j < n → W j = gRpF nm B K N Z W j := gfix_ex [] n (gRpF nm B K N Z) (fun _ _ _ h => gRpF_loc h)
noncomputable def gRp (n : Nat) (nm : Int) (B : gLn) (K : Nat → Nat) (N : Nat → Int64) (Z : Nat → Nat) : Nat → gLn := Classical.choose (gRp_ex n nm B K N Z)
theorem gRp_is (n : Nat) (nm : Int) (B : gLn) (K : Nat → Nat) (N : Nat → Int64) (Z : Nat → Nat) : ∀ j, j < n → gRp n nm B K N Z j = gRpF nm B K N Z (gRp n nm B K N Z) j := Classical.choose_spec (gRp_ex n nm B K N Z)
theorem gSt1_vp {n : Nat} {K : Nat → Nat} {N : Nat → Int64} {Z : Nat → Nat} (hW : gWf n K N Z) {j : Nat} (hj : j < n) : gSt1 K N Z j = (K j, N j) :: (gVp K Z (gSt1 K N Z) j 0 ++ (gVp K Z (gSt1 K N Z) j 1 ++ gVp K Z (gSt1 K N Z) j 2)) := by
  rw [gSt1_is hW hj]
  have hK := (hW.2.2 j hj).1
  have e0 : gPt Z j 0 = j + 1 := rfl
  unfold gVp
  rcases gPar3 hK with p | p | p | p <;> rw [p] <;> simp [e0]
/-- the trees of the nodes from lo on are told in row p -/
def gTa (I : Nat → Nat → Int) (p : Nat) (D : List gLn) (V : Nat → gLn) (lo n : Nat) : Prop := ∀ t, lo ≤ t → t < n → ∃ i : Nat, I p t = (i : Int) ∧ D[i]? = some (V t)
theorem gTa_app {I I' : Nat → Nat → Int} {p : Nat} {D E : List gLn} {V : Nat → gLn} {lo lo' n : Nat} (h : gTa I p D V lo n) (hI : I' p = I p) (hl : lo ≤ lo') : gTa I' p (D ++ E) V lo' n := by
  intro t h1 h2
  obtain ⟨i, e, g⟩ := h t (by omega) h2
  exact ⟨i, by rw [hI]; exact e, gget_app g⟩
theorem c_X1_part_w {l : Launch} {Γ : gC} {ad : Nat → Nat} {I : Nat → Nat → Int} {J : Nat → Nat → Int64} {d : Nat} {a n : Nat} {K : Nat → Nat} {N : Nat → Int64} {Z : Nat → Nat} (hF : gF a) (hA : gAt I J a n K N Z) (hW : gWf n K N Z) {j w : Nat} (hj : j < n) (hw : w < gPar (K j)) (hd : 1 ≤ d) : gKi l Γ gm_X1_part d [.ref (gad (gSS ad) a), .int (iv (j : Int)), .int (iv (w : Int))] (gSS ad, I, J) (fun e μ => μ = (gSS ad, I, J) ∧ e = (gPt Z j w : Int)) := by
  obtain ⟨hK, hZ1, hZ2, he0, he1, he2, he3, hc1, hc2, hc3, -⟩ := hW.2.2 j hj
  have hp := gPar3 hK
  obtain rfl | rfl | rfl : w = 0 ∨ w = 1 ∨ w = 2 := by omega
  · exact c_X1_part0 hF hA hW.1 hj hd
  · exact c_X1_part1 hF hA hW.1 (hc1 (by omega)) hj hd
  · exact c_X1_part2 hF hA hW.1 (hc1 (by omega)) (hc2 (by omega)) hj hd
set_option maxRecDepth 10000 in
theorem c_X7_partOf {l : Launch} {Γ : gC} {ad : Nat → Nat} {I : Nat → Nat → Int} {J : Nat → Nat → Int64} {d : Nat} {a n : Nat} {K : Nat → Nat} {N : Nat → Int64} {Z : Nat → Nat} (hF : gF a) (hA : gAt I J a n K N Z) (hW : gWf n K N Z) {p : Nat} (hp : (gSS ad).2.1 p = (100, 200)) (hp' : p < (gSS ad).1) {D : List gLn} {V : Nat → gLn} {i w : Nat} (hi : i < n) (hw : w ≤ 2) (hT : gTa I p D V (i + 1) n) (hd : 3 ≤ d) : gKi l Γ gm_X7_partOf d [.ref (gad (gSS ad) p), .ref (gad (gSS ad) a), .int (iv (i : Int)), .int (iv (w : Int))] (gSS ad, I, J) (fun e μ => μ = (gSS ad, I, J) ∧ gDrf D D.length (w < gPar (K i)) e (gVp K Z V i w)) := by
  refine gKi_of gk_X7_partOf.1 (Nat.le_of_ble_eq_true rfl) ?_
  show gG l Γ gm_X7_partOf (d, 0, 0, 0, 0) 0 [(0, .ref (gad (gSS ad) p)), (1, .ref (gad (gSS ad) a)), (2, .int (iv (i : Int))), (3, .int (iv (w : Int)))] [] _ _
  obtain ⟨hK, hZ1, hZ2, he0, he1, he2, he3, hc1, hc2, hc3, -⟩ := hW.2.2 i hi
  have hn := hW.1
  refine gg_iload_n dX7_partOf_0 3 rfl ?_
  refine gg_aload_n dX7_partOf_1 1 rfl ?_
  refine gg_iload_n dX7_partOf_2 2 rfl ?_
  refine gg_callVi (own := RX7) (yt := gm_X1_parts) rfl gl_RX7_22 gk_X1_parts gr_X1_parts dX7_partOf_3 (c_X1_parts (d := d - 1) hF hA hW.1 (j := i) hi (by omega) hK) (gFsh hF) (gFlt hF) (by decide) rfl rfl rfl (Nat.le_of_ble_eq_true rfl) (by show _ ≤ d; omega) ⟨Nat.le_refl _, Nat.le_refl _⟩ (fun e1 μ' hc => ?_)
  obtain ⟨rfl, rfl⟩ := hc
  refine gg_icmp_lt (tgt := 11) dX7_partOf_6 (by decide) (by have := gPar3 hK; omega) (fun hb => ?_) (fun hb => ?_)
  · have hlt : gPt Z i w < n := by
      have hw3 : w = 0 ∨ w = 1 ∨ w = 2 := by omega
      rcases hw3 with rfl | rfl | rfl
      · exact hc1 (by omega)
      · exact hc2 (by omega)
      · exact hc3 (by omega)
    have hgt := gPt_gt Z i w
    obtain ⟨r, hr, hDr⟩ := hT (gPt Z i w) (by omega) hlt
    refine gg_aload_n dX7_partOf_11 1 rfl ?_
    refine gg_iload_n dX7_partOf_12 2 rfl ?_
    refine gg_iload_n dX7_partOf_13 3 rfl ?_
    refine gg_callVi (own := RX7) (yt := gm_X1_part) rfl gl_RX7_28 gk_X1_part gr_X1_part dX7_partOf_14 (c_X1_part_w (d := d - 1) hF hA hW (j := i) (w := w) hi (by omega) (by omega)) (gFsh hF) (gFlt hF) (by decide) rfl rfl rfl (Nat.le_of_ble_eq_true rfl) (by show _ ≤ d; omega) ⟨Nat.le_refl _, Nat.le_refl _⟩ (fun e2 μ' hc => ?_)
    obtain ⟨rfl, rfl⟩ := hc
    refine gg_istore (ls' := [(4, .int (iv (gPt Z i w : Int))), (0, .ref (gad (gSS ad) p)), (1, .ref (gad (gSS ad) a)), (2, .int (iv (i : Int))), (3, .int (iv (w : Int)))]) dX7_partOf_17 (by decide) rfl ?_
    refine gg_iload dX7_partOf_19 0 rfl ?_
    refine gg_if_lt_f (tgt := 38) dX7_partOf_21 (by decide) (by omega) (by omega) ?_
    refine gg_iload dX7_partOf_24 0 rfl ?_
    refine gg_aload_n dX7_partOf_26 1 rfl ?_
    refine gg_alenv (v := 200) (t := 0) dX7_partOf_27 hp (by decide) hp' rfl ?_
    refine gg_icmp_ge_f (tgt := 38) dX7_partOf_28 (by decide) (by omega) (by omega) ?_
    refine gg_aload_n dX7_partOf_31 1 rfl ?_
    refine gg_iload dX7_partOf_32 0 rfl ?_
    refine gg_ialdj (gPt Z i w) dX7_partOf_34 hp hp' (by decide) rfl (by omega) ?_
    refine gg_toI (b := (r : Int)) hr ?_
    refine gg_goto (tgt := 39) dX7_partOf_35 (by decide) ?_
    refine gg_ireti dX7_partOf_39 rfl ⟨rfl, rfl⟩ ?_
    refine ⟨rfl, Or.inl ⟨by omega, r, rfl, gget_lt hDr, ?_⟩⟩
    unfold gVp
    rw [if_pos (by omega)]
    exact hDr
  · refine gg_iconst dX7_partOf_9 ?_
    refine gg_ireti dX7_partOf_10 rfl ⟨rfl, rfl⟩ ?_
    refine ⟨rfl, Or.inr ⟨by omega, rfl, ?_⟩⟩
    unfold gVp
    rw [if_neg (by omega)]

set_option maxRecDepth 10000 in
theorem c_X7_remade {l : Launch} {Γ : gC} {ad : Nat → Nat} {I : Nat → Nat → Int} {J : Nat → Nat → Int64} {d : Nat} {a n : Nat} {K : Nat → Nat} {N : Nat → Int64} {Z : Nat → Nat} (hF : gF a) (hA : gAt I J a n K N Z) (hW : gWf n K N Z) {p : Nat} (hp : (gSS ad).2.1 p = (100, 200)) (hp' : p < (gSS ad).1) {D : List gLn} {V : Nat → gLn} {i : Nat} (hi : i < n) (hT : gTa I p D V (i + 1) n) (hD : gDf I J D) (hu : D.length < 1200) (hd : 4 ≤ d) : gKi l Γ gm_X7_remade d [.ref (gad (gSS ad) 22), .ref (gad (gSS ad) p), .ref (gad (gSS ad) a), .int (iv (i : Int))] (gSS ad, I, J) (fun e μ => ∃ I1 J1, μ = (gSS ad, I1, J1) ∧ gDf I1 J1 (D ++ [(K i, N i) :: (gVp K Z V i 0 ++ (gVp K Z V i 1 ++ gVp K Z V i 2))]) ∧ (∀ p, p ≠ 12 → p ≠ 13 → p ≠ 15 → p ≠ 16 → p ≠ 17 → p ≠ 18 → I1 p = I p) ∧ (∀ q, q ≠ 6 → I1 12 q = I 12 q) ∧ (∀ p, p ≠ 14 → J1 p = J p) ∧ e = (D.length : Int)) := by
  refine gKi_of gk_X7_remade.1 (Nat.le_of_ble_eq_true rfl) ?_
  show gG l Γ gm_X7_remade (d, 0, 0, 0, 0) 0 [(0, .ref (gad (gSS ad) 22)), (1, .ref (gad (gSS ad) p)), (2, .ref (gad (gSS ad) a)), (3, .int (iv (i : Int)))] [] _ _
  have hv : gNv (K i, N i) := by
    obtain ⟨hK, -, -, -, -, -, -, -, -, -, h1, h5, h0⟩ := hW.2.2 i hi
    exact ⟨hK, h1, h5, h0⟩
  refine gg_aload_n dX7_remade_0 0 rfl ?_
  refine gg_getR (k' := 12) rfl gf_RX7_18 dX7_remade_1 sh_22 pl_22 (by decide) (by decide) rr_22_0 ?_
  refine gg_aload_n dX7_remade_4 2 rfl ?_
  refine gg_iload_n dX7_remade_5 3 rfl ?_
  refine gg_callVi (own := RX7) (yt := gm_X1_kind) rfl gl_RX7_32 gk_X1_kind gr_X1_kind dX7_remade_6 (c_X1_kind (d := d - 1) hF hA hW.1 (j := i) hi (by omega)) (gFsh hF) (gFlt hF) (by decide) rfl rfl rfl (Nat.le_of_ble_eq_true rfl) (by show _ ≤ d; omega) ⟨Nat.le_refl _, Nat.le_refl _⟩ (fun e1 μ' hc => ?_)
  obtain ⟨rfl, rfl⟩ := hc
  refine gg_aload_n dX7_remade_9 2 rfl ?_
  refine gg_iload_n dX7_remade_10 3 rfl ?_
  refine gg_callVl (own := RX7) (yt := gm_X1_number) rfl gl_RX7_35 gk_X1_number gr_X1_number dX7_remade_11 (c_X1_number (d := d - 1) hF hA hW.1 (j := i) hi (by omega)) (gFsh hF) (gFlt hF) (by decide) rfl rfl rfl (Nat.le_of_ble_eq_true rfl) (by show _ ≤ d; omega) ⟨Nat.le_refl _, Nat.le_refl _⟩ (fun e2 μ' hc => ?_)
  obtain ⟨rfl, rfl⟩ := hc
  refine gg_aload_n dX7_remade_14 1 rfl ?_
  refine gg_aload_n dX7_remade_15 2 rfl ?_
  refine gg_iload_n dX7_remade_16 3 rfl ?_
  refine gg_iconst dX7_remade_17 ?_
  refine gg_callSi (own := RX7) (yt := gm_X7_partOf) rfl gl_RX7_39 gk_X7_partOf gr_X7_partOf dX7_remade_18 (c_X7_partOf (d := d - 1) hF hA hW (p := p) hp hp' (V := V) (i := i) (w := 0) hi (by omega) hT (by omega)) rfl rfl (Nat.le_of_ble_eq_true rfl) (by show _ ≤ d; omega) ⟨Nat.le_refl _, Nat.le_refl _⟩ (fun er0 μ' hc => ?_)
  obtain ⟨rfl, r0⟩ := hc
  refine gg_aload_n dX7_remade_21 1 rfl ?_
  refine gg_aload_n dX7_remade_22 2 rfl ?_
  refine gg_iload_n dX7_remade_23 3 rfl ?_
  refine gg_iconst dX7_remade_24 ?_
  refine gg_callSi (own := RX7) (yt := gm_X7_partOf) rfl gl_RX7_39 gk_X7_partOf gr_X7_partOf dX7_remade_25 (c_X7_partOf (d := d - 1) hF hA hW (p := p) hp hp' (V := V) (i := i) (w := 1) hi (by omega) hT (by omega)) rfl rfl (Nat.le_of_ble_eq_true rfl) (by show _ ≤ d; omega) ⟨Nat.le_refl _, Nat.le_refl _⟩ (fun er1 μ' hc => ?_)
  obtain ⟨rfl, r1⟩ := hc
  refine gg_aload_n dX7_remade_28 1 rfl ?_
  refine gg_aload_n dX7_remade_29 2 rfl ?_
  refine gg_iload_n dX7_remade_30 3 rfl ?_
  refine gg_iconst dX7_remade_31 ?_
  refine gg_callSi (own := RX7) (yt := gm_X7_partOf) rfl gl_RX7_39 gk_X7_partOf gr_X7_partOf dX7_remade_32 (c_X7_partOf (d := d - 1) hF hA hW (p := p) hp hp' (V := V) (i := i) (w := 2) hi (by omega) hT (by omega)) rfl rfl (Nat.le_of_ble_eq_true rfl) (by show _ ≤ d; omega) ⟨Nat.le_refl _, Nat.le_refl _⟩ (fun er2 μ' hc => ?_)
  obtain ⟨rfl, r2⟩ := hc
  refine gg_callVi (own := RX7) (yt := gm_X0_make) rfl gl_RX7_43 gk_X0_make gr_X0_make dX7_remade_35 (c_X0_make (d := d - 1) hD hu hv r0 r1 r2 (by omega)) sh_12 pl_12 (by decide) rfl rfl rfl (Nat.le_of_ble_eq_true rfl) (by show _ ≤ d; omega) ⟨Nat.le_refl _, Nat.le_refl _⟩ (fun e3 μ' hc => ?_)
  obtain ⟨I1, J1, rfl, hD1, hf1, hf2, hf3, rfl⟩ := hc
  refine gg_ireti dX7_remade_38 rfl ⟨rfl, rfl⟩ ?_
  exact ⟨I1, J1, rfl, hD1, hf1, hf2, hf3, rfl⟩

set_option maxRecDepth 10000 in
theorem c_X7_foldedNegated {l : Launch} {Γ : gC} {ad : Nat → Nat} {I : Nat → Nat → Int} {J : Nat → Nat → Int64} {d : Nat}  {D : List gLn} (hD : gDf I J D) (hu : D.length < 1200) {a : Nat} {la : gLn} (ha : D[a]? = some la) (hd : 5 ≤ d) : gKi l Γ gm_X7_foldedNegated d [.ref (gad (gSS ad) 22), .int (iv (a : Int))] (gSS ad, I, J) (fun e μ => ∃ I1 J1 E r, μ = (gSS ad, I1, J1) ∧ E.length ≤ 1 ∧ gDf I1 J1 (D ++ E) ∧ (∀ p, p ≠ 12 → p ≠ 13 → p ≠ 15 → p ≠ 16 → p ≠ 17 → p ≠ 18 → I1 p = I p) ∧ (∀ q, q ≠ 6 → I1 12 q = I 12 q) ∧ (∀ p, p ≠ 14 → J1 p = J p) ∧ e = ((r : Nat) : Int) ∧ (D ++ E)[r]? = some (gfNeg la)) := by
  refine gKi_of gk_X7_foldedNegated.1 (Nat.le_of_ble_eq_true rfl) ?_
  show gG l Γ gm_X7_foldedNegated (d, 0, 0, 0, 0) 0 [(0, .ref (gad (gSS ad) 22)), (1, .int (iv (a : Int)))] [] _ _
  refine gg_aload_n dX7_foldedNegated_0 0 rfl ?_
  refine gg_getR (k' := 12) rfl gf_RX7_18 dX7_foldedNegated_1 sh_22 pl_22 (by decide) (by decide) rr_22_0 ?_
  refine gg_iload_n dX7_foldedNegated_4 1 rfl ?_
  refine gg_callVi (own := RX7) (yt := gm_X0_isNumber) rfl gl_RX7_102 gk_X0_isNumber gr_X0_isNumber dX7_foldedNegated_5 (c_X0_isNumber (d := d - 1) hD ha (by omega)) sh_12 pl_12 (by decide) rfl rfl rfl (Nat.le_of_ble_eq_true rfl) (by show _ ≤ d; omega) ⟨Nat.le_refl _, Nat.le_refl _⟩ (fun e1 μ' hc => ?_)
  obtain ⟨rfl, ⟨rfl, hb⟩ | ⟨rfl, hb⟩⟩ := hc
  · refine gg_if_eq_f (tgt := 29) dX7_foldedNegated_8 (by decide) (by decide) (by decide) ?_
    refine gg_aload_n dX7_foldedNegated_11 0 rfl ?_
    refine gg_getR (k' := 12) rfl gf_RX7_18 dX7_foldedNegated_12 sh_22 pl_22 (by decide) (by decide) rr_22_0 ?_
    refine gg_iconst dX7_foldedNegated_15 ?_
    refine gg_aload_n dX7_foldedNegated_16 0 rfl ?_
    refine gg_getR (k' := 12) rfl gf_RX7_18 dX7_foldedNegated_17 sh_22 pl_22 (by decide) (by decide) rr_22_0 ?_
    refine gg_iload_n dX7_foldedNegated_20 1 rfl ?_
    refine gg_callVl (own := RX7) (yt := gm_X0_number) rfl gl_RX7_106 gk_X0_number gr_X0_number dX7_foldedNegated_21 (c_X0_number (d := d - 1) hD ha (by omega)) sh_12 pl_12 (by decide) rfl rfl rfl (Nat.le_of_ble_eq_true rfl) (by show _ ≤ d; omega) ⟨Nat.le_refl _, Nat.le_refl _⟩ (fun e2 μ' hc => ?_)
    obtain ⟨rfl, rfl⟩ := hc
    refine gg_lneg dX7_foldedNegated_24 ?_
    refine gg_callVi (own := RX7) (yt := gm_X0_leaf) rfl gl_RX7_64 gk_X0_leaf gr_X0_leaf dX7_foldedNegated_25 (c_X0_leaf (d := d - 1) (k := 0) (x := (-(gHd la).2)) hD hu (gNv_n _) rfl (by omega)) sh_12 pl_12 (by decide) rfl rfl rfl (Nat.le_of_ble_eq_true rfl) (by show _ ≤ d; omega) ⟨Nat.le_refl _, Nat.le_refl _⟩ (fun e3 μ' hc => ?_)
    obtain ⟨I1, J1, rfl, hD1, hf1, hf2, hf3, rfl⟩ := hc
    refine gg_ireti dX7_foldedNegated_28 rfl ⟨rfl, rfl⟩ ?_
    refine ⟨I1, J1, [_], D.length, rfl, by simp, hD1, hf1, hf2, hf3, rfl, ?_⟩
    rw [(show gfNeg la = [(0, -(gHd la).2)] by unfold gfNeg; repeat' split; all_goals first | rfl | (exfalso; simp_all; done) | simp_all)]
    simp
  · refine gg_if_eq_t (tgt := 29) dX7_foldedNegated_8 (by decide) (by decide) (by decide) ?_
    refine gg_aload_n dX7_foldedNegated_29 0 rfl ?_
    refine gg_getR (k' := 12) rfl gf_RX7_18 dX7_foldedNegated_30 sh_22 pl_22 (by decide) (by decide) rr_22_0 ?_
    refine gg_iload_n dX7_foldedNegated_33 1 rfl ?_
    refine gg_callVi (own := RX7) (yt := gm_X0_kind) rfl gl_RX7_107 gk_X0_kind gr_X0_kind dX7_foldedNegated_34 (c_X0_kind (d := d - 1) hD ha (by omega)) sh_12 pl_12 (by decide) rfl rfl rfl (Nat.le_of_ble_eq_true rfl) (by show _ ≤ d; omega) ⟨Nat.le_refl _, Nat.le_refl _⟩ (fun e4 μ' hc => ?_)
    obtain ⟨rfl, rfl⟩ := hc
    refine gg_iconst dX7_foldedNegated_37 ?_
    refine gg_icmp_ne (tgt := 52) dX7_foldedNegated_38 (by decide) (by have := (gDf_hd hD ha).2.2; omega) (fun hk => ?_) (fun hk => ?_)
    · have hk2 : ¬ (gHd la).1 = 2 := by omega
      clear hk
      refine gg_aload_n dX7_foldedNegated_52 0 rfl ?_
      refine gg_getR (k' := 12) rfl gf_RX7_18 dX7_foldedNegated_53 sh_22 pl_22 (by decide) (by decide) rr_22_0 ?_
      refine gg_iconst dX7_foldedNegated_56 ?_
      refine gg_iload_n dX7_foldedNegated_57 1 rfl ?_
      refine gg_iconst dX7_foldedNegated_58 ?_
      refine gg_callVi (own := RX7) (yt := gm_X0_pair) rfl gl_RX7_68 gk_X0_pair gr_X0_pair dX7_foldedNegated_59 (c_X0_pair (d := d - 1) (k := 2) (la := la) (lb := []) hD hu (gNv_z (by omega) (by omega) (by omega)) (Or.inl ⟨by decide, a, rfl, gget_lt ha, ha⟩) (Or.inr ⟨by decide, rfl, rfl⟩) (by decide) (by omega)) sh_12 pl_12 (by decide) rfl rfl rfl (Nat.le_of_ble_eq_true rfl) (by show _ ≤ d; omega) ⟨Nat.le_refl _, Nat.le_refl _⟩ (fun e5 μ' hc => ?_)
      obtain ⟨I1, J1, rfl, hD1, hf1, hf2, hf3, rfl⟩ := hc
      refine gg_ireti dX7_foldedNegated_62 rfl ⟨rfl, rfl⟩ ?_
      refine ⟨I1, J1, [_], D.length, rfl, by simp, hD1, hf1, hf2, hf3, rfl, ?_⟩
      rw [(show gfNeg la = (2, 0) :: la by unfold gfNeg; repeat' split; all_goals first | rfl | (exfalso; simp_all; done) | simp_all)]
      simp
    · have hk2 : (gHd la).1 = 2 := by omega
      clear hk
      refine gg_aload_n dX7_foldedNegated_41 0 rfl ?_
      refine gg_getR (k' := 12) rfl gf_RX7_18 dX7_foldedNegated_42 sh_22 pl_22 (by decide) (by decide) rr_22_0 ?_
      refine gg_iload_n dX7_foldedNegated_45 1 rfl ?_
      refine gg_callVi (own := RX7) (yt := gm_X0_first) rfl gl_RX7_108 gk_X0_first gr_X0_first dX7_foldedNegated_46 (c_X0_first (d := d - 1) hD ha (by omega) (by omega)) sh_12 pl_12 (by decide) rfl rfl rfl (Nat.le_of_ble_eq_true rfl) (by show _ ≤ d; omega) ⟨Nat.le_refl _, Nat.le_refl _⟩ (fun ei μ' hc => ?_)
      obtain ⟨rfl, hfi⟩ := hc
      refine gg_goto (tgt := 62) dX7_foldedNegated_49 (by decide) ?_
      refine gg_ireti dX7_foldedNegated_62 rfl ⟨rfl, rfl⟩ ?_
      obtain ⟨i, rfl, -, hi⟩ := hfi
      refine ⟨I, J, [], i, rfl, by simp, by rw [List.append_nil]; exact hD, (fun _ _ _ _ _ _ _ => rfl), (fun _ _ => rfl), (fun _ _ => rfl), rfl, ?_⟩
      rw [(show gfNeg la = la.tail by unfold gfNeg; repeat' split; all_goals first | rfl | (exfalso; simp_all; done) | simp_all), List.append_nil]
      exact hi

set_option maxRecDepth 10000 in
theorem c_X7_foldedSum {l : Launch} {Γ : gC} {ad : Nat → Nat} {I : Nat → Nat → Int} {J : Nat → Nat → Int64} {d : Nat}  {D : List gLn} (hD : gDf I J D) (hu : D.length < 1200) {a : Nat} {la : gLn} (ha : D[a]? = some la) {b : Nat} {lb : gLn} (hb : D[b]? = some lb) (hd : 5 ≤ d) : gKi l Γ gm_X7_foldedSum d [.ref (gad (gSS ad) 22), .int (iv (a : Int)), .int (iv (b : Int))] (gSS ad, I, J) (fun e μ => ∃ I1 J1 E r, μ = (gSS ad, I1, J1) ∧ E.length ≤ 1 ∧ gDf I1 J1 (D ++ E) ∧ (∀ p, p ≠ 12 → p ≠ 13 → p ≠ 15 → p ≠ 16 → p ≠ 17 → p ≠ 18 → I1 p = I p) ∧ (∀ q, q ≠ 6 → I1 12 q = I 12 q) ∧ (∀ p, p ≠ 14 → J1 p = J p) ∧ e = ((r : Nat) : Int) ∧ (D ++ E)[r]? = some (gfSum la lb)) := by
  refine gKi_of gk_X7_foldedSum.1 (Nat.le_of_ble_eq_true rfl) ?_
  show gG l Γ gm_X7_foldedSum (d, 0, 0, 0, 0) 0 [(0, .ref (gad (gSS ad) 22)), (1, .int (iv (a : Int))), (2, .int (iv (b : Int)))] [] _ _
  refine gg_aload_n dX7_foldedSum_0 0 rfl ?_
  refine gg_getR (k' := 12) rfl gf_RX7_18 dX7_foldedSum_1 sh_22 pl_22 (by decide) (by decide) rr_22_0 ?_
  refine gg_iload_n dX7_foldedSum_4 1 rfl ?_
  refine gg_callVi (own := RX7) (yt := gm_X0_isNumber) rfl gl_RX7_102 gk_X0_isNumber gr_X0_isNumber dX7_foldedSum_5 (c_X0_isNumber (d := d - 1) hD ha (by omega)) sh_12 pl_12 (by decide) rfl rfl rfl (Nat.le_of_ble_eq_true rfl) (by show _ ≤ d; omega) ⟨Nat.le_refl _, Nat.le_refl _⟩ (fun e1 μ' hc => ?_)
  obtain ⟨rfl, ⟨rfl, hna⟩ | ⟨rfl, hna⟩⟩ := hc
  · refine gg_if_eq_f (tgt := 48) dX7_foldedSum_8 (by decide) (by decide) (by decide) ?_
    refine gg_aload_n dX7_foldedSum_11 0 rfl ?_
    refine gg_getR (k' := 12) rfl gf_RX7_18 dX7_foldedSum_12 sh_22 pl_22 (by decide) (by decide) rr_22_0 ?_
    refine gg_iload_n dX7_foldedSum_15 2 rfl ?_
    refine gg_callVi (own := RX7) (yt := gm_X0_isNumber) rfl gl_RX7_102 gk_X0_isNumber gr_X0_isNumber dX7_foldedSum_16 (c_X0_isNumber (d := d - 1) hD hb (by omega)) sh_12 pl_12 (by decide) rfl rfl rfl (Nat.le_of_ble_eq_true rfl) (by show _ ≤ d; omega) ⟨Nat.le_refl _, Nat.le_refl _⟩ (fun e2 μ' hc => ?_)
    obtain ⟨rfl, ⟨rfl, hnb⟩ | ⟨rfl, hnb⟩⟩ := hc
    · refine gg_if_eq_f (tgt := 48) dX7_foldedSum_19 (by decide) (by decide) (by decide) ?_
      refine gg_aload_n dX7_foldedSum_22 0 rfl ?_
      refine gg_getR (k' := 12) rfl gf_RX7_18 dX7_foldedSum_23 sh_22 pl_22 (by decide) (by decide) rr_22_0 ?_
      refine gg_iconst dX7_foldedSum_26 ?_
      refine gg_aload_n dX7_foldedSum_27 0 rfl ?_
      refine gg_getR (k' := 12) rfl gf_RX7_18 dX7_foldedSum_28 sh_22 pl_22 (by decide) (by decide) rr_22_0 ?_
      refine gg_iload_n dX7_foldedSum_31 1 rfl ?_
      refine gg_callVl (own := RX7) (yt := gm_X0_number) rfl gl_RX7_106 gk_X0_number gr_X0_number dX7_foldedSum_32 (c_X0_number (d := d - 1) hD ha (by omega)) sh_12 pl_12 (by decide) rfl rfl rfl (Nat.le_of_ble_eq_true rfl) (by show _ ≤ d; omega) ⟨Nat.le_refl _, Nat.le_refl _⟩ (fun e3 μ' hc => ?_)
      obtain ⟨rfl, rfl⟩ := hc
      refine gg_aload_n dX7_foldedSum_35 0 rfl ?_
      refine gg_getR (k' := 12) rfl gf_RX7_18 dX7_foldedSum_36 sh_22 pl_22 (by decide) (by decide) rr_22_0 ?_
      refine gg_iload_n dX7_foldedSum_39 2 rfl ?_
      refine gg_callVl (own := RX7) (yt := gm_X0_number) rfl gl_RX7_106 gk_X0_number gr_X0_number dX7_foldedSum_40 (c_X0_number (d := d - 1) hD hb (by omega)) sh_12 pl_12 (by decide) rfl rfl rfl (Nat.le_of_ble_eq_true rfl) (by show _ ≤ d; omega) ⟨Nat.le_refl _, Nat.le_refl _⟩ (fun e4 μ' hc => ?_)
      obtain ⟨rfl, rfl⟩ := hc
      refine gg_ladd dX7_foldedSum_43 ?_
      refine gg_callVi (own := RX7) (yt := gm_X0_leaf) rfl gl_RX7_64 gk_X0_leaf gr_X0_leaf dX7_foldedSum_44 (c_X0_leaf (d := d - 1) (k := 0) (x := ((gHd la).2 + (gHd lb).2)) hD hu (gNv_n _) rfl (by omega)) sh_12 pl_12 (by decide) rfl rfl rfl (Nat.le_of_ble_eq_true rfl) (by show _ ≤ d; omega) ⟨Nat.le_refl _, Nat.le_refl _⟩ (fun e5 μ' hc => ?_)
      obtain ⟨I1, J1, rfl, hD1, hf1, hf2, hf3, rfl⟩ := hc
      refine gg_ireti dX7_foldedSum_47 rfl ⟨rfl, rfl⟩ ?_
      refine ⟨I1, J1, [_], D.length, rfl, by simp, hD1, hf1, hf2, hf3, rfl, ?_⟩
      rw [(show gfSum la lb = [(0, (gHd la).2 + (gHd lb).2)] by unfold gfSum; repeat' split; all_goals first | rfl | (exfalso; simp_all; done) | simp_all)]
      simp
    · refine gg_if_eq_t (tgt := 48) dX7_foldedSum_19 (by decide) (by decide) (by decide) ?_
      refine gg_aload_n dX7_foldedSum_48 0 rfl ?_
      refine gg_getR (k' := 12) rfl gf_RX7_18 dX7_foldedSum_49 sh_22 pl_22 (by decide) (by decide) rr_22_0 ?_
      refine gg_iload_n dX7_foldedSum_52 1 rfl ?_
      refine gg_lconstv (x := 0) dX7_foldedSum_53 rfl ?_
      refine gg_callVi (own := RX7) (yt := gm_X0_isNumber_) rfl gl_RX7_111 gk_X0_isNumber_ gr_X0_isNumber_ dX7_foldedSum_54 (c_X0_isNumber_ (d := d - 1) (x := 0) hD ha (by omega)) sh_12 pl_12 (by decide) rfl rfl rfl (Nat.le_of_ble_eq_true rfl) (by show _ ≤ d; omega) ⟨Nat.le_refl _, Nat.le_refl _⟩ (fun e6 μ' hc => ?_)
      obtain ⟨rfl, ⟨rfl, hxa⟩ | ⟨rfl, hxa⟩⟩ := hc
      · refine gg_if_eq_f (tgt := 62) dX7_foldedSum_57 (by decide) (by decide) (by decide) ?_
        refine gg_iload_n dX7_foldedSum_60 2 rfl ?_
        refine gg_ireti dX7_foldedSum_61 rfl ⟨rfl, rfl⟩ ?_
        refine ⟨I, J, [], b, rfl, by simp, by rw [List.append_nil]; exact hD, (fun _ _ _ _ _ _ _ => rfl), (fun _ _ => rfl), (fun _ _ => rfl), rfl, ?_⟩
        rw [(show gfSum la lb = lb by unfold gfSum; repeat' split; all_goals first | rfl | (exfalso; simp_all; done) | simp_all), List.append_nil]
        exact hb
      · refine gg_if_eq_t (tgt := 62) dX7_foldedSum_57 (by decide) (by decide) (by decide) ?_
        refine gg_aload_n dX7_foldedSum_62 0 rfl ?_
        refine gg_getR (k' := 12) rfl gf_RX7_18 dX7_foldedSum_63 sh_22 pl_22 (by decide) (by decide) rr_22_0 ?_
        refine gg_iload_n dX7_foldedSum_66 2 rfl ?_
        refine gg_lconstv (x := 0) dX7_foldedSum_67 rfl ?_
        refine gg_callVi (own := RX7) (yt := gm_X0_isNumber_) rfl gl_RX7_111 gk_X0_isNumber_ gr_X0_isNumber_ dX7_foldedSum_68 (c_X0_isNumber_ (d := d - 1) (x := 0) hD hb (by omega)) sh_12 pl_12 (by decide) rfl rfl rfl (Nat.le_of_ble_eq_true rfl) (by show _ ≤ d; omega) ⟨Nat.le_refl _, Nat.le_refl _⟩ (fun e7 μ' hc => ?_)
        obtain ⟨rfl, ⟨rfl, hxb⟩ | ⟨rfl, hxb⟩⟩ := hc
        · refine gg_if_eq_f (tgt := 78) dX7_foldedSum_71 (by decide) (by decide) (by decide) ?_
          refine gg_iload_n dX7_foldedSum_74 1 rfl ?_
          refine gg_goto (tgt := 88) dX7_foldedSum_75 (by decide) ?_
          refine gg_ireti dX7_foldedSum_88 rfl ⟨rfl, rfl⟩ ?_
          refine ⟨I, J, [], a, rfl, by simp, by rw [List.append_nil]; exact hD, (fun _ _ _ _ _ _ _ => rfl), (fun _ _ => rfl), (fun _ _ => rfl), rfl, ?_⟩
          rw [(show gfSum la lb = la by unfold gfSum; repeat' split; all_goals first | rfl | (exfalso; simp_all; done) | simp_all), List.append_nil]
          exact ha
        · refine gg_if_eq_t (tgt := 78) dX7_foldedSum_71 (by decide) (by decide) (by decide) ?_
          refine gg_aload_n dX7_foldedSum_78 0 rfl ?_
          refine gg_getR (k' := 12) rfl gf_RX7_18 dX7_foldedSum_79 sh_22 pl_22 (by decide) (by decide) rr_22_0 ?_
          refine gg_iconst dX7_foldedSum_82 ?_
          refine gg_iload_n dX7_foldedSum_83 1 rfl ?_
          refine gg_iload_n dX7_foldedSum_84 2 rfl ?_
          refine gg_callVi (own := RX7) (yt := gm_X0_pair) rfl gl_RX7_68 gk_X0_pair gr_X0_pair dX7_foldedSum_85 (c_X0_pair (d := d - 1) (k := 3) (la := la) (lb := lb) hD hu (gNv_z (by omega) (by omega) (by omega)) (Or.inl ⟨by decide, a, rfl, gget_lt ha, ha⟩) (Or.inl ⟨by decide, b, rfl, gget_lt hb, hb⟩) (by decide) (by omega)) sh_12 pl_12 (by decide) rfl rfl rfl (Nat.le_of_ble_eq_true rfl) (by show _ ≤ d; omega) ⟨Nat.le_refl _, Nat.le_refl _⟩ (fun e8 μ' hc => ?_)
          obtain ⟨I1, J1, rfl, hD1, hf1, hf2, hf3, rfl⟩ := hc
          refine gg_ireti dX7_foldedSum_88 rfl ⟨rfl, rfl⟩ ?_
          refine ⟨I1, J1, [_], D.length, rfl, by simp, hD1, hf1, hf2, hf3, rfl, ?_⟩
          rw [(show gfSum la lb = (3, 0) :: (la ++ lb) by unfold gfSum; repeat' split; all_goals first | rfl | (exfalso; simp_all; done) | simp_all)]
          simp
  · refine gg_if_eq_t (tgt := 48) dX7_foldedSum_8 (by decide) (by decide) (by decide) ?_
    refine gg_aload_n dX7_foldedSum_48 0 rfl ?_
    refine gg_getR (k' := 12) rfl gf_RX7_18 dX7_foldedSum_49 sh_22 pl_22 (by decide) (by decide) rr_22_0 ?_
    refine gg_iload_n dX7_foldedSum_52 1 rfl ?_
    refine gg_lconstv (x := 0) dX7_foldedSum_53 rfl ?_
    refine gg_callVi (own := RX7) (yt := gm_X0_isNumber_) rfl gl_RX7_111 gk_X0_isNumber_ gr_X0_isNumber_ dX7_foldedSum_54 (c_X0_isNumber_ (d := d - 1) (x := 0) hD ha (by omega)) sh_12 pl_12 (by decide) rfl rfl rfl (Nat.le_of_ble_eq_true rfl) (by show _ ≤ d; omega) ⟨Nat.le_refl _, Nat.le_refl _⟩ (fun e9 μ' hc => ?_)
    obtain ⟨rfl, ⟨rfl, hxa⟩ | ⟨rfl, hxa⟩⟩ := hc
    · refine gg_if_eq_f (tgt := 62) dX7_foldedSum_57 (by decide) (by decide) (by decide) ?_
      refine gg_iload_n dX7_foldedSum_60 2 rfl ?_
      refine gg_ireti dX7_foldedSum_61 rfl ⟨rfl, rfl⟩ ?_
      refine ⟨I, J, [], b, rfl, by simp, by rw [List.append_nil]; exact hD, (fun _ _ _ _ _ _ _ => rfl), (fun _ _ => rfl), (fun _ _ => rfl), rfl, ?_⟩
      rw [(show gfSum la lb = lb by unfold gfSum; repeat' split; all_goals first | rfl | (exfalso; simp_all; done) | simp_all), List.append_nil]
      exact hb
    · refine gg_if_eq_t (tgt := 62) dX7_foldedSum_57 (by decide) (by decide) (by decide) ?_
      refine gg_aload_n dX7_foldedSum_62 0 rfl ?_
      refine gg_getR (k' := 12) rfl gf_RX7_18 dX7_foldedSum_63 sh_22 pl_22 (by decide) (by decide) rr_22_0 ?_
      refine gg_iload_n dX7_foldedSum_66 2 rfl ?_
      refine gg_lconstv (x := 0) dX7_foldedSum_67 rfl ?_
      refine gg_callVi (own := RX7) (yt := gm_X0_isNumber_) rfl gl_RX7_111 gk_X0_isNumber_ gr_X0_isNumber_ dX7_foldedSum_68 (c_X0_isNumber_ (d := d - 1) (x := 0) hD hb (by omega)) sh_12 pl_12 (by decide) rfl rfl rfl (Nat.le_of_ble_eq_true rfl) (by show _ ≤ d; omega) ⟨Nat.le_refl _, Nat.le_refl _⟩ (fun e10 μ' hc => ?_)
      obtain ⟨rfl, ⟨rfl, hxb⟩ | ⟨rfl, hxb⟩⟩ := hc
      · refine gg_if_eq_f (tgt := 78) dX7_foldedSum_71 (by decide) (by decide) (by decide) ?_
        refine gg_iload_n dX7_foldedSum_74 1 rfl ?_
        refine gg_goto (tgt := 88) dX7_foldedSum_75 (by decide) ?_
        refine gg_ireti dX7_foldedSum_88 rfl ⟨rfl, rfl⟩ ?_
        refine ⟨I, J, [], a, rfl, by simp, by rw [List.append_nil]; exact hD, (fun _ _ _ _ _ _ _ => rfl), (fun _ _ => rfl), (fun _ _ => rfl), rfl, ?_⟩
        rw [(show gfSum la lb = la by unfold gfSum; repeat' split; all_goals first | rfl | (exfalso; simp_all; done) | simp_all), List.append_nil]
        exact ha
      · refine gg_if_eq_t (tgt := 78) dX7_foldedSum_71 (by decide) (by decide) (by decide) ?_
        refine gg_aload_n dX7_foldedSum_78 0 rfl ?_
        refine gg_getR (k' := 12) rfl gf_RX7_18 dX7_foldedSum_79 sh_22 pl_22 (by decide) (by decide) rr_22_0 ?_
        refine gg_iconst dX7_foldedSum_82 ?_
        refine gg_iload_n dX7_foldedSum_83 1 rfl ?_
        refine gg_iload_n dX7_foldedSum_84 2 rfl ?_
        refine gg_callVi (own := RX7) (yt := gm_X0_pair) rfl gl_RX7_68 gk_X0_pair gr_X0_pair dX7_foldedSum_85 (c_X0_pair (d := d - 1) (k := 3) (la := la) (lb := lb) hD hu (gNv_z (by omega) (by omega) (by omega)) (Or.inl ⟨by decide, a, rfl, gget_lt ha, ha⟩) (Or.inl ⟨by decide, b, rfl, gget_lt hb, hb⟩) (by decide) (by omega)) sh_12 pl_12 (by decide) rfl rfl rfl (Nat.le_of_ble_eq_true rfl) (by show _ ≤ d; omega) ⟨Nat.le_refl _, Nat.le_refl _⟩ (fun e11 μ' hc => ?_)
        obtain ⟨I1, J1, rfl, hD1, hf1, hf2, hf3, rfl⟩ := hc
        refine gg_ireti dX7_foldedSum_88 rfl ⟨rfl, rfl⟩ ?_
        refine ⟨I1, J1, [_], D.length, rfl, by simp, hD1, hf1, hf2, hf3, rfl, ?_⟩
        rw [(show gfSum la lb = (3, 0) :: (la ++ lb) by unfold gfSum; repeat' split; all_goals first | rfl | (exfalso; simp_all; done) | simp_all)]
        simp

set_option maxRecDepth 10000 in
theorem c_X7_foldedProduct {l : Launch} {Γ : gC} {ad : Nat → Nat} {I : Nat → Nat → Int} {J : Nat → Nat → Int64} {d : Nat}  {D : List gLn} (hD : gDf I J D) (hu : D.length < 1200) {a : Nat} {la : gLn} (ha : D[a]? = some la) {b : Nat} {lb : gLn} (hb : D[b]? = some lb) (hd : 5 ≤ d) : gKi l Γ gm_X7_foldedProduct d [.ref (gad (gSS ad) 22), .int (iv (a : Int)), .int (iv (b : Int))] (gSS ad, I, J) (fun e μ => ∃ I1 J1 E r, μ = (gSS ad, I1, J1) ∧ E.length ≤ 1 ∧ gDf I1 J1 (D ++ E) ∧ (∀ p, p ≠ 12 → p ≠ 13 → p ≠ 15 → p ≠ 16 → p ≠ 17 → p ≠ 18 → I1 p = I p) ∧ (∀ q, q ≠ 6 → I1 12 q = I 12 q) ∧ (∀ p, p ≠ 14 → J1 p = J p) ∧ e = ((r : Nat) : Int) ∧ (D ++ E)[r]? = some (gfPro la lb)) := by
  refine gKi_of gk_X7_foldedProduct.1 (Nat.le_of_ble_eq_true rfl) ?_
  show gG l Γ gm_X7_foldedProduct (d, 0, 0, 0, 0) 0 [(0, .ref (gad (gSS ad) 22)), (1, .int (iv (a : Int))), (2, .int (iv (b : Int)))] [] _ _
  refine gg_aload_n dX7_foldedProduct_0 0 rfl ?_
  refine gg_getR (k' := 12) rfl gf_RX7_18 dX7_foldedProduct_1 sh_22 pl_22 (by decide) (by decide) rr_22_0 ?_
  refine gg_iload_n dX7_foldedProduct_4 1 rfl ?_
  refine gg_callVi (own := RX7) (yt := gm_X0_isNumber) rfl gl_RX7_102 gk_X0_isNumber gr_X0_isNumber dX7_foldedProduct_5 (c_X0_isNumber (d := d - 1) hD ha (by omega)) sh_12 pl_12 (by decide) rfl rfl rfl (Nat.le_of_ble_eq_true rfl) (by show _ ≤ d; omega) ⟨Nat.le_refl _, Nat.le_refl _⟩ (fun e1 μ' hc => ?_)
  obtain ⟨rfl, ⟨rfl, hna⟩ | ⟨rfl, hna⟩⟩ := hc
  · refine gg_if_eq_f (tgt := 48) dX7_foldedProduct_8 (by decide) (by decide) (by decide) ?_
    refine gg_aload_n dX7_foldedProduct_11 0 rfl ?_
    refine gg_getR (k' := 12) rfl gf_RX7_18 dX7_foldedProduct_12 sh_22 pl_22 (by decide) (by decide) rr_22_0 ?_
    refine gg_iload_n dX7_foldedProduct_15 2 rfl ?_
    refine gg_callVi (own := RX7) (yt := gm_X0_isNumber) rfl gl_RX7_102 gk_X0_isNumber gr_X0_isNumber dX7_foldedProduct_16 (c_X0_isNumber (d := d - 1) hD hb (by omega)) sh_12 pl_12 (by decide) rfl rfl rfl (Nat.le_of_ble_eq_true rfl) (by show _ ≤ d; omega) ⟨Nat.le_refl _, Nat.le_refl _⟩ (fun e2 μ' hc => ?_)
    obtain ⟨rfl, ⟨rfl, hnb⟩ | ⟨rfl, hnb⟩⟩ := hc
    · refine gg_if_eq_f (tgt := 48) dX7_foldedProduct_19 (by decide) (by decide) (by decide) ?_
      refine gg_aload_n dX7_foldedProduct_22 0 rfl ?_
      refine gg_getR (k' := 12) rfl gf_RX7_18 dX7_foldedProduct_23 sh_22 pl_22 (by decide) (by decide) rr_22_0 ?_
      refine gg_iconst dX7_foldedProduct_26 ?_
      refine gg_aload_n dX7_foldedProduct_27 0 rfl ?_
      refine gg_getR (k' := 12) rfl gf_RX7_18 dX7_foldedProduct_28 sh_22 pl_22 (by decide) (by decide) rr_22_0 ?_
      refine gg_iload_n dX7_foldedProduct_31 1 rfl ?_
      refine gg_callVl (own := RX7) (yt := gm_X0_number) rfl gl_RX7_106 gk_X0_number gr_X0_number dX7_foldedProduct_32 (c_X0_number (d := d - 1) hD ha (by omega)) sh_12 pl_12 (by decide) rfl rfl rfl (Nat.le_of_ble_eq_true rfl) (by show _ ≤ d; omega) ⟨Nat.le_refl _, Nat.le_refl _⟩ (fun e3 μ' hc => ?_)
      obtain ⟨rfl, rfl⟩ := hc
      refine gg_aload_n dX7_foldedProduct_35 0 rfl ?_
      refine gg_getR (k' := 12) rfl gf_RX7_18 dX7_foldedProduct_36 sh_22 pl_22 (by decide) (by decide) rr_22_0 ?_
      refine gg_iload_n dX7_foldedProduct_39 2 rfl ?_
      refine gg_callVl (own := RX7) (yt := gm_X0_number) rfl gl_RX7_106 gk_X0_number gr_X0_number dX7_foldedProduct_40 (c_X0_number (d := d - 1) hD hb (by omega)) sh_12 pl_12 (by decide) rfl rfl rfl (Nat.le_of_ble_eq_true rfl) (by show _ ≤ d; omega) ⟨Nat.le_refl _, Nat.le_refl _⟩ (fun e4 μ' hc => ?_)
      obtain ⟨rfl, rfl⟩ := hc
      refine gg_lmul dX7_foldedProduct_43 ?_
      refine gg_callVi (own := RX7) (yt := gm_X0_leaf) rfl gl_RX7_64 gk_X0_leaf gr_X0_leaf dX7_foldedProduct_44 (c_X0_leaf (d := d - 1) (k := 0) (x := ((gHd la).2 * (gHd lb).2)) hD hu (gNv_n _) rfl (by omega)) sh_12 pl_12 (by decide) rfl rfl rfl (Nat.le_of_ble_eq_true rfl) (by show _ ≤ d; omega) ⟨Nat.le_refl _, Nat.le_refl _⟩ (fun e5 μ' hc => ?_)
      obtain ⟨I1, J1, rfl, hD1, hf1, hf2, hf3, rfl⟩ := hc
      refine gg_ireti dX7_foldedProduct_47 rfl ⟨rfl, rfl⟩ ?_
      refine ⟨I1, J1, [_], D.length, rfl, by simp, hD1, hf1, hf2, hf3, rfl, ?_⟩
      rw [(show gfPro la lb = [(0, (gHd la).2 * (gHd lb).2)] by unfold gfPro; repeat' split; all_goals first | rfl | (exfalso; simp_all; done) | simp_all)]
      simp
    · refine gg_if_eq_t (tgt := 48) dX7_foldedProduct_19 (by decide) (by decide) (by decide) ?_
      refine gg_aload_n dX7_foldedProduct_48 0 rfl ?_
      refine gg_getR (k' := 12) rfl gf_RX7_18 dX7_foldedProduct_49 sh_22 pl_22 (by decide) (by decide) rr_22_0 ?_
      refine gg_iload_n dX7_foldedProduct_52 1 rfl ?_
      refine gg_lconstv (x := 0) dX7_foldedProduct_53 rfl ?_
      refine gg_callVi (own := RX7) (yt := gm_X0_isNumber_) rfl gl_RX7_111 gk_X0_isNumber_ gr_X0_isNumber_ dX7_foldedProduct_54 (c_X0_isNumber_ (d := d - 1) (x := 0) hD ha (by omega)) sh_12 pl_12 (by decide) rfl rfl rfl (Nat.le_of_ble_eq_true rfl) (by show _ ≤ d; omega) ⟨Nat.le_refl _, Nat.le_refl _⟩ (fun e6 μ' hc => ?_)
      obtain ⟨rfl, ⟨rfl, hxa⟩ | ⟨rfl, hxa⟩⟩ := hc
      · refine gg_if_ne_t (tgt := 72) dX7_foldedProduct_57 (by decide) (by decide) (by decide) ?_
        refine gg_aload_n dX7_foldedProduct_72 0 rfl ?_
        refine gg_getR (k' := 12) rfl gf_RX7_18 dX7_foldedProduct_73 sh_22 pl_22 (by decide) (by decide) rr_22_0 ?_
        refine gg_iconst dX7_foldedProduct_76 ?_
        refine gg_lconstv (x := 0) dX7_foldedProduct_77 rfl ?_
        refine gg_callVi (own := RX7) (yt := gm_X0_leaf) rfl gl_RX7_64 gk_X0_leaf gr_X0_leaf dX7_foldedProduct_78 (c_X0_leaf (d := d - 1) (k := 0) (x := 0) hD hu (gNv_n _) rfl (by omega)) sh_12 pl_12 (by decide) rfl rfl rfl (Nat.le_of_ble_eq_true rfl) (by show _ ≤ d; omega) ⟨Nat.le_refl _, Nat.le_refl _⟩ (fun e7 μ' hc => ?_)
        obtain ⟨I1, J1, rfl, hD1, hf1, hf2, hf3, rfl⟩ := hc
        refine gg_ireti dX7_foldedProduct_81 rfl ⟨rfl, rfl⟩ ?_
        refine ⟨I1, J1, [_], D.length, rfl, by simp, hD1, hf1, hf2, hf3, rfl, ?_⟩
        rw [(show gfPro la lb = [(0, 0)] by unfold gfPro; repeat' split; all_goals first | rfl | (exfalso; simp_all; done) | simp_all)]
        simp
      · refine gg_if_ne_f (tgt := 72) dX7_foldedProduct_57 (by decide) (by decide) (by decide) ?_
        refine gg_aload_n dX7_foldedProduct_60 0 rfl ?_
        refine gg_getR (k' := 12) rfl gf_RX7_18 dX7_foldedProduct_61 sh_22 pl_22 (by decide) (by decide) rr_22_0 ?_
        refine gg_iload_n dX7_foldedProduct_64 2 rfl ?_
        refine gg_lconstv (x := 0) dX7_foldedProduct_65 rfl ?_
        refine gg_callVi (own := RX7) (yt := gm_X0_isNumber_) rfl gl_RX7_111 gk_X0_isNumber_ gr_X0_isNumber_ dX7_foldedProduct_66 (c_X0_isNumber_ (d := d - 1) (x := 0) hD hb (by omega)) sh_12 pl_12 (by decide) rfl rfl rfl (Nat.le_of_ble_eq_true rfl) (by show _ ≤ d; omega) ⟨Nat.le_refl _, Nat.le_refl _⟩ (fun e8 μ' hc => ?_)
        obtain ⟨rfl, ⟨rfl, hxb⟩ | ⟨rfl, hxb⟩⟩ := hc
        · refine gg_if_eq_f (tgt := 82) dX7_foldedProduct_69 (by decide) (by decide) (by decide) ?_
          refine gg_aload_n dX7_foldedProduct_72 0 rfl ?_
          refine gg_getR (k' := 12) rfl gf_RX7_18 dX7_foldedProduct_73 sh_22 pl_22 (by decide) (by decide) rr_22_0 ?_
          refine gg_iconst dX7_foldedProduct_76 ?_
          refine gg_lconstv (x := 0) dX7_foldedProduct_77 rfl ?_
          refine gg_callVi (own := RX7) (yt := gm_X0_leaf) rfl gl_RX7_64 gk_X0_leaf gr_X0_leaf dX7_foldedProduct_78 (c_X0_leaf (d := d - 1) (k := 0) (x := 0) hD hu (gNv_n _) rfl (by omega)) sh_12 pl_12 (by decide) rfl rfl rfl (Nat.le_of_ble_eq_true rfl) (by show _ ≤ d; omega) ⟨Nat.le_refl _, Nat.le_refl _⟩ (fun e9 μ' hc => ?_)
          obtain ⟨I1, J1, rfl, hD1, hf1, hf2, hf3, rfl⟩ := hc
          refine gg_ireti dX7_foldedProduct_81 rfl ⟨rfl, rfl⟩ ?_
          refine ⟨I1, J1, [_], D.length, rfl, by simp, hD1, hf1, hf2, hf3, rfl, ?_⟩
          rw [(show gfPro la lb = [(0, 0)] by unfold gfPro; repeat' split; all_goals first | rfl | (exfalso; simp_all; done) | simp_all)]
          simp
        · refine gg_if_eq_t (tgt := 82) dX7_foldedProduct_69 (by decide) (by decide) (by decide) ?_
          refine gg_aload_n dX7_foldedProduct_82 0 rfl ?_
          refine gg_getR (k' := 12) rfl gf_RX7_18 dX7_foldedProduct_83 sh_22 pl_22 (by decide) (by decide) rr_22_0 ?_
          refine gg_iload_n dX7_foldedProduct_86 1 rfl ?_
          refine gg_lconstv (x := 1) dX7_foldedProduct_87 rfl ?_
          refine gg_callVi (own := RX7) (yt := gm_X0_isNumber_) rfl gl_RX7_111 gk_X0_isNumber_ gr_X0_isNumber_ dX7_foldedProduct_88 (c_X0_isNumber_ (d := d - 1) (x := 1) hD ha (by omega)) sh_12 pl_12 (by decide) rfl rfl rfl (Nat.le_of_ble_eq_true rfl) (by show _ ≤ d; omega) ⟨Nat.le_refl _, Nat.le_refl _⟩ (fun e10 μ' hc => ?_)
          obtain ⟨rfl, ⟨rfl, hya⟩ | ⟨rfl, hya⟩⟩ := hc
          · refine gg_if_eq_f (tgt := 96) dX7_foldedProduct_91 (by decide) (by decide) (by decide) ?_
            refine gg_iload_n dX7_foldedProduct_94 2 rfl ?_
            refine gg_ireti dX7_foldedProduct_95 rfl ⟨rfl, rfl⟩ ?_
            refine ⟨I, J, [], b, rfl, by simp, by rw [List.append_nil]; exact hD, (fun _ _ _ _ _ _ _ => rfl), (fun _ _ => rfl), (fun _ _ => rfl), rfl, ?_⟩
            rw [(show gfPro la lb = lb by unfold gfPro; repeat' split; all_goals first | rfl | (exfalso; simp_all; done) | simp_all), List.append_nil]
            exact hb
          · refine gg_if_eq_t (tgt := 96) dX7_foldedProduct_91 (by decide) (by decide) (by decide) ?_
            refine gg_aload_n dX7_foldedProduct_96 0 rfl ?_
            refine gg_getR (k' := 12) rfl gf_RX7_18 dX7_foldedProduct_97 sh_22 pl_22 (by decide) (by decide) rr_22_0 ?_
            refine gg_iload_n dX7_foldedProduct_100 2 rfl ?_
            refine gg_lconstv (x := 1) dX7_foldedProduct_101 rfl ?_
            refine gg_callVi (own := RX7) (yt := gm_X0_isNumber_) rfl gl_RX7_111 gk_X0_isNumber_ gr_X0_isNumber_ dX7_foldedProduct_102 (c_X0_isNumber_ (d := d - 1) (x := 1) hD hb (by omega)) sh_12 pl_12 (by decide) rfl rfl rfl (Nat.le_of_ble_eq_true rfl) (by show _ ≤ d; omega) ⟨Nat.le_refl _, Nat.le_refl _⟩ (fun e11 μ' hc => ?_)
            obtain ⟨rfl, ⟨rfl, hyb⟩ | ⟨rfl, hyb⟩⟩ := hc
            · refine gg_if_eq_f (tgt := 112) dX7_foldedProduct_105 (by decide) (by decide) (by decide) ?_
              refine gg_iload_n dX7_foldedProduct_108 1 rfl ?_
              refine gg_goto (tgt := 122) dX7_foldedProduct_109 (by decide) ?_
              refine gg_ireti dX7_foldedProduct_122 rfl ⟨rfl, rfl⟩ ?_
              refine ⟨I, J, [], a, rfl, by simp, by rw [List.append_nil]; exact hD, (fun _ _ _ _ _ _ _ => rfl), (fun _ _ => rfl), (fun _ _ => rfl), rfl, ?_⟩
              rw [(show gfPro la lb = la by unfold gfPro; repeat' split; all_goals first | rfl | (exfalso; simp_all; done) | simp_all), List.append_nil]
              exact ha
            · refine gg_if_eq_t (tgt := 112) dX7_foldedProduct_105 (by decide) (by decide) (by decide) ?_
              refine gg_aload_n dX7_foldedProduct_112 0 rfl ?_
              refine gg_getR (k' := 12) rfl gf_RX7_18 dX7_foldedProduct_113 sh_22 pl_22 (by decide) (by decide) rr_22_0 ?_
              refine gg_iconst dX7_foldedProduct_116 ?_
              refine gg_iload_n dX7_foldedProduct_117 1 rfl ?_
              refine gg_iload_n dX7_foldedProduct_118 2 rfl ?_
              refine gg_callVi (own := RX7) (yt := gm_X0_pair) rfl gl_RX7_68 gk_X0_pair gr_X0_pair dX7_foldedProduct_119 (c_X0_pair (d := d - 1) (k := 4) (la := la) (lb := lb) hD hu (gNv_z (by omega) (by omega) (by omega)) (Or.inl ⟨by decide, a, rfl, gget_lt ha, ha⟩) (Or.inl ⟨by decide, b, rfl, gget_lt hb, hb⟩) (by decide) (by omega)) sh_12 pl_12 (by decide) rfl rfl rfl (Nat.le_of_ble_eq_true rfl) (by show _ ≤ d; omega) ⟨Nat.le_refl _, Nat.le_refl _⟩ (fun e12 μ' hc => ?_)
              obtain ⟨I1, J1, rfl, hD1, hf1, hf2, hf3, rfl⟩ := hc
              refine gg_ireti dX7_foldedProduct_122 rfl ⟨rfl, rfl⟩ ?_
              refine ⟨I1, J1, [_], D.length, rfl, by simp, hD1, hf1, hf2, hf3, rfl, ?_⟩
              rw [(show gfPro la lb = (4, 0) :: (la ++ lb) by unfold gfPro; repeat' split; all_goals first | rfl | (exfalso; simp_all; done) | simp_all)]
              simp
  · refine gg_if_eq_t (tgt := 48) dX7_foldedProduct_8 (by decide) (by decide) (by decide) ?_
    refine gg_aload_n dX7_foldedProduct_48 0 rfl ?_
    refine gg_getR (k' := 12) rfl gf_RX7_18 dX7_foldedProduct_49 sh_22 pl_22 (by decide) (by decide) rr_22_0 ?_
    refine gg_iload_n dX7_foldedProduct_52 1 rfl ?_
    refine gg_lconstv (x := 0) dX7_foldedProduct_53 rfl ?_
    refine gg_callVi (own := RX7) (yt := gm_X0_isNumber_) rfl gl_RX7_111 gk_X0_isNumber_ gr_X0_isNumber_ dX7_foldedProduct_54 (c_X0_isNumber_ (d := d - 1) (x := 0) hD ha (by omega)) sh_12 pl_12 (by decide) rfl rfl rfl (Nat.le_of_ble_eq_true rfl) (by show _ ≤ d; omega) ⟨Nat.le_refl _, Nat.le_refl _⟩ (fun e13 μ' hc => ?_)
    obtain ⟨rfl, ⟨rfl, hxa⟩ | ⟨rfl, hxa⟩⟩ := hc
    · refine gg_if_ne_t (tgt := 72) dX7_foldedProduct_57 (by decide) (by decide) (by decide) ?_
      refine gg_aload_n dX7_foldedProduct_72 0 rfl ?_
      refine gg_getR (k' := 12) rfl gf_RX7_18 dX7_foldedProduct_73 sh_22 pl_22 (by decide) (by decide) rr_22_0 ?_
      refine gg_iconst dX7_foldedProduct_76 ?_
      refine gg_lconstv (x := 0) dX7_foldedProduct_77 rfl ?_
      refine gg_callVi (own := RX7) (yt := gm_X0_leaf) rfl gl_RX7_64 gk_X0_leaf gr_X0_leaf dX7_foldedProduct_78 (c_X0_leaf (d := d - 1) (k := 0) (x := 0) hD hu (gNv_n _) rfl (by omega)) sh_12 pl_12 (by decide) rfl rfl rfl (Nat.le_of_ble_eq_true rfl) (by show _ ≤ d; omega) ⟨Nat.le_refl _, Nat.le_refl _⟩ (fun e14 μ' hc => ?_)
      obtain ⟨I1, J1, rfl, hD1, hf1, hf2, hf3, rfl⟩ := hc
      refine gg_ireti dX7_foldedProduct_81 rfl ⟨rfl, rfl⟩ ?_
      refine ⟨I1, J1, [_], D.length, rfl, by simp, hD1, hf1, hf2, hf3, rfl, ?_⟩
      rw [(show gfPro la lb = [(0, 0)] by unfold gfPro; repeat' split; all_goals first | rfl | (exfalso; simp_all; done) | simp_all)]
      simp
    · refine gg_if_ne_f (tgt := 72) dX7_foldedProduct_57 (by decide) (by decide) (by decide) ?_
      refine gg_aload_n dX7_foldedProduct_60 0 rfl ?_
      refine gg_getR (k' := 12) rfl gf_RX7_18 dX7_foldedProduct_61 sh_22 pl_22 (by decide) (by decide) rr_22_0 ?_
      refine gg_iload_n dX7_foldedProduct_64 2 rfl ?_
      refine gg_lconstv (x := 0) dX7_foldedProduct_65 rfl ?_
      refine gg_callVi (own := RX7) (yt := gm_X0_isNumber_) rfl gl_RX7_111 gk_X0_isNumber_ gr_X0_isNumber_ dX7_foldedProduct_66 (c_X0_isNumber_ (d := d - 1) (x := 0) hD hb (by omega)) sh_12 pl_12 (by decide) rfl rfl rfl (Nat.le_of_ble_eq_true rfl) (by show _ ≤ d; omega) ⟨Nat.le_refl _, Nat.le_refl _⟩ (fun e15 μ' hc => ?_)
      obtain ⟨rfl, ⟨rfl, hxb⟩ | ⟨rfl, hxb⟩⟩ := hc
      · refine gg_if_eq_f (tgt := 82) dX7_foldedProduct_69 (by decide) (by decide) (by decide) ?_
        refine gg_aload_n dX7_foldedProduct_72 0 rfl ?_
        refine gg_getR (k' := 12) rfl gf_RX7_18 dX7_foldedProduct_73 sh_22 pl_22 (by decide) (by decide) rr_22_0 ?_
        refine gg_iconst dX7_foldedProduct_76 ?_
        refine gg_lconstv (x := 0) dX7_foldedProduct_77 rfl ?_
        refine gg_callVi (own := RX7) (yt := gm_X0_leaf) rfl gl_RX7_64 gk_X0_leaf gr_X0_leaf dX7_foldedProduct_78 (c_X0_leaf (d := d - 1) (k := 0) (x := 0) hD hu (gNv_n _) rfl (by omega)) sh_12 pl_12 (by decide) rfl rfl rfl (Nat.le_of_ble_eq_true rfl) (by show _ ≤ d; omega) ⟨Nat.le_refl _, Nat.le_refl _⟩ (fun e16 μ' hc => ?_)
        obtain ⟨I1, J1, rfl, hD1, hf1, hf2, hf3, rfl⟩ := hc
        refine gg_ireti dX7_foldedProduct_81 rfl ⟨rfl, rfl⟩ ?_
        refine ⟨I1, J1, [_], D.length, rfl, by simp, hD1, hf1, hf2, hf3, rfl, ?_⟩
        rw [(show gfPro la lb = [(0, 0)] by unfold gfPro; repeat' split; all_goals first | rfl | (exfalso; simp_all; done) | simp_all)]
        simp
      · refine gg_if_eq_t (tgt := 82) dX7_foldedProduct_69 (by decide) (by decide) (by decide) ?_
        refine gg_aload_n dX7_foldedProduct_82 0 rfl ?_
        refine gg_getR (k' := 12) rfl gf_RX7_18 dX7_foldedProduct_83 sh_22 pl_22 (by decide) (by decide) rr_22_0 ?_
        refine gg_iload_n dX7_foldedProduct_86 1 rfl ?_
        refine gg_lconstv (x := 1) dX7_foldedProduct_87 rfl ?_
        refine gg_callVi (own := RX7) (yt := gm_X0_isNumber_) rfl gl_RX7_111 gk_X0_isNumber_ gr_X0_isNumber_ dX7_foldedProduct_88 (c_X0_isNumber_ (d := d - 1) (x := 1) hD ha (by omega)) sh_12 pl_12 (by decide) rfl rfl rfl (Nat.le_of_ble_eq_true rfl) (by show _ ≤ d; omega) ⟨Nat.le_refl _, Nat.le_refl _⟩ (fun e17 μ' hc => ?_)
        obtain ⟨rfl, ⟨rfl, hya⟩ | ⟨rfl, hya⟩⟩ := hc
        · refine gg_if_eq_f (tgt := 96) dX7_foldedProduct_91 (by decide) (by decide) (by decide) ?_
          refine gg_iload_n dX7_foldedProduct_94 2 rfl ?_
          refine gg_ireti dX7_foldedProduct_95 rfl ⟨rfl, rfl⟩ ?_
          refine ⟨I, J, [], b, rfl, by simp, by rw [List.append_nil]; exact hD, (fun _ _ _ _ _ _ _ => rfl), (fun _ _ => rfl), (fun _ _ => rfl), rfl, ?_⟩
          rw [(show gfPro la lb = lb by unfold gfPro; repeat' split; all_goals first | rfl | (exfalso; simp_all; done) | simp_all), List.append_nil]
          exact hb
        · refine gg_if_eq_t (tgt := 96) dX7_foldedProduct_91 (by decide) (by decide) (by decide) ?_
          refine gg_aload_n dX7_foldedProduct_96 0 rfl ?_
          refine gg_getR (k' := 12) rfl gf_RX7_18 dX7_foldedProduct_97 sh_22 pl_22 (by decide) (by decide) rr_22_0 ?_
          refine gg_iload_n dX7_foldedProduct_100 2 rfl ?_
          refine gg_lconstv (x := 1) dX7_foldedProduct_101 rfl ?_
          refine gg_callVi (own := RX7) (yt := gm_X0_isNumber_) rfl gl_RX7_111 gk_X0_isNumber_ gr_X0_isNumber_ dX7_foldedProduct_102 (c_X0_isNumber_ (d := d - 1) (x := 1) hD hb (by omega)) sh_12 pl_12 (by decide) rfl rfl rfl (Nat.le_of_ble_eq_true rfl) (by show _ ≤ d; omega) ⟨Nat.le_refl _, Nat.le_refl _⟩ (fun e18 μ' hc => ?_)
          obtain ⟨rfl, ⟨rfl, hyb⟩ | ⟨rfl, hyb⟩⟩ := hc
          · refine gg_if_eq_f (tgt := 112) dX7_foldedProduct_105 (by decide) (by decide) (by decide) ?_
            refine gg_iload_n dX7_foldedProduct_108 1 rfl ?_
            refine gg_goto (tgt := 122) dX7_foldedProduct_109 (by decide) ?_
            refine gg_ireti dX7_foldedProduct_122 rfl ⟨rfl, rfl⟩ ?_
            refine ⟨I, J, [], a, rfl, by simp, by rw [List.append_nil]; exact hD, (fun _ _ _ _ _ _ _ => rfl), (fun _ _ => rfl), (fun _ _ => rfl), rfl, ?_⟩
            rw [(show gfPro la lb = la by unfold gfPro; repeat' split; all_goals first | rfl | (exfalso; simp_all; done) | simp_all), List.append_nil]
            exact ha
          · refine gg_if_eq_t (tgt := 112) dX7_foldedProduct_105 (by decide) (by decide) (by decide) ?_
            refine gg_aload_n dX7_foldedProduct_112 0 rfl ?_
            refine gg_getR (k' := 12) rfl gf_RX7_18 dX7_foldedProduct_113 sh_22 pl_22 (by decide) (by decide) rr_22_0 ?_
            refine gg_iconst dX7_foldedProduct_116 ?_
            refine gg_iload_n dX7_foldedProduct_117 1 rfl ?_
            refine gg_iload_n dX7_foldedProduct_118 2 rfl ?_
            refine gg_callVi (own := RX7) (yt := gm_X0_pair) rfl gl_RX7_68 gk_X0_pair gr_X0_pair dX7_foldedProduct_119 (c_X0_pair (d := d - 1) (k := 4) (la := la) (lb := lb) hD hu (gNv_z (by omega) (by omega) (by omega)) (Or.inl ⟨by decide, a, rfl, gget_lt ha, ha⟩) (Or.inl ⟨by decide, b, rfl, gget_lt hb, hb⟩) (by decide) (by omega)) sh_12 pl_12 (by decide) rfl rfl rfl (Nat.le_of_ble_eq_true rfl) (by show _ ≤ d; omega) ⟨Nat.le_refl _, Nat.le_refl _⟩ (fun e19 μ' hc => ?_)
            obtain ⟨I1, J1, rfl, hD1, hf1, hf2, hf3, rfl⟩ := hc
            refine gg_ireti dX7_foldedProduct_122 rfl ⟨rfl, rfl⟩ ?_
            refine ⟨I1, J1, [_], D.length, rfl, by simp, hD1, hf1, hf2, hf3, rfl, ?_⟩
            rw [(show gfPro la lb = (4, 0) :: (la ++ lb) by unfold gfPro; repeat' split; all_goals first | rfl | (exfalso; simp_all; done) | simp_all)]
            simp

set_option maxRecDepth 10000 in
theorem c_X7_foldedPower {l : Launch} {Γ : gC} {ad : Nat → Nat} {I : Nat → Nat → Int} {J : Nat → Nat → Int64} {d : Nat}  {D : List gLn} (hD : gDf I J D) (hu : D.length < 1200) {a : Nat} {la : gLn} (ha : D[a]? = some la) {m0 : Nat} (hm : m0 < 10) (hd : 5 ≤ d) : gKi l Γ gm_X7_foldedPower d [.ref (gad (gSS ad) 22), .int (iv (a : Int)), .long (Int64.ofNat m0)] (gSS ad, I, J) (fun e μ => ∃ I1 J1 E r, μ = (gSS ad, I1, J1) ∧ E.length ≤ 1 ∧ gDf I1 J1 (D ++ E) ∧ (∀ p, p ≠ 12 → p ≠ 13 → p ≠ 15 → p ≠ 16 → p ≠ 17 → p ≠ 18 → I1 p = I p) ∧ (∀ q, q ≠ 6 → I1 12 q = I 12 q) ∧ (∀ p, p ≠ 14 → J1 p = J p) ∧ e = ((r : Nat) : Int) ∧ (D ++ E)[r]? = some (gfPow la (Int64.ofNat m0))) := by
  refine gKi_of gk_X7_foldedPower.1 (Nat.le_of_ble_eq_true rfl) ?_
  show gG l Γ gm_X7_foldedPower (d, 0, 0, 0, 0) 0 [(0, .ref (gad (gSS ad) 22)), (1, .int (iv (a : Int))), (2, .long (Int64.ofNat m0))] [] _ _
  refine gg_lload_n dX7_foldedPower_0 2 rfl ?_
  refine gg_lconstv (x := 0) dX7_foldedPower_1 rfl ?_
  refine gg_lcmp_ne (tgt := 16) dX7_foldedPower_2 dX7_foldedPower_3 (by decide) (fun h0 => ?_) (fun h0 => ?_)
  · refine gg_lload_n dX7_foldedPower_16 2 rfl ?_
    refine gg_lconstv (x := 1) dX7_foldedPower_17 rfl ?_
    refine gg_lcmp_ne (tgt := 24) dX7_foldedPower_18 dX7_foldedPower_19 (by decide) (fun h1 => ?_) (fun h1 => ?_)
    · refine gg_aload_n dX7_foldedPower_24 0 rfl ?_
      refine gg_getR (k' := 12) rfl gf_RX7_18 dX7_foldedPower_25 sh_22 pl_22 (by decide) (by decide) rr_22_0 ?_
      refine gg_iload_n dX7_foldedPower_28 1 rfl ?_
      refine gg_callVi (own := RX7) (yt := gm_X0_isNumber) rfl gl_RX7_102 gk_X0_isNumber gr_X0_isNumber dX7_foldedPower_29 (c_X0_isNumber (d := d - 1) hD ha (by omega)) sh_12 pl_12 (by decide) rfl rfl rfl (Nat.le_of_ble_eq_true rfl) (by show _ ≤ d; omega) ⟨Nat.le_refl _, Nat.le_refl _⟩ (fun e1 μ' hc => ?_)
      obtain ⟨rfl, ⟨rfl, hna⟩ | ⟨rfl, hna⟩⟩ := hc
      · refine gg_if_eq_f (tgt := 56) dX7_foldedPower_32 (by decide) (by decide) (by decide) ?_
        refine gg_aload_n dX7_foldedPower_35 0 rfl ?_
        refine gg_getR (k' := 12) rfl gf_RX7_18 dX7_foldedPower_36 sh_22 pl_22 (by decide) (by decide) rr_22_0 ?_
        refine gg_iconst dX7_foldedPower_39 ?_
        refine gg_aload_n dX7_foldedPower_40 0 rfl ?_
        refine gg_getR (k' := 12) rfl gf_RX7_18 dX7_foldedPower_41 sh_22 pl_22 (by decide) (by decide) rr_22_0 ?_
        refine gg_iload_n dX7_foldedPower_44 1 rfl ?_
        refine gg_callVl (own := RX7) (yt := gm_X0_number) rfl gl_RX7_106 gk_X0_number gr_X0_number dX7_foldedPower_45 (c_X0_number (d := d - 1) hD ha (by omega)) sh_12 pl_12 (by decide) rfl rfl rfl (Nat.le_of_ble_eq_true rfl) (by show _ ≤ d; omega) ⟨Nat.le_refl _, Nat.le_refl _⟩ (fun e2 μ' hc => ?_)
        obtain ⟨rfl, rfl⟩ := hc
        refine gg_lload_n dX7_foldedPower_48 2 rfl ?_
        refine gg_callSl (own := RX7) (yt := gm_X8_power) rfl gl_RX7_114 gk_X8_power gr_X8_power dX7_foldedPower_49 (c_X8_power (d := d - 1) (m0 := m0) (by omega)) rfl rfl (Nat.le_of_ble_eq_true rfl) (by show _ ≤ d; omega) ⟨Nat.le_refl _, Nat.le_refl _⟩ (fun e3 μ' hc => ?_)
        obtain ⟨rfl, rfl⟩ := hc
        refine gg_callVi (own := RX7) (yt := gm_X0_leaf) rfl gl_RX7_64 gk_X0_leaf gr_X0_leaf dX7_foldedPower_52 (c_X0_leaf (d := d - 1) (k := 0) (x := (gpow (gHd la).2 m0)) hD hu (gNv_n _) rfl (by omega)) sh_12 pl_12 (by decide) rfl rfl rfl (Nat.le_of_ble_eq_true rfl) (by show _ ≤ d; omega) ⟨Nat.le_refl _, Nat.le_refl _⟩ (fun e4 μ' hc => ?_)
        obtain ⟨I1, J1, rfl, hD1, hf1, hf2, hf3, rfl⟩ := hc
        refine gg_ireti dX7_foldedPower_55 rfl ⟨rfl, rfl⟩ ?_
        refine ⟨I1, J1, [_], D.length, rfl, by simp, hD1, hf1, hf2, hf3, rfl, ?_⟩
        rw [(show gfPow la (Int64.ofNat m0) = [(0, gpow (gHd la).2 m0)] by unfold gfPow; rw [gnum_of (by omega)]; repeat' split; all_goals first | rfl | (exfalso; simp_all; done) | simp_all)]
        simp
      · refine gg_if_eq_t (tgt := 56) dX7_foldedPower_32 (by decide) (by decide) (by decide) ?_
        refine gg_aload_n dX7_foldedPower_56 0 rfl ?_
        refine gg_getR (k' := 12) rfl gf_RX7_18 dX7_foldedPower_57 sh_22 pl_22 (by decide) (by decide) rr_22_0 ?_
        refine gg_iconst dX7_foldedPower_60 ?_
        refine gg_lload_n dX7_foldedPower_61 2 rfl ?_
        refine gg_iload_n dX7_foldedPower_62 1 rfl ?_
        refine gg_iconst dX7_foldedPower_63 ?_
        refine gg_iconst dX7_foldedPower_64 ?_
        refine gg_callVi (own := RX7) (yt := gm_X0_make) rfl gl_RX7_43 gk_X0_make gr_X0_make dX7_foldedPower_65 (c_X0_make (d := d - 1) (k := 5) (x := Int64.ofNat m0) (la := la) (lb := []) (lc := []) hD hu (gNv_p hm) (Or.inl ⟨by decide, a, rfl, gget_lt ha, ha⟩) (Or.inr ⟨by decide, rfl, rfl⟩) (Or.inr ⟨by decide, rfl, rfl⟩) (by omega)) sh_12 pl_12 (by decide) rfl rfl rfl (Nat.le_of_ble_eq_true rfl) (by show _ ≤ d; omega) ⟨Nat.le_refl _, Nat.le_refl _⟩ (fun e5 μ' hc => ?_)
        obtain ⟨I1, J1, rfl, hD1, hf1, hf2, hf3, rfl⟩ := hc
        refine gg_ireti dX7_foldedPower_68 rfl ⟨rfl, rfl⟩ ?_
        refine ⟨I1, J1, [_], D.length, rfl, by simp, hD1, hf1, hf2, hf3, rfl, ?_⟩
        rw [(show gfPow la (Int64.ofNat m0) = (5, Int64.ofNat m0) :: la by unfold gfPow; rw [gnum_of (by omega)]; repeat' split; all_goals first | rfl | (exfalso; simp_all; done) | simp_all)]
        simp
    · refine gg_iload_n dX7_foldedPower_22 1 rfl ?_
      refine gg_ireti dX7_foldedPower_23 rfl ⟨rfl, rfl⟩ ?_
      refine ⟨I, J, [], a, rfl, by simp, by rw [List.append_nil]; exact hD, (fun _ _ _ _ _ _ _ => rfl), (fun _ _ => rfl), (fun _ _ => rfl), rfl, ?_⟩
      rw [(show gfPow la (Int64.ofNat m0) = la by unfold gfPow; repeat' split; all_goals first | rfl | (exfalso; simp_all; done) | simp_all), List.append_nil]
      exact ha
  · refine gg_aload_n dX7_foldedPower_6 0 rfl ?_
    refine gg_getR (k' := 12) rfl gf_RX7_18 dX7_foldedPower_7 sh_22 pl_22 (by decide) (by decide) rr_22_0 ?_
    refine gg_iconst dX7_foldedPower_10 ?_
    refine gg_lconstv (x := 1) dX7_foldedPower_11 rfl ?_
    refine gg_callVi (own := RX7) (yt := gm_X0_leaf) rfl gl_RX7_64 gk_X0_leaf gr_X0_leaf dX7_foldedPower_12 (c_X0_leaf (d := d - 1) (k := 0) (x := 1) hD hu (gNv_n _) rfl (by omega)) sh_12 pl_12 (by decide) rfl rfl rfl (Nat.le_of_ble_eq_true rfl) (by show _ ≤ d; omega) ⟨Nat.le_refl _, Nat.le_refl _⟩ (fun e6 μ' hc => ?_)
    obtain ⟨I1, J1, rfl, hD1, hf1, hf2, hf3, rfl⟩ := hc
    refine gg_ireti dX7_foldedPower_15 rfl ⟨rfl, rfl⟩ ?_
    refine ⟨I1, J1, [_], D.length, rfl, by simp, hD1, hf1, hf2, hf3, rfl, ?_⟩
    rw [(show gfPow la (Int64.ofNat m0) = [(0, 1)] by unfold gfPow; rw [gnum_of (by omega)]; repeat' split; all_goals first | rfl | (exfalso; simp_all; done) | simp_all)]
    simp

set_option maxRecDepth 10000 in
theorem c_X7_foldedPick {l : Launch} {Γ : gC} {ad : Nat → Nat} {I : Nat → Nat → Int} {J : Nat → Nat → Int64} {d : Nat}  {D : List gLn} (hD : gDf I J D) (hu : D.length < 1200) {w : Nat} {lw : gLn} (hw : D[w]? = some lw) {a : Nat} {la : gLn} (ha : D[a]? = some la) {b : Nat} {lb : gLn} (hb : D[b]? = some lb) (hd : 5 ≤ d) : gKi l Γ gm_X7_foldedPick d [.ref (gad (gSS ad) 22), .int (iv (w : Int)), .int (iv (a : Int)), .int (iv (b : Int))] (gSS ad, I, J) (fun e μ => ∃ I1 J1 E r, μ = (gSS ad, I1, J1) ∧ E.length ≤ 1 ∧ gDf I1 J1 (D ++ E) ∧ (∀ p, p ≠ 12 → p ≠ 13 → p ≠ 15 → p ≠ 16 → p ≠ 17 → p ≠ 18 → I1 p = I p) ∧ (∀ q, q ≠ 6 → I1 12 q = I 12 q) ∧ (∀ p, p ≠ 14 → J1 p = J p) ∧ e = ((r : Nat) : Int) ∧ (D ++ E)[r]? = some (gfPic lw la lb)) := by
  refine gKi_of gk_X7_foldedPick.1 (Nat.le_of_ble_eq_true rfl) ?_
  show gG l Γ gm_X7_foldedPick (d, 0, 0, 0, 0) 0 [(0, .ref (gad (gSS ad) 22)), (1, .int (iv (w : Int))), (2, .int (iv (a : Int))), (3, .int (iv (b : Int)))] [] _ _
  refine gg_aload_n dX7_foldedPick_0 0 rfl ?_
  refine gg_getR (k' := 12) rfl gf_RX7_18 dX7_foldedPick_1 sh_22 pl_22 (by decide) (by decide) rr_22_0 ?_
  refine gg_iload_n dX7_foldedPick_4 1 rfl ?_
  refine gg_callVi (own := RX7) (yt := gm_X0_isNumber) rfl gl_RX7_102 gk_X0_isNumber gr_X0_isNumber dX7_foldedPick_5 (c_X0_isNumber (d := d - 1) hD hw (by omega)) sh_12 pl_12 (by decide) rfl rfl rfl (Nat.le_of_ble_eq_true rfl) (by show _ ≤ d; omega) ⟨Nat.le_refl _, Nat.le_refl _⟩ (fun e1 μ' hc => ?_)
  obtain ⟨rfl, ⟨rfl, hnw⟩ | ⟨rfl, hnw⟩⟩ := hc
  · refine gg_if_eq_f (tgt := 30) dX7_foldedPick_8 (by decide) (by decide) (by decide) ?_
    refine gg_aload_n dX7_foldedPick_11 0 rfl ?_
    refine gg_getR (k' := 12) rfl gf_RX7_18 dX7_foldedPick_12 sh_22 pl_22 (by decide) (by decide) rr_22_0 ?_
    refine gg_iload_n dX7_foldedPick_15 1 rfl ?_
    refine gg_callVl (own := RX7) (yt := gm_X0_number) rfl gl_RX7_106 gk_X0_number gr_X0_number dX7_foldedPick_16 (c_X0_number (d := d - 1) hD hw (by omega)) sh_12 pl_12 (by decide) rfl rfl rfl (Nat.le_of_ble_eq_true rfl) (by show _ ≤ d; omega) ⟨Nat.le_refl _, Nat.le_refl _⟩ (fun e2 μ' hc => ?_)
    obtain ⟨rfl, rfl⟩ := hc
    refine gg_lconstv (x := 0) dX7_foldedPick_19 rfl ?_
    refine gg_lcmp_eq (tgt := 28) dX7_foldedPick_20 dX7_foldedPick_21 (by decide) (fun hz => ?_) (fun hz => ?_)
    · refine gg_iload_n dX7_foldedPick_28 3 rfl ?_
      refine gg_ireti dX7_foldedPick_29 rfl ⟨rfl, rfl⟩ ?_
      refine ⟨I, J, [], b, rfl, by simp, by rw [List.append_nil]; exact hD, (fun _ _ _ _ _ _ _ => rfl), (fun _ _ => rfl), (fun _ _ => rfl), rfl, ?_⟩
      rw [(show gfPic lw la lb = lb by unfold gfPic; repeat' split; all_goals first | rfl | (exfalso; simp_all; done) | simp_all), List.append_nil]
      exact hb
    · refine gg_iload_n dX7_foldedPick_24 2 rfl ?_
      refine gg_goto (tgt := 29) dX7_foldedPick_25 (by decide) ?_
      refine gg_ireti dX7_foldedPick_29 rfl ⟨rfl, rfl⟩ ?_
      refine ⟨I, J, [], a, rfl, by simp, by rw [List.append_nil]; exact hD, (fun _ _ _ _ _ _ _ => rfl), (fun _ _ => rfl), (fun _ _ => rfl), rfl, ?_⟩
      rw [(show gfPic lw la lb = la by unfold gfPic; repeat' split; all_goals first | rfl | (exfalso; simp_all; done) | simp_all), List.append_nil]
      exact ha
  · refine gg_if_eq_t (tgt := 30) dX7_foldedPick_8 (by decide) (by decide) (by decide) ?_
    refine gg_aload_n dX7_foldedPick_30 0 rfl ?_
    refine gg_getR (k' := 12) rfl gf_RX7_18 dX7_foldedPick_31 sh_22 pl_22 (by decide) (by decide) rr_22_0 ?_
    refine gg_bipush dX7_foldedPick_34 (by decide) ?_
    refine gg_lconstv (x := 0) dX7_foldedPick_36 rfl ?_
    refine gg_iload_n dX7_foldedPick_37 1 rfl ?_
    refine gg_iload_n dX7_foldedPick_38 2 rfl ?_
    refine gg_iload_n dX7_foldedPick_39 3 rfl ?_
    refine gg_callVi (own := RX7) (yt := gm_X0_make) rfl gl_RX7_43 gk_X0_make gr_X0_make dX7_foldedPick_40 (c_X0_make (d := d - 1) (k := 6) (x := 0) (la := lw) (lb := la) (lc := lb) hD hu (gNv_z (by omega) (by omega) (by omega)) (Or.inl ⟨by decide, w, rfl, gget_lt hw, hw⟩) (Or.inl ⟨by decide, a, rfl, gget_lt ha, ha⟩) (Or.inl ⟨by decide, b, rfl, gget_lt hb, hb⟩) (by omega)) sh_12 pl_12 (by decide) rfl rfl rfl (Nat.le_of_ble_eq_true rfl) (by show _ ≤ d; omega) ⟨Nat.le_refl _, Nat.le_refl _⟩ (fun e3 μ' hc => ?_)
    obtain ⟨I1, J1, rfl, hD1, hf1, hf2, hf3, rfl⟩ := hc
    refine gg_ireti dX7_foldedPick_43 rfl ⟨rfl, rfl⟩ ?_
    refine ⟨I1, J1, [_], D.length, rfl, by simp, hD1, hf1, hf2, hf3, rfl, ?_⟩
    rw [(show gfPic lw la lb = (6, 0) :: (lw ++ (la ++ lb)) by unfold gfPic; repeat' split; all_goals first | rfl | (exfalso; simp_all; done) | simp_all)]
    simp

set_option maxRecDepth 10000 in
theorem c_X7_foldedSquare {l : Launch} {Γ : gC} {ad : Nat → Nat} {I : Nat → Nat → Int} {J : Nat → Nat → Int64} {d : Nat}  {D : List gLn} (hD : gDf I J D) (hu : D.length < 1200) {a : Nat} {la : gLn} (ha : D[a]? = some la) (hd : 5 ≤ d) : gKi l Γ gm_X7_foldedSquare d [.ref (gad (gSS ad) 22), .int (iv (a : Int))] (gSS ad, I, J) (fun e μ => ∃ I1 J1 E r, μ = (gSS ad, I1, J1) ∧ E.length ≤ 1 ∧ gDf I1 J1 (D ++ E) ∧ (∀ p, p ≠ 12 → p ≠ 13 → p ≠ 15 → p ≠ 16 → p ≠ 17 → p ≠ 18 → I1 p = I p) ∧ (∀ q, q ≠ 6 → I1 12 q = I 12 q) ∧ (∀ p, p ≠ 14 → J1 p = J p) ∧ e = ((r : Nat) : Int) ∧ (D ++ E)[r]? = some (gfSqu la)) := by
  refine gKi_of gk_X7_foldedSquare.1 (Nat.le_of_ble_eq_true rfl) ?_
  show gG l Γ gm_X7_foldedSquare (d, 0, 0, 0, 0) 0 [(0, .ref (gad (gSS ad) 22)), (1, .int (iv (a : Int)))] [] _ _
  refine gg_aload_n dX7_foldedSquare_0 0 rfl ?_
  refine gg_getR (k' := 12) rfl gf_RX7_18 dX7_foldedSquare_1 sh_22 pl_22 (by decide) (by decide) rr_22_0 ?_
  refine gg_iload_n dX7_foldedSquare_4 1 rfl ?_
  refine gg_callVi (own := RX7) (yt := gm_X0_isNumber) rfl gl_RX7_102 gk_X0_isNumber gr_X0_isNumber dX7_foldedSquare_5 (c_X0_isNumber (d := d - 1) hD ha (by omega)) sh_12 pl_12 (by decide) rfl rfl rfl (Nat.le_of_ble_eq_true rfl) (by show _ ≤ d; omega) ⟨Nat.le_refl _, Nat.le_refl _⟩ (fun e1 μ' hc => ?_)
  obtain ⟨rfl, ⟨rfl, hna⟩ | ⟨rfl, hna⟩⟩ := hc
  · refine gg_if_eq_f (tgt := 37) dX7_foldedSquare_8 (by decide) (by decide) (by decide) ?_
    refine gg_aload_n dX7_foldedSquare_11 0 rfl ?_
    refine gg_getR (k' := 12) rfl gf_RX7_18 dX7_foldedSquare_12 sh_22 pl_22 (by decide) (by decide) rr_22_0 ?_
    refine gg_iconst dX7_foldedSquare_15 ?_
    refine gg_aload_n dX7_foldedSquare_16 0 rfl ?_
    refine gg_getR (k' := 12) rfl gf_RX7_18 dX7_foldedSquare_17 sh_22 pl_22 (by decide) (by decide) rr_22_0 ?_
    refine gg_iload_n dX7_foldedSquare_20 1 rfl ?_
    refine gg_callVl (own := RX7) (yt := gm_X0_number) rfl gl_RX7_106 gk_X0_number gr_X0_number dX7_foldedSquare_21 (c_X0_number (d := d - 1) hD ha (by omega)) sh_12 pl_12 (by decide) rfl rfl rfl (Nat.le_of_ble_eq_true rfl) (by show _ ≤ d; omega) ⟨Nat.le_refl _, Nat.le_refl _⟩ (fun e2 μ' hc => ?_)
    obtain ⟨rfl, rfl⟩ := hc
    refine gg_aload_n dX7_foldedSquare_24 0 rfl ?_
    refine gg_getR (k' := 12) rfl gf_RX7_18 dX7_foldedSquare_25 sh_22 pl_22 (by decide) (by decide) rr_22_0 ?_
    refine gg_iload_n dX7_foldedSquare_28 1 rfl ?_
    refine gg_callVl (own := RX7) (yt := gm_X0_number) rfl gl_RX7_106 gk_X0_number gr_X0_number dX7_foldedSquare_29 (c_X0_number (d := d - 1) hD ha (by omega)) sh_12 pl_12 (by decide) rfl rfl rfl (Nat.le_of_ble_eq_true rfl) (by show _ ≤ d; omega) ⟨Nat.le_refl _, Nat.le_refl _⟩ (fun e3 μ' hc => ?_)
    obtain ⟨rfl, rfl⟩ := hc
    refine gg_lmul dX7_foldedSquare_32 ?_
    refine gg_callVi (own := RX7) (yt := gm_X0_leaf) rfl gl_RX7_64 gk_X0_leaf gr_X0_leaf dX7_foldedSquare_33 (c_X0_leaf (d := d - 1) (k := 0) (x := ((gHd la).2 * (gHd la).2)) hD hu (gNv_n _) rfl (by omega)) sh_12 pl_12 (by decide) rfl rfl rfl (Nat.le_of_ble_eq_true rfl) (by show _ ≤ d; omega) ⟨Nat.le_refl _, Nat.le_refl _⟩ (fun e4 μ' hc => ?_)
    obtain ⟨I1, J1, rfl, hD1, hf1, hf2, hf3, rfl⟩ := hc
    refine gg_ireti dX7_foldedSquare_36 rfl ⟨rfl, rfl⟩ ?_
    refine ⟨I1, J1, [_], D.length, rfl, by simp, hD1, hf1, hf2, hf3, rfl, ?_⟩
    rw [(show gfSqu la = [(0, (gHd la).2 * (gHd la).2)] by unfold gfSqu; repeat' split; all_goals first | rfl | (exfalso; simp_all; done) | simp_all)]
    simp
  · refine gg_if_eq_t (tgt := 37) dX7_foldedSquare_8 (by decide) (by decide) (by decide) ?_
    refine gg_aload_n dX7_foldedSquare_37 0 rfl ?_
    refine gg_getR (k' := 12) rfl gf_RX7_18 dX7_foldedSquare_38 sh_22 pl_22 (by decide) (by decide) rr_22_0 ?_
    refine gg_bipush dX7_foldedSquare_41 (by decide) ?_
    refine gg_iload_n dX7_foldedSquare_43 1 rfl ?_
    refine gg_iconst dX7_foldedSquare_44 ?_
    refine gg_callVi (own := RX7) (yt := gm_X0_pair) rfl gl_RX7_68 gk_X0_pair gr_X0_pair dX7_foldedSquare_45 (c_X0_pair (d := d - 1) (k := 7) (la := la) (lb := []) hD hu (gNv_z (by omega) (by omega) (by omega)) (Or.inl ⟨by decide, a, rfl, gget_lt ha, ha⟩) (Or.inr ⟨by decide, rfl, rfl⟩) (by decide) (by omega)) sh_12 pl_12 (by decide) rfl rfl rfl (Nat.le_of_ble_eq_true rfl) (by show _ ≤ d; omega) ⟨Nat.le_refl _, Nat.le_refl _⟩ (fun e5 μ' hc => ?_)
    obtain ⟨I1, J1, rfl, hD1, hf1, hf2, hf3, rfl⟩ := hc
    refine gg_ireti dX7_foldedSquare_48 rfl ⟨rfl, rfl⟩ ?_
    refine ⟨I1, J1, [_], D.length, rfl, by simp, hD1, hf1, hf2, hf3, rfl, ?_⟩
    rw [(show gfSqu la = (7, 0) :: la by unfold gfSqu; repeat' split; all_goals first | rfl | (exfalso; simp_all; done) | simp_all)]
    simp

set_option maxRecDepth 10000 in
theorem c_X7_foldedNode {l : Launch} {Γ : gC} {ad : Nat → Nat} {I : Nat → Nat → Int} {J : Nat → Nat → Int64} {d : Nat} {a0 n : Nat} {K : Nat → Nat} {N : Nat → Int64} {Z : Nat → Nat} (hF : gF a0) (hA : gAt I J a0 n K N Z) (hW : gWf n K N Z) {D : List gLn} {i : Nat} (hi : i < n) (hT : gTa I 24 D (gFd n K N Z) (i + 1) n) (hD : gDf I J D) (hu : D.length < 1200) (hd : 6 ≤ d) : gKi l Γ gm_X7_foldedNode d [.ref (gad (gSS ad) 22), .ref (gad (gSS ad) a0), .int (iv (i : Int))] (gSS ad, I, J) (fun e μ => ∃ I1 J1 E r, μ = (gSS ad, I1, J1) ∧ E.length ≤ 1 ∧ gDf I1 J1 (D ++ E) ∧ (∀ p, p ≠ 12 → p ≠ 13 → p ≠ 15 → p ≠ 16 → p ≠ 17 → p ≠ 18 → I1 p = I p) ∧ (∀ q, q ≠ 6 → I1 12 q = I 12 q) ∧ (∀ p, p ≠ 14 → J1 p = J p) ∧ e = ((r : Nat) : Int) ∧ (D ++ E)[r]? = some ((gFd n K N Z) i)) := by
  refine gKi_of gk_X7_foldedNode.1 (Nat.le_of_ble_eq_true rfl) ?_
  show gG l Γ gm_X7_foldedNode (d, 0, 0, 0, 0) 0 [(0, .ref (gad (gSS ad) 22)), (1, .ref (gad (gSS ad) a0)), (2, .int (iv (i : Int)))] [] _ _
  have hv : gNv (K i, N i) := by
    obtain ⟨hK, -, -, -, -, -, -, -, -, -, h1, h5, h0⟩ := hW.2.2 i hi
    exact ⟨hK, h1, h5, h0⟩
  obtain ⟨hK, hZ1, hZ2, he0, he1, he2, he3, hc1, hc2, hc3, hnm, hpw, hz⟩ := hW.2.2 i hi
  have hn := hW.1
  refine gg_aload_n dX7_foldedNode_0 0 rfl ?_
  refine gg_getR (k' := 24) rfl gf_RX7_15 dX7_foldedNode_1 sh_22 pl_22 (by decide) (by decide) rr_22_2 ?_
  refine gg_aload_n dX7_foldedNode_4 1 rfl ?_
  refine gg_iload_n dX7_foldedNode_5 2 rfl ?_
  refine gg_iconst dX7_foldedNode_6 ?_
  refine gg_callSi (own := RX7) (yt := gm_X7_partOf) rfl gl_RX7_39 gk_X7_partOf gr_X7_partOf dX7_foldedNode_7 (c_X7_partOf (d := d - 1) hF hA hW (p := 24) sh_24 pl_24 (V := (gFd n K N Z)) (i := i) (w := 0) hi (by omega) hT (by omega)) rfl rfl (Nat.le_of_ble_eq_true rfl) (by show _ ≤ d; omega) ⟨Nat.le_refl _, Nat.le_refl _⟩ (fun er0 μ' hc => ?_)
  obtain ⟨rfl, r0⟩ := hc
  refine gg_istore_n (ls' := [(3, .int (iv er0)), (0, .ref (gad (gSS ad) 22)), (1, .ref (gad (gSS ad) a0)), (2, .int (iv (i : Int)))]) dX7_foldedNode_10 rfl (by decide) rfl ?_
  refine gg_aload_n dX7_foldedNode_11 1 rfl ?_
  refine gg_getR (k' := 24) rfl gf_RX7_15 dX7_foldedNode_12 sh_22 pl_22 (by decide) (by decide) rr_22_2 ?_
  refine gg_aload_n dX7_foldedNode_15 2 rfl ?_
  refine gg_iload_n dX7_foldedNode_16 3 rfl ?_
  refine gg_iconst dX7_foldedNode_17 ?_
  refine gg_callSi (own := RX7) (yt := gm_X7_partOf) rfl gl_RX7_39 gk_X7_partOf gr_X7_partOf dX7_foldedNode_18 (c_X7_partOf (d := d - 1) hF hA hW (p := 24) sh_24 pl_24 (V := (gFd n K N Z)) (i := i) (w := 1) hi (by omega) hT (by omega)) rfl rfl (Nat.le_of_ble_eq_true rfl) (by show _ ≤ d; omega) ⟨Nat.le_refl _, Nat.le_refl _⟩ (fun er1 μ' hc => ?_)
  obtain ⟨rfl, r1⟩ := hc
  refine gg_istore (ls' := [(4, .int (iv er1)), (3, .int (iv er0)), (0, .ref (gad (gSS ad) 22)), (1, .ref (gad (gSS ad) a0)), (2, .int (iv (i : Int)))]) dX7_foldedNode_21 (by decide) rfl ?_
  refine gg_aload_n dX7_foldedNode_23 3 rfl ?_
  refine gg_iload_n dX7_foldedNode_24 4 rfl ?_
  refine gg_callVi (own := RX7) (yt := gm_X1_kind) rfl gl_RX7_32 gk_X1_kind gr_X1_kind dX7_foldedNode_25 (c_X1_kind (d := d - 1) hF hA hW.1 (j := i) hi (by omega)) (gFsh hF) (gFlt hF) (by decide) rfl rfl rfl (Nat.le_of_ble_eq_true rfl) (by show _ ≤ d; omega) ⟨Nat.le_refl _, Nat.le_refl _⟩ (fun e1 μ' hc => ?_)
  obtain ⟨rfl, rfl⟩ := hc
  obtain hk | hk | hk | hk | hk | hk | hk | hk := (by omega : K i = 0 ∨ K i = 1 ∨ K i = 2 ∨ K i = 3 ∨ K i = 4 ∨ K i = 5 ∨ K i = 6 ∨ K i = 7)
  · refine gg_toI (b := 0) (by omega) ?_
    refine gg_tsw_out (tgt := 125) dX7_foldedNode_28 (by decide) (by decide) (by decide) ?_
    refine gg_aload_n dX7_foldedNode_125 2 rfl ?_
    refine gg_getR (k' := 12) rfl gf_RX7_18 dX7_foldedNode_126 sh_22 pl_22 (by decide) (by decide) rr_22_0 ?_
    refine gg_aload_n dX7_foldedNode_129 3 rfl ?_
    refine gg_iload_n dX7_foldedNode_130 4 rfl ?_
    refine gg_callVi (own := RX7) (yt := gm_X1_kind) rfl gl_RX7_32 gk_X1_kind gr_X1_kind dX7_foldedNode_131 (c_X1_kind (d := d - 1) hF hA hW.1 (j := i) hi (by omega)) (gFsh hF) (gFlt hF) (by decide) rfl rfl rfl (Nat.le_of_ble_eq_true rfl) (by show _ ≤ d; omega) ⟨Nat.le_refl _, Nat.le_refl _⟩ (fun e2 μ' hc => ?_)
    obtain ⟨rfl, rfl⟩ := hc
    refine gg_toI (b := 0) (by omega) ?_
    refine gg_aload_n dX7_foldedNode_134 3 rfl ?_
    refine gg_iload_n dX7_foldedNode_135 4 rfl ?_
    refine gg_callVl (own := RX7) (yt := gm_X1_number) rfl gl_RX7_35 gk_X1_number gr_X1_number dX7_foldedNode_136 (c_X1_number (d := d - 1) hF hA hW.1 (j := i) hi (by omega)) (gFsh hF) (gFlt hF) (by decide) rfl rfl rfl (Nat.le_of_ble_eq_true rfl) (by show _ ≤ d; omega) ⟨Nat.le_refl _, Nat.le_refl _⟩ (fun e3 μ' hc => ?_)
    obtain ⟨rfl, rfl⟩ := hc
    refine gg_callVi (own := RX7) (yt := gm_X0_leaf) rfl gl_RX7_64 gk_X0_leaf gr_X0_leaf dX7_foldedNode_139 (c_X0_leaf (d := d - 1) (k := 0) (x := N i) hD hu (by rw [← hk]; exact hv) (by decide) (by omega)) sh_12 pl_12 (by decide) rfl rfl rfl (Nat.le_of_ble_eq_true rfl) (by show _ ≤ d; omega) ⟨Nat.le_refl _, Nat.le_refl _⟩ (fun e4 μ' hc => ?_)
    obtain ⟨I1, J1, rfl, hD1, hf1, hf2, hf3, rfl⟩ := hc
    refine gg_ireti dX7_foldedNode_142 rfl ⟨rfl, rfl⟩ ?_
    refine ⟨I1, J1, [_], D.length, rfl, by simp, hD1, hf1, hf2, hf3, rfl, ?_⟩
    rw [gFd_is n K N Z i hi]
    unfold gfF
    rw [hk]
    simp
  · refine gg_toI (b := 1) (by omega) ?_
    refine gg_tsw_out (tgt := 125) dX7_foldedNode_28 (by decide) (by decide) (by decide) ?_
    refine gg_aload_n dX7_foldedNode_125 2 rfl ?_
    refine gg_getR (k' := 12) rfl gf_RX7_18 dX7_foldedNode_126 sh_22 pl_22 (by decide) (by decide) rr_22_0 ?_
    refine gg_aload_n dX7_foldedNode_129 3 rfl ?_
    refine gg_iload_n dX7_foldedNode_130 4 rfl ?_
    refine gg_callVi (own := RX7) (yt := gm_X1_kind) rfl gl_RX7_32 gk_X1_kind gr_X1_kind dX7_foldedNode_131 (c_X1_kind (d := d - 1) hF hA hW.1 (j := i) hi (by omega)) (gFsh hF) (gFlt hF) (by decide) rfl rfl rfl (Nat.le_of_ble_eq_true rfl) (by show _ ≤ d; omega) ⟨Nat.le_refl _, Nat.le_refl _⟩ (fun e5 μ' hc => ?_)
    obtain ⟨rfl, rfl⟩ := hc
    refine gg_toI (b := 1) (by omega) ?_
    refine gg_aload_n dX7_foldedNode_134 3 rfl ?_
    refine gg_iload_n dX7_foldedNode_135 4 rfl ?_
    refine gg_callVl (own := RX7) (yt := gm_X1_number) rfl gl_RX7_35 gk_X1_number gr_X1_number dX7_foldedNode_136 (c_X1_number (d := d - 1) hF hA hW.1 (j := i) hi (by omega)) (gFsh hF) (gFlt hF) (by decide) rfl rfl rfl (Nat.le_of_ble_eq_true rfl) (by show _ ≤ d; omega) ⟨Nat.le_refl _, Nat.le_refl _⟩ (fun e6 μ' hc => ?_)
    obtain ⟨rfl, rfl⟩ := hc
    refine gg_callVi (own := RX7) (yt := gm_X0_leaf) rfl gl_RX7_64 gk_X0_leaf gr_X0_leaf dX7_foldedNode_139 (c_X0_leaf (d := d - 1) (k := 1) (x := N i) hD hu (by rw [← hk]; exact hv) (by decide) (by omega)) sh_12 pl_12 (by decide) rfl rfl rfl (Nat.le_of_ble_eq_true rfl) (by show _ ≤ d; omega) ⟨Nat.le_refl _, Nat.le_refl _⟩ (fun e7 μ' hc => ?_)
    obtain ⟨I1, J1, rfl, hD1, hf1, hf2, hf3, rfl⟩ := hc
    refine gg_ireti dX7_foldedNode_142 rfl ⟨rfl, rfl⟩ ?_
    refine ⟨I1, J1, [_], D.length, rfl, by simp, hD1, hf1, hf2, hf3, rfl, ?_⟩
    rw [gFd_is n K N Z i hi]
    unfold gfF
    rw [hk]
    simp
  · refine gg_toI (b := 2) (by omega) ?_
    refine gg_tsw (off := 40) (tgt := 68) dX7_foldedNode_28 (by decide) (by decide) rfl (by decide) ?_
    obtain ⟨a, rfl, ha⟩ : ∃ a : Nat, er0 = (a : Int) ∧ D[a]? = some ((gFd n K N Z) (i + 1)) := by
      rcases r0 with ⟨hw, j, h1, -, h2⟩ | ⟨hw, -⟩
      · exact ⟨j, h1, by rw [h2]; unfold gVp; rw [if_pos hw]; rfl⟩
      · exact absurd (show 0 < gPar (K i) by rw [hk]; decide) hw
    refine gg_aload_n dX7_foldedNode_68 2 rfl ?_
    refine gg_iload_n dX7_foldedNode_69 1 rfl ?_
    refine gg_callVi (own := RX7) (yt := gm_X7_foldedNegated) rfl gl_RX7_84 gk_X7_foldedNegated gr_X7_foldedNegated dX7_foldedNode_70 (c_X7_foldedNegated (d := d - 1) hD hu ha (by omega)) sh_22 pl_22 (by decide) rfl rfl rfl (Nat.le_of_ble_eq_true rfl) (by show _ ≤ d; omega) ⟨Nat.le_refl _, Nat.le_refl _⟩ (fun e8 μ' hc => ?_)
    obtain ⟨I1, J1, E, r, rfl, hE, hD1, hf1, hf2, hf3, rfl, hr⟩ := hc
    refine gg_ireti dX7_foldedNode_73 rfl ⟨rfl, rfl⟩ ?_
    refine ⟨I1, J1, E, r, rfl, hE, hD1, hf1, hf2, hf3, rfl, ?_⟩
    rw [hr, gFd_is n K N Z i hi]
    unfold gfF
    rw [hk]
    exact rfl
  · refine gg_toI (b := 3) (by omega) ?_
    refine gg_tsw (off := 46) (tgt := 74) dX7_foldedNode_28 (by decide) (by decide) rfl (by decide) ?_
    obtain ⟨a, rfl, ha⟩ : ∃ a : Nat, er0 = (a : Int) ∧ D[a]? = some ((gFd n K N Z) (i + 1)) := by
      rcases r0 with ⟨hw, j, h1, -, h2⟩ | ⟨hw, -⟩
      · exact ⟨j, h1, by rw [h2]; unfold gVp; rw [if_pos hw]; rfl⟩
      · exact absurd (show 0 < gPar (K i) by rw [hk]; decide) hw
    obtain ⟨b, rfl, hb⟩ : ∃ b : Nat, er1 = (b : Int) ∧ D[b]? = some ((gFd n K N Z) (gPt Z i 1)) := by
      rcases r1 with ⟨hw, j, h1, -, h2⟩ | ⟨hw, -⟩
      · exact ⟨j, h1, by rw [h2]; unfold gVp; rw [if_pos hw]⟩
      · exact absurd (show 1 < gPar (K i) by rw [hk]; decide) hw
    refine gg_aload_n dX7_foldedNode_74 2 rfl ?_
    refine gg_iload_n dX7_foldedNode_75 1 rfl ?_
    refine gg_iload dX7_foldedNode_76 0 rfl ?_
    refine gg_callVi (own := RX7) (yt := gm_X7_foldedSum) rfl gl_RX7_87 gk_X7_foldedSum gr_X7_foldedSum dX7_foldedNode_78 (c_X7_foldedSum (d := d - 1) hD hu ha hb (by omega)) sh_22 pl_22 (by decide) rfl rfl rfl (Nat.le_of_ble_eq_true rfl) (by show _ ≤ d; omega) ⟨Nat.le_refl _, Nat.le_refl _⟩ (fun e9 μ' hc => ?_)
    obtain ⟨I1, J1, E, r, rfl, hE, hD1, hf1, hf2, hf3, rfl, hr⟩ := hc
    refine gg_ireti dX7_foldedNode_81 rfl ⟨rfl, rfl⟩ ?_
    refine ⟨I1, J1, E, r, rfl, hE, hD1, hf1, hf2, hf3, rfl, ?_⟩
    rw [hr, gFd_is n K N Z i hi]
    unfold gfF
    rw [hk]
    exact rfl
  · refine gg_toI (b := 4) (by omega) ?_
    refine gg_tsw (off := 54) (tgt := 82) dX7_foldedNode_28 (by decide) (by decide) rfl (by decide) ?_
    obtain ⟨a, rfl, ha⟩ : ∃ a : Nat, er0 = (a : Int) ∧ D[a]? = some ((gFd n K N Z) (i + 1)) := by
      rcases r0 with ⟨hw, j, h1, -, h2⟩ | ⟨hw, -⟩
      · exact ⟨j, h1, by rw [h2]; unfold gVp; rw [if_pos hw]; rfl⟩
      · exact absurd (show 0 < gPar (K i) by rw [hk]; decide) hw
    obtain ⟨b, rfl, hb⟩ : ∃ b : Nat, er1 = (b : Int) ∧ D[b]? = some ((gFd n K N Z) (gPt Z i 1)) := by
      rcases r1 with ⟨hw, j, h1, -, h2⟩ | ⟨hw, -⟩
      · exact ⟨j, h1, by rw [h2]; unfold gVp; rw [if_pos hw]⟩
      · exact absurd (show 1 < gPar (K i) by rw [hk]; decide) hw
    refine gg_aload_n dX7_foldedNode_82 2 rfl ?_
    refine gg_iload_n dX7_foldedNode_83 1 rfl ?_
    refine gg_iload dX7_foldedNode_84 0 rfl ?_
    refine gg_callVi (own := RX7) (yt := gm_X7_foldedProduct) rfl gl_RX7_90 gk_X7_foldedProduct gr_X7_foldedProduct dX7_foldedNode_86 (c_X7_foldedProduct (d := d - 1) hD hu ha hb (by omega)) sh_22 pl_22 (by decide) rfl rfl rfl (Nat.le_of_ble_eq_true rfl) (by show _ ≤ d; omega) ⟨Nat.le_refl _, Nat.le_refl _⟩ (fun e10 μ' hc => ?_)
    obtain ⟨I1, J1, E, r, rfl, hE, hD1, hf1, hf2, hf3, rfl, hr⟩ := hc
    refine gg_ireti dX7_foldedNode_89 rfl ⟨rfl, rfl⟩ ?_
    refine ⟨I1, J1, E, r, rfl, hE, hD1, hf1, hf2, hf3, rfl, ?_⟩
    rw [hr, gFd_is n K N Z i hi]
    unfold gfF
    rw [hk]
    exact rfl
  · refine gg_toI (b := 5) (by omega) ?_
    refine gg_tsw (off := 62) (tgt := 90) dX7_foldedNode_28 (by decide) (by decide) rfl (by decide) ?_
    obtain ⟨a, rfl, ha⟩ : ∃ a : Nat, er0 = (a : Int) ∧ D[a]? = some ((gFd n K N Z) (i + 1)) := by
      rcases r0 with ⟨hw, j, h1, -, h2⟩ | ⟨hw, -⟩
      · exact ⟨j, h1, by rw [h2]; unfold gVp; rw [if_pos hw]; rfl⟩
      · exact absurd (show 0 < gPar (K i) by rw [hk]; decide) hw
    obtain ⟨m0, hm0, hNm⟩ := hpw hk
    refine gg_aload_n dX7_foldedNode_90 2 rfl ?_
    refine gg_iload_n dX7_foldedNode_91 1 rfl ?_
    refine gg_aload_n dX7_foldedNode_92 3 rfl ?_
    refine gg_iload_n dX7_foldedNode_93 4 rfl ?_
    refine gg_callVl (own := RX7) (yt := gm_X1_number) rfl gl_RX7_35 gk_X1_number gr_X1_number dX7_foldedNode_94 (c_X1_number (d := d - 1) hF hA hW.1 (j := i) hi (by omega)) (gFsh hF) (gFlt hF) (by decide) rfl rfl rfl (Nat.le_of_ble_eq_true rfl) (by show _ ≤ d; omega) ⟨Nat.le_refl _, Nat.le_refl _⟩ (fun e11 μ' hc => ?_)
    obtain ⟨rfl, rfl⟩ := hc
    refine gg_toL (b := Int64.ofNat m0) hNm ?_
    refine gg_callVi (own := RX7) (yt := gm_X7_foldedPower) rfl gl_RX7_93 gk_X7_foldedPower gr_X7_foldedPower dX7_foldedNode_97 (c_X7_foldedPower (d := d - 1) hD hu ha hm0 (by omega)) sh_22 pl_22 (by decide) rfl rfl rfl (Nat.le_of_ble_eq_true rfl) (by show _ ≤ d; omega) ⟨Nat.le_refl _, Nat.le_refl _⟩ (fun e12 μ' hc => ?_)
    obtain ⟨I1, J1, E, r, rfl, hE, hD1, hf1, hf2, hf3, rfl, hr⟩ := hc
    refine gg_ireti dX7_foldedNode_100 rfl ⟨rfl, rfl⟩ ?_
    refine ⟨I1, J1, E, r, rfl, hE, hD1, hf1, hf2, hf3, rfl, ?_⟩
    rw [hr, gFd_is n K N Z i hi]
    unfold gfF
    rw [hk, hNm]
    exact rfl
  · refine gg_toI (b := 6) (by omega) ?_
    refine gg_tsw (off := 73) (tgt := 101) dX7_foldedNode_28 (by decide) (by decide) rfl (by decide) ?_
    obtain ⟨a, rfl, ha⟩ : ∃ a : Nat, er0 = (a : Int) ∧ D[a]? = some ((gFd n K N Z) (i + 1)) := by
      rcases r0 with ⟨hw, j, h1, -, h2⟩ | ⟨hw, -⟩
      · exact ⟨j, h1, by rw [h2]; unfold gVp; rw [if_pos hw]; rfl⟩
      · exact absurd (show 0 < gPar (K i) by rw [hk]; decide) hw
    obtain ⟨b, rfl, hb⟩ : ∃ b : Nat, er1 = (b : Int) ∧ D[b]? = some ((gFd n K N Z) (gPt Z i 1)) := by
      rcases r1 with ⟨hw, j, h1, -, h2⟩ | ⟨hw, -⟩
      · exact ⟨j, h1, by rw [h2]; unfold gVp; rw [if_pos hw]⟩
      · exact absurd (show 1 < gPar (K i) by rw [hk]; decide) hw
    refine gg_aload_n dX7_foldedNode_101 2 rfl ?_
    refine gg_iload_n dX7_foldedNode_102 1 rfl ?_
    refine gg_iload dX7_foldedNode_103 0 rfl ?_
    refine gg_aload_n dX7_foldedNode_105 2 rfl ?_
    refine gg_getR (k' := 24) rfl gf_RX7_15 dX7_foldedNode_106 sh_22 pl_22 (by decide) (by decide) rr_22_2 ?_
    refine gg_aload_n dX7_foldedNode_109 3 rfl ?_
    refine gg_iload_n dX7_foldedNode_110 4 rfl ?_
    refine gg_iconst dX7_foldedNode_111 ?_
    refine gg_callSi (own := RX7) (yt := gm_X7_partOf) rfl gl_RX7_39 gk_X7_partOf gr_X7_partOf dX7_foldedNode_112 (c_X7_partOf (d := d - 1) hF hA hW (p := 24) sh_24 pl_24 (V := (gFd n K N Z)) (i := i) (w := 2) hi (by omega) hT (by omega)) rfl rfl (Nat.le_of_ble_eq_true rfl) (by show _ ≤ d; omega) ⟨Nat.le_refl _, Nat.le_refl _⟩ (fun er2 μ' hc => ?_)
    obtain ⟨rfl, r2⟩ := hc
    obtain ⟨c, rfl, hc⟩ : ∃ c : Nat, er2 = (c : Int) ∧ D[c]? = some ((gFd n K N Z) (gPt Z i 2)) := by
      rcases r2 with ⟨hw, j, h1, -, h2⟩ | ⟨hw, -⟩
      · exact ⟨j, h1, by rw [h2]; unfold gVp; rw [if_pos hw]⟩
      · exact absurd (show 2 < gPar (K i) by rw [hk]; decide) hw
    refine gg_callVi (own := RX7) (yt := gm_X7_foldedPick) rfl gl_RX7_96 gk_X7_foldedPick gr_X7_foldedPick dX7_foldedNode_115 (c_X7_foldedPick (d := d - 1) hD hu ha hb hc (by omega)) sh_22 pl_22 (by decide) rfl rfl rfl (Nat.le_of_ble_eq_true rfl) (by show _ ≤ d; omega) ⟨Nat.le_refl _, Nat.le_refl _⟩ (fun e13 μ' hc => ?_)
    obtain ⟨I1, J1, E, r, rfl, hE, hD1, hf1, hf2, hf3, rfl, hr⟩ := hc
    refine gg_ireti dX7_foldedNode_118 rfl ⟨rfl, rfl⟩ ?_
    refine ⟨I1, J1, E, r, rfl, hE, hD1, hf1, hf2, hf3, rfl, ?_⟩
    rw [hr, gFd_is n K N Z i hi]
    unfold gfF
    rw [hk]
    exact rfl
  · refine gg_toI (b := 7) (by omega) ?_
    refine gg_tsw (off := 91) (tgt := 119) dX7_foldedNode_28 (by decide) (by decide) rfl (by decide) ?_
    obtain ⟨a, rfl, ha⟩ : ∃ a : Nat, er0 = (a : Int) ∧ D[a]? = some ((gFd n K N Z) (i + 1)) := by
      rcases r0 with ⟨hw, j, h1, -, h2⟩ | ⟨hw, -⟩
      · exact ⟨j, h1, by rw [h2]; unfold gVp; rw [if_pos hw]; rfl⟩
      · exact absurd (show 0 < gPar (K i) by rw [hk]; decide) hw
    refine gg_aload_n dX7_foldedNode_119 2 rfl ?_
    refine gg_iload_n dX7_foldedNode_120 1 rfl ?_
    refine gg_callVi (own := RX7) (yt := gm_X7_foldedSquare) rfl gl_RX7_99 gk_X7_foldedSquare gr_X7_foldedSquare dX7_foldedNode_121 (c_X7_foldedSquare (d := d - 1) hD hu ha (by omega)) sh_22 pl_22 (by decide) rfl rfl rfl (Nat.le_of_ble_eq_true rfl) (by show _ ≤ d; omega) ⟨Nat.le_refl _, Nat.le_refl _⟩ (fun e14 μ' hc => ?_)
    obtain ⟨I1, J1, E, r, rfl, hE, hD1, hf1, hf2, hf3, rfl, hr⟩ := hc
    refine gg_ireti dX7_foldedNode_124 rfl ⟨rfl, rfl⟩ ?_
    refine ⟨I1, J1, E, r, rfl, hE, hD1, hf1, hf2, hf3, rfl, ?_⟩
    rw [hr, gFd_is n K N Z i hi]
    unfold gfF
    rw [hk]
    exact rfl

theorem gAt_T {I I' : Nat → Nat → Int} {J J' : Nat → Nat → Int64} {a n : Nat} {K : Nat → Nat} {N : Nat → Int64} {Z : Nat → Nat} (hF : gF a) (h : gAt I J a n K N Z) (hI : ∀ p, p < 12 ∨ (20 ≤ p ∧ p ≤ 21) ∨ 25 ≤ p → I' p = I p) (hJ : ∀ p, p ≠ 14 → J' p = J p) : gAt I' J' a n K N Z := by
  have hr := gF_rng hF
  exact gAt_same h (hI _ (by omega)) (hI _ (by omega)) (hJ _ (by omega)) (hI _ (by omega))
set_option maxRecDepth 10000 in
theorem w_X7_folded {l : Launch} {Γ : gC} {ad : Nat → Nat} {I0 : Nat → Nat → Int} {J0 : Nat → Nat → Int64} {d : Nat} {a n : Nat} {K : Nat → Nat} {N : Nat → Int64} {Z : Nat → Nat} (hF : gF a) (hA : gAt I0 J0 a n K N Z) (hW : gWf n K N Z) (hn0 : 0 < n) (hd : 7 ≤ d) : ∀ (m : Nat) (k : Nat) (D : List gLn) (I : Nat → Nat → Int) (J : Nat → Nat → Int64), k < m → (k ≤ n) → (gDf I J D) → (D.length + k ≤ n) → (gTa I 24 D (gFd n K N Z) k n) → (∀ p, p < 12 ∨ (20 ≤ p ∧ p ≤ 21) ∨ 25 ≤ p → I p = I0 p) → (∀ q, q ≠ 6 → I 12 q = I0 12 q) → (∀ p, p ≠ 14 → J p = J0 p) → gG l Γ gm_X7_folded (d, 0, 0, 0, 0) 14 [(2, .int (iv ((k : Int) - 1))), (0, .ref (gad (gSS ad) 22)), (1, .ref (gad (gSS ad) a))] [] (gSS ad, I, J) (gDi (fun e μ => ∃ I1 J1 D r, μ = (gSS ad, I1, J1) ∧ gDf I1 J1 D ∧ (∀ p, p < 12 ∨ (20 ≤ p ∧ p ≤ 21) ∨ 25 ≤ p → I1 p = I0 p) ∧ (∀ q, q ≠ 6 → I1 12 q = I0 12 q) ∧ (∀ p, p ≠ 14 → J1 p = J0 p) ∧ e = ((r : Nat) : Int) ∧ D[r]? = some ((gFd n K N Z) 0))) := by
  intro m
  induction m with
  | zero => intros; omega
  | succ m ih =>
    intro k D I J hm hk hD hDl hT f1 f2 f3
    have hn := hW.1
    refine gg_iload_n dX7_folded_14 0 rfl ?_
    refine gg_if_lt (tgt := 36) dX7_folded_15 (by decide) (by omega) (fun hb => ?_) (fun hb => ?_)
    · have hk0 : k = 0 := by omega
      subst hk0
      obtain ⟨r, hr, hDr⟩ := hT 0 (Nat.le_refl _) hn0
      refine gg_aload_n dX7_folded_36 1 rfl ?_
      refine gg_getR (k' := 24) rfl gf_RX7_15 dX7_folded_37 sh_22 pl_22 (by decide) (by decide) rr_22_2 ?_
      refine gg_iconst dX7_folded_40 ?_
      refine gg_ialdj 0 dX7_folded_41 sh_24 pl_24 (by decide) rfl (by omega) ?_
      refine gg_toI (b := (r : Int)) hr ?_
      refine gg_ireti dX7_folded_42 rfl ⟨rfl, rfl⟩ ?_
      exact ⟨I, J, D, r, rfl, hD, f1, f2, f3, rfl, hDr⟩
    · obtain ⟨j, rfl⟩ : ∃ j : Nat, k = j + 1 := ⟨k - 1, by omega⟩
      rw [show (((j + 1 : Nat) : Int) - 1) = (j : Int) by omega]
      refine gg_aload_n dX7_folded_18 1 rfl ?_
      refine gg_getR (k' := 24) rfl gf_RX7_15 dX7_folded_19 sh_22 pl_22 (by decide) (by decide) rr_22_2 ?_
      refine gg_iload_n dX7_folded_22 0 rfl ?_
      refine gg_aload_n dX7_folded_23 1 rfl ?_
      refine gg_aload_n dX7_folded_24 2 rfl ?_
      refine gg_iload_n dX7_folded_25 0 rfl ?_
      refine gg_callVi (own := RX7) (yt := gm_X7_foldedNode) rfl gl_RX7_80 gk_X7_foldedNode gr_X7_foldedNode dX7_folded_26 (c_X7_foldedNode (d := d - 1) hF (gAt_T hF hA f1 f3) hW (i := j) (by omega) hT hD (by omega) (by omega)) sh_22 pl_22 (by decide) rfl rfl rfl (Nat.le_of_ble_eq_true rfl) (by show _ ≤ d; omega) ⟨Nat.le_refl _, Nat.le_refl _⟩ (fun e1 μ' hc => ?_)
      obtain ⟨I1, J1, E, r, rfl, hE, hD1, g1, g2, g3, rfl, hr⟩ := hc
      refine gg_iastj j dX7_folded_29 sh_24 pl_24 (by decide) rfl (by omega) ?_
      refine gg_memI (fun I2 hI2 => ?_)
      refine gg_iincv (ls' := [(2, .int (iv ((j : Int) - 1))), (0, .ref (gad (gSS ad) 22)), (1, .ref (gad (gSS ad) a))]) dX7_folded_30 0 rfl (by omega) (by decide) rfl ?_
      refine gg_goto (tgt := 14) dX7_folded_33 (by decide) ?_
      have g24 : I1 24 = I 24 := g1 24 (by omega) (by omega) (by omega) (by omega) (by omega) (by omega)
      refine ih j (D ++ E) I2 J1 (by omega) (by omega) (gDf_W hD1 (fun p h => by rw [hI2, gu_other (by omega)]) (by rw [hI2, gu_other (by omega)]) rfl) (by rw [List.length_append]; omega) (fun t h1 h2 => ?_) (fun p h => by rw [hI2, gu_other (by omega), g1 p (by omega) (by omega) (by omega) (by omega) (by omega) (by omega)]; exact f1 p h) (fun q h => by rw [hI2, gu_other (by omega), g2 q h]; exact f2 q h) (fun p h => by rw [g3 p h]; exact f3 p h)
      by_cases htj : t = j
      · subst htj
        exact ⟨r, by rw [hI2, gu_s], hr⟩
      · obtain ⟨i, e1, e2⟩ := hT t (by omega) h2
        exact ⟨i, by rw [hI2, gu_n (by omega), g24]; exact e1, gget_app e2⟩

theorem gDf_0 {I : Nat → Nat → Int} {J : Nat → Nat → Int64} (h : I 12 6 = 0) : gDf I J [] := ⟨h, by decide, fun t l ht => by simp at ht⟩
set_option maxRecDepth 10000 in
theorem c_X0_clear {l : Launch} {Γ : gC} {ad : Nat → Nat} {I : Nat → Nat → Int} {J : Nat → Nat → Int64} {d : Nat}  : gKv l Γ gm_X0_clear d [.ref (gad (gSS ad) 12)] (gSS ad, I, J) (fun μ => μ = (gSS ad, gu I 12 6 0, J)) := by
  refine gKv_of gk_X0_clear.1 (Nat.le_of_ble_eq_true rfl) ?_
  show gG l Γ gm_X0_clear (d, 0, 0, 0, 0) 0 [(0, .ref (gad (gSS ad) 12))] [] _ _
  refine gg_aload_n dX0_clear_0 0 rfl ?_
  refine gg_iconst dX0_clear_1 ?_
  refine gg_putI rfl gf_RX0_34 dX0_clear_2 sh_12 pl_12 (by decide) (by decide) (by decide) (gfit_i _) ?_
  refine gg_vretv dX0_clear_5 rfl ⟨rfl, rfl⟩ ?_
  exact rfl

set_option maxRecDepth 10000 in
theorem c_X7_folded {l : Launch} {Γ : gC} {ad : Nat → Nat} {I : Nat → Nat → Int} {J : Nat → Nat → Int64} {d : Nat} {a n : Nat} {K : Nat → Nat} {N : Nat → Int64} {Z : Nat → Nat} (hF : gF a) (hA : gAt I J a n K N Z) (hW : gWf n K N Z) (hn0 : 0 < n) (hd : 7 ≤ d) : gKi l Γ gm_X7_folded d [.ref (gad (gSS ad) 22), .ref (gad (gSS ad) a)] (gSS ad, I, J) (fun e μ => ∃ I1 J1 D r, μ = (gSS ad, I1, J1) ∧ gDf I1 J1 D ∧ (∀ p, p < 12 ∨ (20 ≤ p ∧ p ≤ 21) ∨ 25 ≤ p → I1 p = I p) ∧ (∀ q, q ≠ 6 → I1 12 q = I 12 q) ∧ (∀ p, p ≠ 14 → J1 p = J p) ∧ e = ((r : Nat) : Int) ∧ D[r]? = some ((gFd n K N Z) 0)) := by
  refine gKi_of gk_X7_folded.1 (Nat.le_of_ble_eq_true rfl) ?_
  show gG l Γ gm_X7_folded (d, 0, 0, 0, 0) 0 [(0, .ref (gad (gSS ad) 22)), (1, .ref (gad (gSS ad) a))] [] _ _
  refine gg_aload_n dX7_folded_0 0 rfl ?_
  refine gg_getR (k' := 12) rfl gf_RX7_18 dX7_folded_1 sh_22 pl_22 (by decide) (by decide) rr_22_0 ?_
  refine gg_callVv (own := RX7) (yt := gm_X0_clear) rfl gl_RX7_49 gk_X0_clear gr_X0_clear dX7_folded_4 (c_X0_clear (d := d - 1)) sh_12 pl_12 (by decide) rfl rfl rfl (Nat.le_of_ble_eq_true rfl) (by show _ ≤ d; omega) ⟨Nat.le_refl _, Nat.le_refl _⟩ (fun μ' hc => ?_)
  obtain rfl := hc
  refine gg_aload_n dX7_folded_7 1 rfl ?_
  refine gg_callVi (own := RX7) (yt := gm_X1_size) rfl gl_RX7_52 gk_X1_size gr_X1_size dX7_folded_8 (c_X1_size (d := d - 1) hF (gAt_T hF hA (fun p h => gu_other (by omega)) (fun _ _ => rfl))) (gFsh hF) (gFlt hF) (by decide) rfl rfl rfl (Nat.le_of_ble_eq_true rfl) (by show _ ≤ d; omega) ⟨Nat.le_refl _, Nat.le_refl _⟩ (fun e2 μ' hc => ?_)
  obtain ⟨rfl, rfl⟩ := hc
  refine gg_iconst dX7_folded_11 ?_
  refine gg_isub dX7_folded_12 ?_
  refine gg_istore_n (ls' := [(2, .int (iv ((n : Int) - 1))), (0, .ref (gad (gSS ad) 22)), (1, .ref (gad (gSS ad) a))]) dX7_folded_13 rfl (by decide) rfl ?_
  refine gg_sub [0, 1, 2] rfl ?_
  refine gG_post (w_X7_folded hF (gAt_T hF hA (fun p h => gu_other (by omega)) (fun _ _ => rfl)) hW hn0 hd (n + 1) n [] (gu I 12 6 0) J (by omega) (by omega) (gDf_0 gu_s) (by simp) (fun t h1 h2 => by omega) (fun _ _ => rfl) (fun _ _ => rfl) (fun _ _ => rfl)) (fun r μ h => ?_)
  obtain ⟨e, rfl, I1, J1, D, r, rfl, h1, h2, h3, h4, rfl, h5⟩ := h
  exact ⟨_, rfl, I1, J1, D, r, rfl, h1, fun p a => (h2 p a).trans (gu_other (by omega)), fun q a => (h3 q a).trans (gu_n (by omega)), h4, rfl, h5⟩

