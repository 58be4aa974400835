/-! the draft: what its trees are, as lists of nodes -/
def gDrf (D : List gLn) (u : Nat) (p : Prop) (a : Int) (la : gLn) : Prop := (p ∧ ∃ i : Nat, a = (i : Int) ∧ i < u ∧ D[i]? = some la) ∨ (¬ p ∧ a = -1 ∧ la = [])
def gDn (I : Nat → Nat → Int) (J : Nat → Nat → Int64) (D : List gLn) (t : Nat) (l : gLn) : Prop := ∃ (k : Nat) (x : Int64) (la lb lc : gLn), I 13 t = (k : Int) ∧ J 14 t = x ∧ I 18 t = ((min 1000000 l.length : Nat) : Int) ∧ gDrf D t (1 ≤ gPar k) (I 15 t) la ∧ gDrf D t (2 ≤ gPar k) (I 16 t) lb ∧ gDrf D t (3 ≤ gPar k) (I 17 t) lc ∧ l = (k, x) :: (la ++ (lb ++ lc)) ∧ gFo l 1 ∧ gNvs l
def gDf (I : Nat → Nat → Int) (J : Nat → Nat → Int64) (D : List gLn) : Prop := I 12 6 = (D.length : Int) ∧ D.length ≤ 1200 ∧ ∀ (t : Nat) (l : gLn), D[t]? = some l → gDn I J D t l
theorem gget_lt {α : Type} {D : List α} {t : Nat} {l : α} (h : D[t]? = some l) : t < D.length := (List.getElem?_eq_some_iff.mp h).1
theorem gget_app {α : Type} {D E : List α} {t : Nat} {l : α} (h : D[t]? = some l) : (D ++ E)[t]? = some l := by rw [List.getElem?_append_left (gget_lt h)]; exact h
theorem gRf_app {D E : List gLn} {u : Nat} {p : Prop} {a : Int} {la : gLn} (h : gDrf D u p a la) : gDrf (D ++ E) u p a la := by
  rcases h with ⟨hp, i, h1, h2, h3⟩ | h
  · exact Or.inl ⟨hp, i, h1, h2, gget_app h3⟩
  · exact Or.inr h
theorem gRf_le {D : List gLn} {u u' : Nat} {p : Prop} {a : Int} {la : gLn} (h : gDrf D u p a la) (hu : u ≤ u') : gDrf D u' p a la := by
  rcases h with ⟨hp, i, h1, h2, h3⟩ | h
  · exact Or.inl ⟨hp, i, h1, by omega, h3⟩
  · exact Or.inr h
theorem gRf_iff {D : List gLn} {u : Nat} {p p' : Prop} {a : Int} {la : gLn} (h : gDrf D u p a la) (hp : p ↔ p') : gDrf D u p' a la := by
  rcases h with ⟨h0, h⟩ | ⟨h0, h⟩
  · exact Or.inl ⟨hp.mp h0, h⟩
  · exact Or.inr ⟨fun h => h0 (hp.mpr h), h⟩
theorem gRf_sz {I : Nat → Nat → Int} {J : Nat → Nat → Int64} {D : List gLn} {u : Nat} {p : Prop} {a : Int} {la : gLn} (hD : gDf I J D) (h : gDrf D u p a la) : (a = -1 ∧ min 1000000 la.length = 0) ∨ ∃ i : Nat, a = (i : Int) ∧ i < u ∧ I 18 i = ((min 1000000 la.length : Nat) : Int) := by
  rcases h with ⟨hp, i, h1, h2, h3⟩ | ⟨-, h1, h2⟩
  · obtain ⟨k, x, ra, rb, rc, -, -, e, -⟩ := hD.2.2 i la h3
    exact Or.inr ⟨i, h1, h2, e⟩
  · subst h2
    exact Or.inl ⟨h1, rfl⟩
theorem gDf_tree {I : Nat → Nat → Int} {J : Nat → Nat → Int64} {D : List gLn} (hD : gDf I J D) {t : Nat} {l : gLn} (h : D[t]? = some l) : gFo l 1 ∧ gNvs l := by
  obtain ⟨k, x, ra, rb, rc, -, -, -, -, -, -, -, h1, h2⟩ := hD.2.2 t l h
  exact ⟨h1, h2⟩
theorem gRf_fo {I : Nat → Nat → Int} {J : Nat → Nat → Int64} {D : List gLn} {u : Nat} {p : Prop} {a : Int} {la : gLn} (hD : gDf I J D) (h : gDrf D u p a la) : (p → gFo la 1) ∧ (¬ p → la = []) ∧ gNvs la := by
  rcases h with ⟨hp, i, h1, h2, h3⟩ | ⟨hp, h1, h2⟩
  · exact ⟨fun _ => (gDf_tree hD h3).1, fun h => absurd hp h, (gDf_tree hD h3).2⟩
  · subst h2
    exact ⟨fun h => absurd h hp, fun _ => rfl, gNvs_nil⟩
theorem gDn_app {I I' : Nat → Nat → Int} {J J' : Nat → Nat → Int64} {D E : List gLn} {t : Nat} {l : gLn} (h : gDn I J D t l) (h3 : I' 13 t = I 13 t) (h4 : J' 14 t = J 14 t) (h5 : I' 15 t = I 15 t) (h6 : I' 16 t = I 16 t) (h7 : I' 17 t = I 17 t) (h8 : I' 18 t = I 18 t) : gDn I' J' (D ++ E) t l := by
  obtain ⟨k, x, la, lb, lc, g1, g2, g3, g4, g5, g6, g7, g8, g9⟩ := h
  exact ⟨k, x, la, lb, lc, by rw [h3]; exact g1, by rw [h4]; exact g2, by rw [h8]; exact g3, by rw [h5]; exact gRf_app g4, by rw [h6]; exact gRf_app g5, by rw [h7]; exact gRf_app g6, g7, g8, g9⟩
/-- a tree more -/
theorem gDf_make {I I' : Nat → Nat → Int} {J J' : Nat → Nat → Int64} {D : List gLn} {k : Nat} {x : Int64} {a b c : Int} {la lb lc : gLn} (hD : gDf I J D) (hu : D.length < 1200) (hv : gNv (k, x)) (ra : gDrf D D.length (1 ≤ gPar k) a la) (rb : gDrf D D.length (2 ≤ gPar k) b lb) (rc : gDrf D D.length (3 ≤ gPar k) c lc)
    (h6 : I' 12 6 = ((D.length + 1 : Nat) : Int)) (hI : ∀ p q, p = 13 ∨ p = 15 ∨ p = 16 ∨ p = 17 ∨ p = 18 → q ≠ D.length → I' p q = I p q) (hJ : ∀ q, q ≠ D.length → J' 14 q = J 14 q)
    (n13 : I' 13 D.length = (k : Int)) (n14 : J' 14 D.length = x) (n15 : I' 15 D.length = a) (n16 : I' 16 D.length = b) (n17 : I' 17 D.length = c) (n18 : I' 18 D.length = ((min 1000000 (1 + la.length + lb.length + lc.length) : Nat) : Int)) : gDf I' J' (D ++ [(k, x) :: (la ++ (lb ++ lc))]) := by
  refine ⟨by rw [h6]; simp, by simp; omega, fun t l ht => ?_⟩
  by_cases h : t < D.length
  · rw [List.getElem?_append_left h] at ht
    exact gDn_app (hD.2.2 t l ht) (hI _ _ (by omega) (by omega)) (hJ _ (by omega)) (hI _ _ (by omega) (by omega)) (hI _ _ (by omega) (by omega)) (hI _ _ (by omega) (by omega)) (hI _ _ (by omega) (by omega))
  · have h1 := gget_lt ht
    simp only [List.length_append, List.length_cons, List.length_nil] at h1
    have h2 : t = D.length := by omega
    subst h2
    simp at ht
    subst ht
    obtain ⟨fa, ga, va⟩ := gRf_fo hD ra
    obtain ⟨fb, gb, vb⟩ := gRf_fo hD rb
    obtain ⟨fc, gc, vc⟩ := gRf_fo hD rc
    refine ⟨k, x, la, lb, lc, n13, n14, ?_, by rw [n15]; exact gRf_app ra, by rw [n16]; exact gRf_app rb, by rw [n17]; exact gRf_app rc, rfl, gFo_node ?_, gNvs_cons hv (gNvs_app va (gNvs_app vb vc))⟩
    · rw [n18]
      simp only [List.length_cons, List.length_append]
      congr 2
      omega
    · rcases gPar3 hv.1 with p | p | p | p
      all_goals rw [p] at fa ga fb gb fc gc
      all_goals show gFo _ (gPar k)
      all_goals rw [p]
      · rw [ga (by omega), gb (by omega), gc (by omega)]
        rfl
      · rw [gb (by omega), gc (by omega), List.append_nil, List.append_nil]
        exact fa (by omega)
      · rw [gc (by omega), List.append_nil]
        exact gFo_app _ _ 1 1 (fa (by omega)) (fb (by omega))
      · exact gFo_app _ _ 1 2 (fa (by omega)) (gFo_app _ _ 1 1 (fb (by omega)) (fc (by omega)))
set_option maxRecDepth 10000 in
theorem c_X0_nodes {l : Launch} {Γ : gC} {ad : Nat → Nat} {I : Nat → Nat → Int} {J : Nat → Nat → Int64} {d : Nat} {a : Int} {u m : Nat} (hu : I 12 6 = (u : Int)) (hu2 : u ≤ 1200) (ha : (a = -1 ∧ m = 0) ∨ ∃ i : Nat, a = (i : Int) ∧ i < u ∧ I 18 i = (m : Int)) : gKi l Γ gm_X0_nodes d [.ref (gad (gSS ad) 12), .int (iv a)] (gSS ad, I, J) (fun e μ => μ = (gSS ad, I, J) ∧ e = (m : Int)) := by
  refine gKi_of gk_X0_nodes.1 (Nat.le_of_ble_eq_true rfl) ?_
  show gG l Γ gm_X0_nodes (d, 0, 0, 0, 0) 0 [(0, .ref (gad (gSS ad) 12)), (1, .int (iv a))] [] _ _
  refine gg_iload_n dX0_nodes_0 1 rfl ?_
  refine gg_if_lt (tgt := 21) dX0_nodes_1 (by decide) (by rcases ha with ⟨h, -⟩ | ⟨i, h, h2, -⟩ <;> omega) (fun hb => ?_) (fun hb => ?_)
  · refine gg_iconst dX0_nodes_21 ?_
    refine gg_ireti dX0_nodes_22 rfl ⟨rfl, rfl⟩ ?_
    exact ⟨rfl, by rcases ha with ⟨h, h2⟩ | ⟨i, h, -⟩ <;> omega⟩
  · obtain ⟨i, rfl, hiu, h18⟩ : ∃ i : Nat, a = (i : Int) ∧ i < u ∧ I 18 i = (m : Int) := by
      rcases ha with ⟨h, -⟩ | h
      · omega
      · exact h
    refine gg_iload_n dX0_nodes_4 1 rfl ?_
    refine gg_aload_n dX0_nodes_5 0 rfl ?_
    refine gg_getI rfl gf_RX0_34 dX0_nodes_6 sh_12 pl_12 (by decide) (by decide) ?_
    refine gg_toI (b := (u : Int)) hu ?_
    refine gg_icmp_ge_f (tgt := 21) dX0_nodes_9 (by decide) (by omega) (by omega) ?_
    refine gg_aload_n dX0_nodes_12 0 rfl ?_
    refine gg_getR (k' := 18) rfl gf_RX0_28 dX0_nodes_13 sh_12 pl_12 (by decide) (by decide) rr_12_5 ?_
    refine gg_iload_n dX0_nodes_16 1 rfl ?_
    refine gg_ialdj i dX0_nodes_17 sh_18 pl_18 (by decide) rfl (by omega) ?_
    refine gg_toI (b := (m : Int)) h18 ?_
    refine gg_goto (tgt := 22) dX0_nodes_18 (by decide) ?_
    refine gg_ireti dX0_nodes_22 rfl ⟨rfl, rfl⟩ ?_
    exact ⟨rfl, rfl⟩

set_option maxRecDepth 10000 in
theorem c_X0_make {l : Launch} {Γ : gC} {ad : Nat → Nat} {I : Nat → Nat → Int} {J : Nat → Nat → Int64} {d : Nat}  {D : List gLn} {k : Nat} {x : Int64} {a b c : Int} {la lb lc : gLn} (hD : gDf I J D) (hu : D.length < 1200) (hv : gNv (k, x)) (ra : gDrf D D.length (1 ≤ gPar k) a la) (rb : gDrf D D.length (2 ≤ gPar k) b lb) (rc : gDrf D D.length (3 ≤ gPar k) c lc) (hd : 2 ≤ d) : gKi l Γ gm_X0_make d [.ref (gad (gSS ad) 12), .int (iv (k : Int)), .long x, .int (iv a), .int (iv b), .int (iv c)] (gSS ad, I, J) (fun e μ => ∃ I1 J1, μ = (gSS ad, I1, J1) ∧ gDf I1 J1 (D ++ [(k, x) :: (la ++ (lb ++ lc))]) ∧ (∀ p, p ≠ 12 → p ≠ 13 → p ≠ 15 → p ≠ 16 → p ≠ 17 → p ≠ 18 → I1 p = I p) ∧ (∀ q, q ≠ 6 → I1 12 q = I 12 q) ∧ (∀ p, p ≠ 14 → J1 p = J p) ∧ e = (D.length : Int)) := by
  refine gKi_of gk_X0_make.1 (Nat.le_of_ble_eq_true rfl) ?_
  show gG l Γ gm_X0_make (d, 0, 0, 0, 0) 0 [(0, .ref (gad (gSS ad) 12)), (1, .int (iv (k : Int))), (2, .long x), (4, .int (iv a)), (5, .int (iv b)), (6, .int (iv c))] [] _ _
  have hm1 : min 1000000 la.length ≤ 1000000 := by omega
  have hm2 : min 1000000 lb.length ≤ 1000000 := by omega
  have hm3 : min 1000000 lc.length ≤ 1000000 := by omega
  refine gg_aload_n dX0_make_0 0 rfl ?_
  refine gg_getI rfl gf_RX0_34 dX0_make_1 sh_12 pl_12 (by decide) (by decide) ?_
  refine gg_toI (b := (D.length : Int)) hD.1 ?_
  refine gg_sipush dX0_make_4 (by decide) ?_
  refine gg_icmp_lt_t (tgt := 12) dX0_make_7 (by decide) (by omega) (by omega) ?_
  refine gg_aload_n dX0_make_12 0 rfl ?_
  refine gg_getR (k' := 13) rfl gf_RX0_11 dX0_make_13 sh_12 pl_12 (by decide) (by decide) rr_12_0 ?_
  refine gg_aload_n dX0_make_16 0 rfl ?_
  refine gg_getI rfl gf_RX0_34 dX0_make_17 sh_12 pl_12 (by decide) (by decide) ?_
  refine gg_toI (b := (D.length : Int)) (hD.1) ?_
  refine gg_iload_n dX0_make_20 1 rfl ?_
  refine gg_iastj D.length dX0_make_21 sh_13 pl_13 (by decide) rfl hu ?_
  refine gg_aload_n dX0_make_22 0 rfl ?_
  refine gg_getR (k' := 14) rfl gf_RX0_15 dX0_make_23 sh_12 pl_12 (by decide) (by decide) rr_12_1 ?_
  refine gg_aload_n dX0_make_26 0 rfl ?_
  refine gg_getI rfl gf_RX0_34 dX0_make_27 sh_12 pl_12 (by decide) (by decide) ?_
  refine gg_toI (b := (D.length : Int)) ((gu_n (by omega)).trans (hD.1)) ?_
  refine gg_lload_n dX0_make_30 2 rfl ?_
  refine gg_lastj D.length dX0_make_31 sh_14 pl_14 (by decide) rfl hu ?_
  refine gg_aload_n dX0_make_32 0 rfl ?_
  refine gg_getR (k' := 15) rfl gf_RX0_19 dX0_make_33 sh_12 pl_12 (by decide) (by decide) rr_12_2 ?_
  refine gg_aload_n dX0_make_36 0 rfl ?_
  refine gg_getI rfl gf_RX0_34 dX0_make_37 sh_12 pl_12 (by decide) (by decide) ?_
  refine gg_toI (b := (D.length : Int)) ((gu_n (by omega)).trans (hD.1)) ?_
  refine gg_iload dX0_make_40 3 rfl ?_
  refine gg_iastj D.length dX0_make_42 sh_15 pl_15 (by decide) rfl hu ?_
  refine gg_aload_n dX0_make_43 0 rfl ?_
  refine gg_getR (k' := 16) rfl gf_RX0_22 dX0_make_44 sh_12 pl_12 (by decide) (by decide) rr_12_3 ?_
  refine gg_aload_n dX0_make_47 0 rfl ?_
  refine gg_getI rfl gf_RX0_34 dX0_make_48 sh_12 pl_12 (by decide) (by decide) ?_
  refine gg_toI (b := (D.length : Int)) ((gu_n (by omega)).trans ((gu_n (by omega)).trans (hD.1))) ?_
  refine gg_iload dX0_make_51 4 rfl ?_
  refine gg_iastj D.length dX0_make_53 sh_16 pl_16 (by decide) rfl hu ?_
  refine gg_aload_n dX0_make_54 0 rfl ?_
  refine gg_getR (k' := 17) rfl gf_RX0_25 dX0_make_55 sh_12 pl_12 (by decide) (by decide) rr_12_4 ?_
  refine gg_aload_n dX0_make_58 0 rfl ?_
  refine gg_getI rfl gf_RX0_34 dX0_make_59 sh_12 pl_12 (by decide) (by decide) ?_
  refine gg_toI (b := (D.length : Int)) ((gu_n (by omega)).trans ((gu_n (by omega)).trans ((gu_n (by omega)).trans (hD.1)))) ?_
  refine gg_iload dX0_make_62 5 rfl ?_
  refine gg_iastj D.length dX0_make_64 sh_17 pl_17 (by decide) rfl hu ?_
  refine gg_aload_n dX0_make_65 0 rfl ?_
  refine gg_getR (k' := 18) rfl gf_RX0_28 dX0_make_66 sh_12 pl_12 (by decide) (by decide) rr_12_5 ?_
  refine gg_aload_n dX0_make_69 0 rfl ?_
  refine gg_getI rfl gf_RX0_34 dX0_make_70 sh_12 pl_12 (by decide) (by decide) ?_
  refine gg_toI (b := (D.length : Int)) ((gu_n (by omega)).trans ((gu_n (by omega)).trans ((gu_n (by omega)).trans ((gu_n (by omega)).trans (hD.1))))) ?_
  refine gg_ldc (a := 1000000) rfl gq_RX0_45 dX0_make_73 (by decide) ?_
  refine gg_iconst dX0_make_75 ?_
  refine gg_aload_n dX0_make_76 0 rfl ?_
  refine gg_iload dX0_make_77 3 rfl ?_
  refine gg_callVi (own := RX0) (yt := gm_X0_nodes) rfl gl_RX0_46 gk_X0_nodes gr_X0_nodes dX0_make_79 (c_X0_nodes (d := d - 1) (u := D.length) (m := min 1000000 la.length) ((gu_n (by omega)).trans ((gu_n (by omega)).trans ((gu_n (by omega)).trans ((gu_n (by omega)).trans (hD.1))))) (by omega) ((gRf_sz hD ra).imp id (fun ⟨i, h1, h2, h3⟩ => ⟨i, h1, h2, ((gu_n (by omega)).trans ((gu_n (by omega)).trans ((gu_n (by omega)).trans ((gu_n (by omega)).trans (rfl))))).trans h3⟩))) sh_12 pl_12 (by decide) rfl rfl rfl (Nat.le_of_ble_eq_true rfl) (by show _ ≤ d; omega) ⟨Nat.le_refl _, Nat.le_refl _⟩ (fun e1 μ' hc => ?_)
  obtain ⟨rfl, rfl⟩ := hc
  refine gg_iadd dX0_make_82 ?_
  refine gg_aload_n dX0_make_83 0 rfl ?_
  refine gg_iload dX0_make_84 4 rfl ?_
  refine gg_callVi (own := RX0) (yt := gm_X0_nodes) rfl gl_RX0_46 gk_X0_nodes gr_X0_nodes dX0_make_86 (c_X0_nodes (d := d - 1) (u := D.length) (m := min 1000000 lb.length) ((gu_n (by omega)).trans ((gu_n (by omega)).trans ((gu_n (by omega)).trans ((gu_n (by omega)).trans (hD.1))))) (by omega) ((gRf_sz hD rb).imp id (fun ⟨i, h1, h2, h3⟩ => ⟨i, h1, h2, ((gu_n (by omega)).trans ((gu_n (by omega)).trans ((gu_n (by omega)).trans ((gu_n (by omega)).trans (rfl))))).trans h3⟩))) sh_12 pl_12 (by decide) rfl rfl rfl (Nat.le_of_ble_eq_true rfl) (by show _ ≤ d; omega) ⟨Nat.le_refl _, Nat.le_refl _⟩ (fun e2 μ' hc => ?_)
  obtain ⟨rfl, rfl⟩ := hc
  refine gg_iadd dX0_make_89 ?_
  refine gg_aload_n dX0_make_90 0 rfl ?_
  refine gg_iload dX0_make_91 5 rfl ?_
  refine gg_callVi (own := RX0) (yt := gm_X0_nodes) rfl gl_RX0_46 gk_X0_nodes gr_X0_nodes dX0_make_93 (c_X0_nodes (d := d - 1) (u := D.length) (m := min 1000000 lc.length) ((gu_n (by omega)).trans ((gu_n (by omega)).trans ((gu_n (by omega)).trans ((gu_n (by omega)).trans (hD.1))))) (by omega) ((gRf_sz hD rc).imp id (fun ⟨i, h1, h2, h3⟩ => ⟨i, h1, h2, ((gu_n (by omega)).trans ((gu_n (by omega)).trans ((gu_n (by omega)).trans ((gu_n (by omega)).trans (rfl))))).trans h3⟩))) sh_12 pl_12 (by decide) rfl rfl rfl (Nat.le_of_ble_eq_true rfl) (by show _ ≤ d; omega) ⟨Nat.le_refl _, Nat.le_refl _⟩ (fun e3 μ' hc => ?_)
  obtain ⟨rfl, rfl⟩ := hc
  refine gg_iadd dX0_make_96 ?_
  refine gg_mmin rfl gl_RX0_50 dX0_make_97 (by omega) (Nat.le_of_ble_eq_true rfl) (by omega) ⟨Nat.le_refl _, Nat.le_refl _⟩ ?_
  refine gg_toI (b := ((min 1000000 (1 + la.length + lb.length + lc.length) : Nat) : Int)) (by omega) ?_
  refine gg_iastj D.length dX0_make_100 sh_18 pl_18 (by decide) rfl hu ?_
  refine gg_aload_n dX0_make_101 0 rfl ?_
  refine gg_dup dX0_make_102 rfl ?_
  refine gg_getI rfl gf_RX0_34 dX0_make_103 sh_12 pl_12 (by decide) (by decide) ?_
  refine gg_toI (b := (D.length : Int)) ((gu_n (by omega)).trans ((gu_n (by omega)).trans ((gu_n (by omega)).trans ((gu_n (by omega)).trans ((gu_n (by omega)).trans (hD.1)))))) ?_
  refine gg_iconst dX0_make_106 ?_
  refine gg_iadd dX0_make_107 ?_
  refine gg_toI (b := ((D.length + 1 : Nat) : Int)) (by omega) ?_
  refine gg_putI rfl gf_RX0_34 dX0_make_108 sh_12 pl_12 (by decide) (by decide) (by decide) (gfit_i _) ?_
  refine gg_aload_n dX0_make_111 0 rfl ?_
  refine gg_getI rfl gf_RX0_34 dX0_make_112 sh_12 pl_12 (by decide) (by decide) ?_
  refine gg_toI (b := ((D.length + 1 : Nat) : Int)) gu_s ?_
  refine gg_iconst dX0_make_115 ?_
  refine gg_isub dX0_make_116 ?_
  refine gg_toI (b := (D.length : Int)) (by omega) ?_
  refine gg_ireti dX0_make_117 rfl ⟨rfl, rfl⟩ ?_
  refine ⟨_, _, rfl, gDf_make hD hu hv ra rb rc (gu_s) (fun p q h h2 => ?_) (fun q h => ((gv_n (by omega)).trans (rfl))) ((gu_n (by omega)).trans ((gu_n (by omega)).trans ((gu_n (by omega)).trans ((gu_n (by omega)).trans ((gu_n (by omega)).trans (gu_s)))))) (gv_s) ((gu_n (by omega)).trans ((gu_n (by omega)).trans ((gu_n (by omega)).trans ((gu_n (by omega)).trans (gu_s))))) ((gu_n (by omega)).trans ((gu_n (by omega)).trans ((gu_n (by omega)).trans (gu_s)))) ((gu_n (by omega)).trans ((gu_n (by omega)).trans (gu_s))) ((gu_n (by omega)).trans (gu_s)), fun p h1 h2 h3 h4 h5 h6 => (gu_other (by omega)).trans ((gu_other (by omega)).trans ((gu_other (by omega)).trans ((gu_other (by omega)).trans ((gu_other (by omega)).trans ((gu_other (by omega)).trans (rfl)))))), fun q h => ((gu_n (by omega)).trans ((gu_n (by omega)).trans ((gu_n (by omega)).trans ((gu_n (by omega)).trans ((gu_n (by omega)).trans ((gu_n (by omega)).trans (rfl))))))), fun p h => (gv_other (by omega)).trans (rfl), rfl⟩
  exact ((gu_n (by omega)).trans ((gu_n (by omega)).trans ((gu_n (by omega)).trans ((gu_n (by omega)).trans ((gu_n (by omega)).trans ((gu_n (by omega)).trans (rfl)))))))

set_option maxRecDepth 10000 in
theorem c_X0_leaf {l : Launch} {Γ : gC} {ad : Nat → Nat} {I : Nat → Nat → Int} {J : Nat → Nat → Int64} {d : Nat}  {D : List gLn} {k : Nat} {x : Int64} (hD : gDf I J D) (hu : D.length < 1200) (hv : gNv (k, x)) (hp : gPar k = 0) (hd : 3 ≤ d) : gKi l Γ gm_X0_leaf d [.ref (gad (gSS ad) 12), .int (iv (k : Int)), .long x] (gSS ad, I, J) (fun e μ => ∃ I1 J1, μ = (gSS ad, I1, J1) ∧ gDf I1 J1 (D ++ [[(k, x)]]) ∧ (∀ p, p ≠ 12 → p ≠ 13 → p ≠ 15 → p ≠ 16 → p ≠ 17 → p ≠ 18 → I1 p = I p) ∧ (∀ q, q ≠ 6 → I1 12 q = I 12 q) ∧ (∀ p, p ≠ 14 → J1 p = J p) ∧ e = (D.length : Int)) := by
  refine gKi_of gk_X0_leaf.1 (Nat.le_of_ble_eq_true rfl) ?_
  show gG l Γ gm_X0_leaf (d, 0, 0, 0, 0) 0 [(0, .ref (gad (gSS ad) 12)), (1, .int (iv (k : Int))), (2, .long x)] [] _ _
  refine gg_aload_n dX0_leaf_0 0 rfl ?_
  refine gg_iload_n dX0_leaf_1 1 rfl ?_
  refine gg_lload_n dX0_leaf_2 2 rfl ?_
  refine gg_iconst dX0_leaf_3 ?_
  refine gg_iconst dX0_leaf_4 ?_
  refine gg_iconst dX0_leaf_5 ?_
  refine gg_callVi (own := RX0) (yt := gm_X0_make) rfl gl_RX0_56 gk_X0_make gr_X0_make dX0_leaf_6 (c_X0_make (d := d - 1) (la := []) (lb := []) (lc := []) hD hu hv (Or.inr ⟨by omega, rfl, rfl⟩) (Or.inr ⟨by omega, rfl, rfl⟩) (Or.inr ⟨by omega, rfl, rfl⟩) (by omega)) sh_12 pl_12 (by decide) rfl rfl rfl (Nat.le_of_ble_eq_true rfl) (by show _ ≤ d; omega) ⟨Nat.le_refl _, Nat.le_refl _⟩ (fun e1 μ' hc => ?_)
  obtain ⟨I1, J1, rfl, hD1, hf1, hf2, hf3, rfl⟩ := hc
  refine gg_ireti dX0_leaf_9 rfl ⟨rfl, rfl⟩ ?_
  exact ⟨I1, J1, rfl, hD1, hf1, hf2, hf3, rfl⟩

set_option maxRecDepth 10000 in
theorem c_X0_pair {l : Launch} {Γ : gC} {ad : Nat → Nat} {I : Nat → Nat → Int} {J : Nat → Nat → Int64} {d : Nat}  {D : List gLn} {k : Nat} {a b : Int} {la lb : gLn} (hD : gDf I J D) (hu : D.length < 1200) (hv : gNv (k, 0)) (ra : gDrf D D.length (1 ≤ gPar k) a la) (rb : gDrf D D.length (2 ≤ gPar k) b lb) (hp : gPar k < 3) (hd : 3 ≤ d) : gKi l Γ gm_X0_pair d [.ref (gad (gSS ad) 12), .int (iv (k : Int)), .int (iv a), .int (iv b)] (gSS ad, I, J) (fun e μ => ∃ I1 J1, μ = (gSS ad, I1, J1) ∧ gDf I1 J1 (D ++ [(k, 0) :: (la ++ lb)]) ∧ (∀ p, p ≠ 12 → p ≠ 13 → p ≠ 15 → p ≠ 16 → p ≠ 17 → p ≠ 18 → I1 p = I p) ∧ (∀ q, q ≠ 6 → I1 12 q = I 12 q) ∧ (∀ p, p ≠ 14 → J1 p = J p) ∧ e = (D.length : Int)) := by
  refine gKi_of gk_X0_pair.1 (Nat.le_of_ble_eq_true rfl) ?_
  show gG l Γ gm_X0_pair (d, 0, 0, 0, 0) 0 [(0, .ref (gad (gSS ad) 12)), (1, .int (iv (k : Int))), (2, .int (iv a)), (3, .int (iv b))] [] _ _
  refine gg_aload_n dX0_pair_0 0 rfl ?_
  refine gg_iload_n dX0_pair_1 1 rfl ?_
  refine gg_lconstv (x := 0) dX0_pair_2 rfl ?_
  refine gg_iload_n dX0_pair_3 2 rfl ?_
  refine gg_iload_n dX0_pair_4 3 rfl ?_
  refine gg_iconst dX0_pair_5 ?_
  refine gg_callVi (own := RX0) (yt := gm_X0_make) rfl gl_RX0_56 gk_X0_make gr_X0_make dX0_pair_6 (c_X0_make (d := d - 1) (la := la) (lb := lb) (lc := []) hD hu hv ra rb (Or.inr ⟨by omega, rfl, rfl⟩) (by omega)) sh_12 pl_12 (by decide) rfl rfl rfl (Nat.le_of_ble_eq_true rfl) (by show _ ≤ d; omega) ⟨Nat.le_refl _, Nat.le_refl _⟩ (fun e1 μ' hc => ?_)
  obtain ⟨I1, J1, rfl, hD1, hf1, hf2, hf3, rfl⟩ := hc
  refine gg_ireti dX0_pair_9 rfl ⟨rfl, rfl⟩ ?_
  rw [List.append_nil] at hD1
  exact ⟨I1, J1, rfl, hD1, hf1, hf2, hf3, rfl⟩

def gHd (l : gLn) : Nat × Int64 := match l with | [] => (0, 0) | c :: _ => c
theorem gDf_hd {I : Nat → Nat → Int} {J : Nat → Nat → Int64} {D : List gLn} (hD : gDf I J D) {t : Nat} {l : gLn} (h : D[t]? = some l) : I 13 t = ((gHd l).1 : Int) ∧ J 14 t = (gHd l).2 ∧ (gHd l).1 < 8 := by
  obtain ⟨k, x, ra, rb, rc, h1, h2, -, -, -, -, e, -, hv⟩ := hD.2.2 t l h
  subst e
  exact ⟨h1, h2, (hv (k, x) (by simp)).1⟩
set_option maxRecDepth 10000 in
theorem c_X0_has {l : Launch} {Γ : gC} {ad : Nat → Nat} {I : Nat → Nat → Int} {J : Nat → Nat → Int64} {d : Nat}  {D : List gLn} {i : Int} (hD : gDf I J D) (hi : -2147483648 ≤ i ∧ i ≤ 2147483647) : gKi l Γ gm_X0_has d [.ref (gad (gSS ad) 12), .int (iv i)] (gSS ad, I, J) (fun e μ => μ = (gSS ad, I, J) ∧ ((e = 1 ∧ (0 ≤ i ∧ i < (D.length : Int))) ∨ (e = 0 ∧ ¬ (0 ≤ i ∧ i < (D.length : Int))))) := by
  refine gKi_of gk_X0_has.1 (Nat.le_of_ble_eq_true rfl) ?_
  show gG l Γ gm_X0_has (d, 0, 0, 0, 0) 0 [(0, .ref (gad (gSS ad) 12)), (1, .int (iv i))] [] _ _
  refine gg_iload_n dX0_has_0 1 rfl ?_
  refine gg_if_lt (tgt := 16) dX0_has_1 (by decide) (by omega) (fun hb1 => ?_) (fun hb1 => ?_)
  · refine gg_iconst dX0_has_16 ?_
    refine gg_iretz dX0_has_17 rfl (by decide) ⟨rfl, rfl⟩ ?_
    refine ⟨rfl, ?_⟩ <;> omega
  · refine gg_iload_n dX0_has_4 1 rfl ?_
    refine gg_aload_n dX0_has_5 0 rfl ?_
    refine gg_getI rfl gf_RX0_34 dX0_has_6 sh_12 pl_12 (by decide) (by decide) ?_
    refine gg_toI (b := (D.length : Int)) hD.1 ?_
    refine gg_icmp_ge (tgt := 16) dX0_has_9 (by decide) (by have := hD.2.1; omega) (fun hb2 => ?_) (fun hb2 => ?_)
    · refine gg_iconst dX0_has_16 ?_
      refine gg_iretz dX0_has_17 rfl (by decide) ⟨rfl, rfl⟩ ?_
      refine ⟨rfl, ?_⟩ <;> omega
    · refine gg_iconst dX0_has_12 ?_
      refine gg_goto (tgt := 17) dX0_has_13 (by decide) ?_
      refine gg_iretz dX0_has_17 rfl (by decide) ⟨rfl, rfl⟩ ?_
      refine ⟨rfl, ?_⟩ <;> omega

set_option maxRecDepth 10000 in
theorem c_X0_isNumber {l : Launch} {Γ : gC} {ad : Nat → Nat} {I : Nat → Nat → Int} {J : Nat → Nat → Int64} {d : Nat}  {D : List gLn} {t : Nat} {la : gLn} (hD : gDf I J D) (ht : D[t]? = some la) (hd : 1 ≤ d) : gKi l Γ gm_X0_isNumber d [.ref (gad (gSS ad) 12), .int (iv (t : Int))] (gSS ad, I, J) (fun e μ => μ = (gSS ad, I, J) ∧ ((e = 1 ∧ ((gHd la).1 = 0)) ∨ (e = 0 ∧ ¬ ((gHd la).1 = 0)))) := by
  refine gKi_of gk_X0_isNumber.1 (Nat.le_of_ble_eq_true rfl) ?_
  show gG l Γ gm_X0_isNumber (d, 0, 0, 0, 0) 0 [(0, .ref (gad (gSS ad) 12)), (1, .int (iv (t : Int)))] [] _ _
  have htl := gget_lt ht
  have hh := gDf_hd hD ht
  have hu := hD.2.1
  refine gg_aload_n dX0_isNumber_0 0 rfl ?_
  refine gg_iload_n dX0_isNumber_1 1 rfl ?_
  refine gg_callVi (own := RX0) (yt := gm_X0_has) rfl gl_RX0_38 gk_X0_has gr_X0_has dX0_isNumber_2 (c_X0_has (d := d - 1) hD (by omega)) sh_12 pl_12 (by decide) rfl rfl rfl (Nat.le_of_ble_eq_true rfl) (by show _ ≤ d; omega) ⟨Nat.le_refl _, Nat.le_refl _⟩ (fun e1 μ' hc => ?_)
  obtain ⟨rfl, ⟨rfl, hb2⟩ | ⟨rfl, hb2⟩⟩ := hc
  rotate_left
  · omega
  refine gg_if_eq_f (tgt := 21) dX0_isNumber_5 (by decide) (by decide) (by decide) ?_
  refine gg_aload_n dX0_isNumber_8 0 rfl ?_
  refine gg_getR (k' := 13) rfl gf_RX0_11 dX0_isNumber_9 sh_12 pl_12 (by decide) (by decide) rr_12_0 ?_
  refine gg_iload_n dX0_isNumber_12 1 rfl ?_
  refine gg_ialdj t dX0_isNumber_13 sh_13 pl_13 (by decide) rfl (by omega) ?_
  refine gg_toI (b := ((gHd la).1 : Int)) hh.1 ?_
  refine gg_if_ne (tgt := 21) dX0_isNumber_14 (by decide) (by omega) (fun hb => ?_) (fun hb => ?_)
  · refine gg_iconst dX0_isNumber_21 ?_
    refine gg_iretz dX0_isNumber_22 rfl (by decide) ⟨rfl, rfl⟩ ?_
    refine ⟨rfl, ?_⟩ <;> omega
  · refine gg_iconst dX0_isNumber_17 ?_
    refine gg_goto (tgt := 22) dX0_isNumber_18 (by decide) ?_
    refine gg_iretz dX0_isNumber_22 rfl (by decide) ⟨rfl, rfl⟩ ?_
    refine ⟨rfl, ?_⟩ <;> omega

set_option maxRecDepth 10000 in
theorem c_X0_isNumber_ {l : Launch} {Γ : gC} {ad : Nat → Nat} {I : Nat → Nat → Int} {J : Nat → Nat → Int64} {d : Nat}  {D : List gLn} {t : Nat} {la : gLn} (hD : gDf I J D) (ht : D[t]? = some la) {x : Int64} (hd : 2 ≤ d) : gKi l Γ gm_X0_isNumber_ d [.ref (gad (gSS ad) 12), .int (iv (t : Int)), .long x] (gSS ad, I, J) (fun e μ => μ = (gSS ad, I, J) ∧ ((e = 1 ∧ ((gHd la).1 = 0 ∧ (gHd la).2 = x)) ∨ (e = 0 ∧ ¬ ((gHd la).1 = 0 ∧ (gHd la).2 = x)))) := by
  refine gKi_of gk_X0_isNumber_.1 (Nat.le_of_ble_eq_true rfl) ?_
  show gG l Γ gm_X0_isNumber_ (d, 0, 0, 0, 0) 0 [(0, .ref (gad (gSS ad) 12)), (1, .int (iv (t : Int))), (2, .long x)] [] _ _
  have htl := gget_lt ht
  have hh := gDf_hd hD ht
  have hu := hD.2.1
  refine gg_aload_n dX0_isNumber__0 0 rfl ?_
  refine gg_iload_n dX0_isNumber__1 1 rfl ?_
  refine gg_callVi (own := RX0) (yt := gm_X0_isNumber) rfl gl_RX0_42 gk_X0_isNumber gr_X0_isNumber dX0_isNumber__2 (c_X0_isNumber (d := d - 1) hD ht (by omega)) sh_12 pl_12 (by decide) rfl rfl rfl (Nat.le_of_ble_eq_true rfl) (by show _ ≤ d; omega) ⟨Nat.le_refl _, Nat.le_refl _⟩ (fun e1 μ' hc => ?_)
  obtain ⟨rfl, ⟨rfl, hb⟩ | ⟨rfl, hb⟩⟩ := hc
  · refine gg_if_eq_f (tgt := 23) dX0_isNumber__5 (by decide) (by decide) (by decide) ?_
    refine gg_aload_n dX0_isNumber__8 0 rfl ?_
    refine gg_getR (k' := 14) rfl gf_RX0_15 dX0_isNumber__9 sh_12 pl_12 (by decide) (by decide) rr_12_1 ?_
    refine gg_iload_n dX0_isNumber__12 1 rfl ?_
    refine gg_laldj t dX0_isNumber__13 sh_14 pl_14 (by decide) rfl (by omega) ?_
    refine gg_toL (b := (gHd la).2) hh.2.1 ?_
    refine gg_lload_n dX0_isNumber__14 2 rfl ?_
    refine gg_lcmp_ne (tgt := 23) dX0_isNumber__15 dX0_isNumber__16 (by decide) (fun hx => ?_) (fun hx => ?_)
    · refine gg_iconst dX0_isNumber__23 ?_
      refine gg_iretz dX0_isNumber__24 rfl (by decide) ⟨rfl, rfl⟩ ?_
      exact ⟨rfl, Or.inr ⟨rfl, fun h => by first | exact hb h.1 | exact hx h.2⟩⟩
    · refine gg_iconst dX0_isNumber__19 ?_
      refine gg_goto (tgt := 24) dX0_isNumber__20 (by decide) ?_
      refine gg_iretz dX0_isNumber__24 rfl (by decide) ⟨rfl, rfl⟩ ?_
      exact ⟨rfl, Or.inl ⟨rfl, hb, hx⟩⟩
  · refine gg_if_eq_t (tgt := 23) dX0_isNumber__5 (by decide) (by decide) (by decide) ?_
    refine gg_iconst dX0_isNumber__23 ?_
    refine gg_iretz dX0_isNumber__24 rfl (by decide) ⟨rfl, rfl⟩ ?_
    exact ⟨rfl, Or.inr ⟨rfl, fun h => by first | exact hb h.1 | exact hx h.2⟩⟩

set_option maxRecDepth 10000 in
theorem c_X0_kind {l : Launch} {Γ : gC} {ad : Nat → Nat} {I : Nat → Nat → Int} {J : Nat → Nat → Int64} {d : Nat}  {D : List gLn} {t : Nat} {la : gLn} (hD : gDf I J D) (ht : D[t]? = some la) (hd : 1 ≤ d) : gKi l Γ gm_X0_kind d [.ref (gad (gSS ad) 12), .int (iv (t : Int))] (gSS ad, I, J) (fun e μ => μ = (gSS ad, I, J) ∧ e = ((gHd la).1 : Int)) := by
  refine gKi_of gk_X0_kind.1 (Nat.le_of_ble_eq_true rfl) ?_
  show gG l Γ gm_X0_kind (d, 0, 0, 0, 0) 0 [(0, .ref (gad (gSS ad) 12)), (1, .int (iv (t : Int)))] [] _ _
  have htl := gget_lt ht
  have hh := gDf_hd hD ht
  have hu := hD.2.1
  refine gg_aload_n dX0_kind_0 0 rfl ?_
  refine gg_iload_n dX0_kind_1 1 rfl ?_
  refine gg_callVi (own := RX0) (yt := gm_X0_has) rfl gl_RX0_38 gk_X0_has gr_X0_has dX0_kind_2 (c_X0_has (d := d - 1) hD (by omega)) sh_12 pl_12 (by decide) rfl rfl rfl (Nat.le_of_ble_eq_true rfl) (by show _ ≤ d; omega) ⟨Nat.le_refl _, Nat.le_refl _⟩ (fun e1 μ' hc => ?_)
  obtain ⟨rfl, ⟨rfl, hb2⟩ | ⟨rfl, hb2⟩⟩ := hc
  rotate_left
  · omega
  refine gg_if_eq_f (tgt := 17) dX0_kind_5 (by decide) (by decide) (by decide) ?_
  refine gg_aload_n dX0_kind_8 0 rfl ?_
  refine gg_getR (k' := 13) rfl gf_RX0_11 dX0_kind_9 sh_12 pl_12 (by decide) (by decide) rr_12_0 ?_
  refine gg_iload_n dX0_kind_12 1 rfl ?_
  refine gg_ialdj t dX0_kind_13 sh_13 pl_13 (by decide) rfl (by omega) ?_
  refine gg_toI (b := ((gHd la).1 : Int)) hh.1 ?_
  refine gg_goto (tgt := 18) dX0_kind_14 (by decide) ?_
  refine gg_ireti dX0_kind_18 rfl ⟨rfl, rfl⟩ ?_
  exact ⟨rfl, rfl⟩

set_option maxRecDepth 10000 in
theorem c_X0_number {l : Launch} {Γ : gC} {ad : Nat → Nat} {I : Nat → Nat → Int} {J : Nat → Nat → Int64} {d : Nat}  {D : List gLn} {t : Nat} {la : gLn} (hD : gDf I J D) (ht : D[t]? = some la) (hd : 1 ≤ d) : gKl l Γ gm_X0_number d [.ref (gad (gSS ad) 12), .int (iv (t : Int))] (gSS ad, I, J) (fun e μ => μ = (gSS ad, I, J) ∧ e = (gHd la).2) := by
  refine gKl_of gk_X0_number.1 (Nat.le_of_ble_eq_true rfl) ?_
  show gG l Γ gm_X0_number (d, 0, 0, 0, 0) 0 [(0, .ref (gad (gSS ad) 12)), (1, .int (iv (t : Int)))] [] _ _
  have htl := gget_lt ht
  have hh := gDf_hd hD ht
  have hu := hD.2.1
  refine gg_aload_n dX0_number_0 0 rfl ?_
  refine gg_iload_n dX0_number_1 1 rfl ?_
  refine gg_callVi (own := RX0) (yt := gm_X0_has) rfl gl_RX0_38 gk_X0_has gr_X0_has dX0_number_2 (c_X0_has (d := d - 1) hD (by omega)) sh_12 pl_12 (by decide) rfl rfl rfl (Nat.le_of_ble_eq_true rfl) (by show _ ≤ d; omega) ⟨Nat.le_refl _, Nat.le_refl _⟩ (fun e1 μ' hc => ?_)
  obtain ⟨rfl, ⟨rfl, hb2⟩ | ⟨rfl, hb2⟩⟩ := hc
  rotate_left
  · omega
  refine gg_if_eq_f (tgt := 17) dX0_number_5 (by decide) (by decide) (by decide) ?_
  refine gg_aload_n dX0_number_8 0 rfl ?_
  refine gg_getR (k' := 14) rfl gf_RX0_15 dX0_number_9 sh_12 pl_12 (by decide) (by decide) rr_12_1 ?_
  refine gg_iload_n dX0_number_12 1 rfl ?_
  refine gg_laldj t dX0_number_13 sh_14 pl_14 (by decide) rfl (by omega) ?_
  refine gg_toL (b := (gHd la).2) hh.2.1 ?_
  refine gg_goto (tgt := 18) dX0_number_14 (by decide) ?_
  refine gg_lretl dX0_number_18 rfl ⟨rfl, rfl⟩ ?_
  exact ⟨rfl, rfl⟩

set_option maxRecDepth 10000 in
theorem c_X0_first {l : Launch} {Γ : gC} {ad : Nat → Nat} {I : Nat → Nat → Int} {J : Nat → Nat → Int64} {d : Nat}  {D : List gLn} {t : Nat} {la : gLn} (hD : gDf I J D) (ht : D[t]? = some la) (h2 : (gHd la).1 = 2) (hd : 1 ≤ d) : gKi l Γ gm_X0_first d [.ref (gad (gSS ad) 12), .int (iv (t : Int))] (gSS ad, I, J) (fun e μ => μ = (gSS ad, I, J) ∧ ∃ i : Nat, e = (i : Int) ∧ i < t ∧ D[i]? = some la.tail) := by
  refine gKi_of gk_X0_first.1 (Nat.le_of_ble_eq_true rfl) ?_
  show gG l Γ gm_X0_first (d, 0, 0, 0, 0) 0 [(0, .ref (gad (gSS ad) 12)), (1, .int (iv (t : Int)))] [] _ _
  have htl := gget_lt ht
  have hh := gDf_hd hD ht
  have hu := hD.2.1
  refine gg_aload_n dX0_first_0 0 rfl ?_
  refine gg_iload_n dX0_first_1 1 rfl ?_
  refine gg_callVi (own := RX0) (yt := gm_X0_has) rfl gl_RX0_38 gk_X0_has gr_X0_has dX0_first_2 (c_X0_has (d := d - 1) hD (by omega)) sh_12 pl_12 (by decide) rfl rfl rfl (Nat.le_of_ble_eq_true rfl) (by show _ ≤ d; omega) ⟨Nat.le_refl _, Nat.le_refl _⟩ (fun e1 μ' hc => ?_)
  obtain ⟨rfl, ⟨rfl, hb2⟩ | ⟨rfl, hb2⟩⟩ := hc
  rotate_left
  · omega
  refine gg_if_eq_f (tgt := 17) dX0_first_5 (by decide) (by decide) (by decide) ?_
  refine gg_aload_n dX0_first_8 0 rfl ?_
  refine gg_getR (k' := 15) rfl gf_RX0_19 dX0_first_9 sh_12 pl_12 (by decide) (by decide) rr_12_2 ?_
  refine gg_iload_n dX0_first_12 1 rfl ?_
  refine gg_ialdj t dX0_first_13 sh_15 pl_15 (by decide) rfl (by omega) ?_
  refine gg_goto (tgt := 18) dX0_first_14 (by decide) ?_
  refine gg_ireti dX0_first_18 rfl ⟨rfl, rfl⟩ ?_
  refine ⟨rfl, ?_⟩
  obtain ⟨k, x, ra, lb, lc, -, -, -, r1, r2, r3, e, -⟩ := hD.2.2 t la ht
  subst e
  have hk : k = 2 := h2
  subst hk
  rcases r2 with ⟨h, -⟩ | ⟨-, -, e2⟩
  · exact absurd h (by decide)
  rcases r3 with ⟨h, -⟩ | ⟨-, -, e3⟩
  · exact absurd h (by decide)
  subst e2 e3
  rcases r1 with ⟨-, i, g1, g2, g3⟩ | ⟨h, -⟩
  · exact ⟨i, g1, g2, by simpa using g3⟩
  · exact absurd (show 1 ≤ gPar 2 by decide) h

