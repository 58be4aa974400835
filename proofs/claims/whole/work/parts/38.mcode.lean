/-! the reference: code is made and run -/
/-- from line s to line e lines are as P says, those ahead as they were -/
def gMr (P : Nat → Int × Int64) (s e : Nat) (I0 : Nat → Nat → Int) (J0 : Nat → Nat → Int64) (I1 : Nat → Nat → Int) (J1 : Nat → Nat → Int64) : Prop := I1 145 22 = (e : Int) ∧ s ≤ e ∧ (∀ q, s ≤ q → q < e → gMch 192 193 I1 J1 q (P q)) ∧ (∀ q, q < s → I1 192 q = I0 192 q ∧ J1 193 q = J0 193 q) ∧ (∀ p, p ≠ 145 → p ≠ 192 → I1 p = I0 p) ∧ (∀ q, q ≠ 22 → I1 145 q = I0 145 q) ∧ (∀ p, p ≠ 193 → J1 p = J0 p)
theorem gMr_0 {P : Nat → Int × Int64} {s : Nat} {I : Nat → Nat → Int} {J : Nat → Nat → Int64} (h : I 145 22 = (s : Int)) : gMr P s s I J I J := ⟨h, Nat.le_refl _, fun q h1 h2 => absurd h1 (by omega), fun _ _ => ⟨rfl, rfl⟩, fun _ _ _ => rfl, fun _ _ => rfl, fun _ _ => rfl⟩
theorem gMr_line {P : Nat → Int × Int64} {s e : Nat} {I I1 : Nat → Nat → Int} {J J1 : Nat → Nat → Int64} {w : Int} {x : Int64} (h : gMr P s e I J I1 J1) (hP : P e = (w, x)) (hw : w ≠ 0) : gMr P s (e + 1) I J (gu (gu I1 192 e w) 145 22 ((e + 1 : Nat) : Int)) J1 := by
  obtain ⟨h1, h2, h3, h4, h5, h6, h7⟩ := h
  refine ⟨gu_s, by omega, fun q a b => ?_, fun q a => ?_, fun p a b => ?_, fun q a => ?_, h7⟩
  · by_cases hq : q = e
    · subst hq
      rw [hP]
      exact ⟨(gu_n (by omega)).trans gu_s, fun h => absurd h hw⟩
    · exact ⟨((gu_n (by omega)).trans (gu_n (by omega))).trans (h3 q a (by omega)).1, (h3 q a (by omega)).2⟩
  · exact ⟨((gu_n (by omega)).trans (gu_n (by omega))).trans (h4 q a).1, (h4 q a).2⟩
  · exact ((gu_other a).trans (gu_other b)).trans (h5 p a b)
  · exact ((gu_n (by omega)).trans (gu_n (by omega))).trans (h6 q a)
theorem gMr_push {P : Nat → Int × Int64} {s : Nat} {I : Nat → Nat → Int} {J : Nat → Nat → Int64} {x : Int64} (hP : P s = (0, x)) : gMr P s (s + 1) I J (gu (gu I 192 s 0) 145 22 ((s + 1 : Nat) : Int)) (gv J 193 s x) := by
  refine ⟨gu_s, by omega, fun q a b => ?_, fun q a => ?_, fun p a b => ?_, fun q a => ?_, fun p a => gv_other a⟩
  · have hq : q = s := by omega
    subst hq
    rw [hP]
    exact ⟨(gu_n (by omega)).trans gu_s, fun _ => gv_s⟩
  · exact ⟨(gu_n (by omega)).trans (gu_n (by omega)), gv_n (by omega)⟩
  · exact (gu_other a).trans (gu_other b)
  · exact (gu_n (by omega)).trans (gu_n (by omega))
theorem gMr_app {P P' : Nat → Int × Int64} {s e e' : Nat} {I I1 I2 : Nat → Nat → Int} {J J1 J2 : Nat → Nat → Int64} (h : gMr P s e I J I1 J1) (g : gMr P' e e' I1 J1 I2 J2) (hP : ∀ q, e ≤ q → q < e' → P' q = P q) : gMr P s e' I J I2 J2 := by
  obtain ⟨h1, h2, h3, h4, h5, h6, h7⟩ := h
  obtain ⟨g1, g2, g3, g4, g5, g6, g7⟩ := g
  refine ⟨g1, by omega, fun q a b => ?_, fun q a => ?_, fun p a b => ?_, fun q a => ?_, fun p a => ?_⟩
  · by_cases hq : q < e
    · exact ⟨(g4 q hq).1.trans (h3 q a hq).1, fun h => (g4 q hq).2.trans ((h3 q a hq).2 h)⟩
    · rw [← hP q (by omega) b]
      exact g3 q (by omega) b
  · exact ⟨(g4 q (by omega)).1.trans (h4 q a).1, (g4 q (by omega)).2.trans (h4 q a).2⟩
  · exact (g5 p a b).trans (h5 p a b)
  · exact (g6 q a).trans (h6 q a)
  · exact (g7 p a).trans (h7 p a)
theorem gMr_congr {P P' : Nat → Int × Int64} {s e : Nat} {I I1 : Nat → Nat → Int} {J J1 : Nat → Nat → Int64} (h : gMr P s e I J I1 J1) (hP : ∀ q, s ≤ q → q < e → P' q = P q) : gMr P' s e I J I1 J1 := by
  obtain ⟨h1, h2, h3, h4, h5, h6, h7⟩ := h
  refine ⟨h1, h2, fun q a b => ?_, h4, h5, h6, h7⟩
  rw [hP q a b]
  exact h3 q a b
theorem gMr_patch {P P' : Nat → Int × Int64} {s e m : Nat} {I I1 : Nat → Nat → Int} {J J1 : Nat → Nat → Int64} {w : Int} {x : Int64} (h : gMr P s e I J I1 J1) (hm : s ≤ m ∧ m < e) (hw : w ≠ 0) (hP : ∀ q, q ≠ m → P' q = P q) (hPm : P' m = (w, x)) : gMr P' s e I J (gu I1 192 m w) J1 := by
  obtain ⟨h1, h2, h3, h4, h5, h6, h7⟩ := h
  refine ⟨(gu_n (by omega)).trans h1, h2, fun q a b => ?_, fun q a => ⟨(gu_n (by omega)).trans (h4 q a).1, (h4 q a).2⟩, fun p a b => (gu_other b).trans (h5 p a b), fun q a => (gu_n (by omega)).trans (h6 q a), h7⟩
  by_cases hq : q = m
  · subst hq
    rw [hPm]
    exact ⟨gu_s, fun h => absurd h hw⟩
  · rw [hP q hq]
    exact ⟨(gu_n (by omega)).trans (h3 q a b).1, (h3 q a b).2⟩
theorem gMt_r {P : Nat → Int × Int64} {s e f n : Nat} {K : Nat → Nat} {N : Nat → Int64} {Z : Nat → Nat} {I I1 : Nat → Nat → Int} {J J1 : Nat → Nat → Int64} (hf : f < 12) (h : gMr P s e I J I1 J1) (hM : gMt I J f n K N Z) : gMt I1 J1 f n K N Z := by
  obtain ⟨h1, h2, h3, h4, h5, h6, h7⟩ := h
  refine ⟨by rw [h5 146 (by omega) (by omega)]; exact hM.1, fun j hj => ?_⟩
  rw [h5 (148 + f) (by omega) (by omega), h5 (174 + f) (by omega) (by omega), h7 (161 + f) (by omega)]
  exact hM.2 j hj
set_option maxRecDepth 10000 in
theorem c_X10_line {l : Launch} {Γ : gC} {ad : Nat → Nat} {I : Nat → Nat → Int} {J : Nat → Nat → Int64} {d : Nat} {s : Nat} {a v w : Int} (hs : I 145 22 = (s : Int)) (h8 : s < 800) (hw : 10 * a + v = w) : gKv l Γ gm_X10_line d [.ref (gad (gSS ad) 145), .int (iv a), .int (iv v)] (gSS ad, I, J) (fun μ => μ = (gSS ad, gu (gu I 192 s w) 145 22 ((s + 1 : Nat) : Int), J)) := by
  refine gKv_of gk_X10_line.1 (Nat.le_of_ble_eq_true rfl) ?_
  show gG l Γ gm_X10_line (d, 0, 0, 0, 0) 0 [(0, .ref (gad (gSS ad) 145)), (1, .int (iv a)), (2, .int (iv v))] [] _ _
  refine gg_aload_n dX10_line_0 0 rfl ?_
  refine gg_getR (k' := 192) rfl gf_RX10_45 dX10_line_1 sh_145 pl_145 (by decide) (by decide) rr_145_20 ?_
  refine gg_aload_n dX10_line_4 0 rfl ?_
  refine gg_getI rfl gf_RX10_302 dX10_line_5 sh_145 pl_145 (by decide) (by decide) ?_
  refine gg_toI (b := (s : Int)) hs ?_
  refine gg_bipush dX10_line_8 (by decide) ?_
  refine gg_iload_n dX10_line_10 1 rfl ?_
  refine gg_imul dX10_line_11 ?_
  refine gg_iload_n dX10_line_12 2 rfl ?_
  refine gg_iadd dX10_line_13 ?_
  refine gg_toI (b := w) hw ?_
  refine gg_iastj s dX10_line_14 sh_192 pl_192 (by decide) rfl (by omega) ?_
  refine gg_aload_n dX10_line_15 0 rfl ?_
  refine gg_dup dX10_line_16 rfl ?_
  refine gg_getI rfl gf_RX10_302 dX10_line_17 sh_145 pl_145 (by decide) (by decide) ?_
  refine gg_toI (b := (s : Int)) ((gu_n (by omega)).trans hs) ?_
  refine gg_iconst dX10_line_20 ?_
  refine gg_iadd dX10_line_21 ?_
  refine gg_toI (b := ((s + 1 : Nat) : Int)) (by omega) ?_
  refine gg_putI rfl gf_RX10_302 dX10_line_22 sh_145 pl_145 (by decide) (by decide) (by decide) (gfit_i _) ?_
  refine gg_vretv dX10_line_25 rfl ⟨rfl, rfl⟩ ?_
  exact rfl

set_option maxRecDepth 10000 in
set_option maxHeartbeats 4000000 in
theorem r_X10_make {l : Launch} {Γ : gC} {ad : Nat → Nat} {f n : Nat} {K : Nat → Nat} {N : Nat → Int64} {Z : Nat → Nat} (hf : f < 12) (hW : gWf n K N Z) : ∀ (m i : Nat), i < n → Z i ≤ m → ∀ d, m + 2 ≤ d → ∀ (I0 : Nat → Nat → Int) (J0 : Nat → Nat → Int64) (s : Nat), gMt I0 J0 f n K N Z → I0 145 22 = (s : Int) → s + gLc n K Z i ≤ 800 → gKv l Γ gm_X10_make d [.ref (gad (gSS ad) 145), .int (iv (f : Int)), .int (iv (i : Int))] (gSS ad, I0, J0) (fun μ => ∃ I1 J1, μ = (gSS ad, I1, J1) ∧ gMr (gCv n K N Z i s) s (s + gLc n K Z i) I0 J0 I1 J1) := by
  intro m
  induction m with
  | zero => intro i hi hz; have := (hW.2.2 i hi).2.1; omega
  | succ m ih =>
    intro i hi hz d hd I0 J0 s hM0 hs h8
    obtain ⟨hK, hZ1, hZ2, he0, he1, he2, he3, hc1, hc2, hc3, -⟩ := hW.2.2 i hi
    have hn := hW.1
    have hL := gLc_is n K Z i hi
    unfold glF at hL
    refine gKv_of gk_X10_make.1 (Nat.le_of_ble_eq_true rfl) ?_
    show gG l Γ gm_X10_make (d, 0, 0, 0, 0) 0 [(0, .ref (gad (gSS ad) 145)), (1, .int (iv (f : Int))), (2, .int (iv (i : Int)))] [] _ _
    refine gg_iload_n dX10_make_0 2 rfl ?_
    refine gg_iconst dX10_make_1 ?_
    refine gg_iadd dX10_make_2 ?_
    refine gg_toI (b := ((i + 1 : Nat) : Int)) (by omega) ?_
    refine gg_istore_n (ls' := [(3, .int (iv ((i + 1 : Nat) : Int))), (0, .ref (gad (gSS ad) 145)), (1, .int (iv (f : Int))), (2, .int (iv (i : Int)))]) dX10_make_3 rfl (by decide) rfl ?_
    refine gg_aload_n dX10_make_4 1 rfl ?_
    refine gg_getR (k' := 160) rfl gf_RX10_20 dX10_make_5 sh_145 pl_145 (by decide) (by decide) rr_145_2 ?_
    refine gg_iload_n dX10_make_8 2 rfl ?_
    refine gg_aaldj (t := 7) f (k' := (161 + f)) dX10_make_9 sh_160 (by decide) pl_160 (by decide) rfl hf (rr_160 hf) ?_
    refine gg_iload_n dX10_make_10 3 rfl ?_
    refine gg_laldj i dX10_make_11 (rs_160 hf) (rl_160 hf) (by decide) rfl (by omega) ?_
    refine gg_toL (b := N i) (hM0.2 i hi).2.1 ?_
    refine gg_l2i dX10_make_12 ?_
    refine gg_istore (ls' := [(4, .int (iv (gl2i (N i)))), (3, .int (iv ((i + 1 : Nat) : Int))), (0, .ref (gad (gSS ad) 145)), (1, .int (iv (f : Int))), (2, .int (iv (i : Int)))]) dX10_make_13 (by decide) rfl ?_
    refine gg_aload_n dX10_make_15 2 rfl ?_
    refine gg_getR (k' := 147) rfl gf_RX10_15 dX10_make_16 sh_145 pl_145 (by decide) (by decide) rr_145_1 ?_
    refine gg_iload_n dX10_make_19 3 rfl ?_
    refine gg_aaldj (t := 6) f (k' := (148 + f)) dX10_make_20 sh_147 (by decide) pl_147 (by decide) rfl hf (rr_147 hf) ?_
    refine gg_iload_n dX10_make_21 4 rfl ?_
    refine gg_ialdj i dX10_make_22 (rs_147 hf) (rl_147 hf) (by decide) rfl (by omega) ?_
    refine gg_toI (b := (K i : Int)) (hM0.2 i hi).1 ?_
    obtain hk | hk | hk | hk | hk | hk | hk | hk := (by omega : K i = 0 ∨ K i = 1 ∨ K i = 2 ∨ K i = 3 ∨ K i = 4 ∨ K i = 5 ∨ K i = 6 ∨ K i = 7)
    · refine gg_toI (b := 0) (by omega) ?_
      refine gg_tsw (off := 41) (tgt := 64) dX10_make_23 (by decide) (by decide) rfl (by decide) ?_
      rw [hk] at hL
      simp [gPar] at hL
      have z0 : gMr (gCv n K N Z i s) s s I0 J0 I0 J0 := gMr_0 hs
      refine gg_aload_n dX10_make_64 2 rfl ?_
      refine gg_getR (k' := 193) rfl gf_RX10_48 dX10_make_65 sh_145 pl_145 (by decide) (by decide) rr_145_21 ?_
      refine gg_aload_n dX10_make_68 2 rfl ?_
      refine gg_getI rfl gf_RX10_302 dX10_make_69 sh_145 pl_145 (by decide) (by decide) ?_
      refine gg_toI (b := (s : Int)) hs ?_
      refine gg_aload_n dX10_make_72 2 rfl ?_
      refine gg_getR (k' := 160) rfl gf_RX10_20 dX10_make_73 sh_145 pl_145 (by decide) (by decide) rr_145_2 ?_
      refine gg_iload_n dX10_make_76 3 rfl ?_
      refine gg_aaldj (t := 7) f (k' := (161 + f)) dX10_make_77 sh_160 (by decide) pl_160 (by decide) rfl hf (rr_160 hf) ?_
      refine gg_iload_n dX10_make_78 4 rfl ?_
      refine gg_laldj i dX10_make_79 (rs_160 hf) (rl_160 hf) (by decide) rfl (by omega) ?_
      refine gg_toL (b := N i) (hM0.2 i hi).2.1 ?_
      refine gg_lastj s dX10_make_80 sh_193 pl_193 (by decide) rfl (by omega) ?_
      refine gg_aload_n dX10_make_81 2 rfl ?_
      refine gg_iconst dX10_make_82 ?_
      refine gg_iconst dX10_make_83 ?_
      refine gg_callVv (own := RX10) (yt := gm_X10_line) rfl gl_RX10_305 gk_X10_line gr_X10_line dX10_make_84 (c_X10_line (d := d - 1) (s := s) (w := 0) hs (by omega) (by decide)) sh_145 pl_145 (by decide) rfl rfl rfl (Nat.le_of_ble_eq_true rfl) (by show _ ≤ d; omega) ⟨Nat.le_refl _, Nat.le_refl _⟩ (fun μ' hc => ?_)
      obtain rfl := hc
      have q1 : gMr (gCv n K N Z i s) s (s + 1) I0 J0 _ _ := gMr_push (I := I0) (J := J0) (x := N i) (gCv_0 hi hk)
      refine gg_goto (tgt := 283) dX10_make_87 (by decide) ?_
      refine gg_vretv dX10_make_283 rfl ⟨rfl, rfl⟩ ?_
      refine ⟨_, _, rfl, ?_⟩
      rw [show s + gLc n K Z i = s + 1 by omega]
      exact q1
    · refine gg_toI (b := 1) (by omega) ?_
      refine gg_tsw (off := 67) (tgt := 90) dX10_make_23 (by decide) (by decide) rfl (by decide) ?_
      rw [hk] at hL
      simp [gPar] at hL
      have z0 : gMr (gCv n K N Z i s) s s I0 J0 I0 J0 := gMr_0 hs
      refine gg_aload_n dX10_make_90 2 rfl ?_
      refine gg_iconst dX10_make_91 ?_
      refine gg_iload dX10_make_92 0 rfl ?_
      refine gg_callVv (own := RX10) (yt := gm_X10_line) rfl gl_RX10_305 gk_X10_line gr_X10_line dX10_make_94 (c_X10_line (d := d - 1) (s := s) (w := (10 + gl2i (N i))) hs (by omega) (by omega)) sh_145 pl_145 (by decide) rfl rfl rfl (Nat.le_of_ble_eq_true rfl) (by show _ ≤ d; omega) ⟨Nat.le_refl _, Nat.le_refl _⟩ (fun μ' hc => ?_)
      obtain rfl := hc
      have q1 := gMr_line (w := (10 + gl2i (N i))) z0 (gCv_1 hi hk) (by have := gdg hW hi hk; omega)
      refine gg_goto (tgt := 283) dX10_make_97 (by decide) ?_
      refine gg_vretv dX10_make_283 rfl ⟨rfl, rfl⟩ ?_
      refine ⟨_, _, rfl, ?_⟩
      rw [show s + gLc n K Z i = s + 1 by omega]
      exact q1
    · refine gg_toI (b := 2) (by omega) ?_
      refine gg_tsw (off := 77) (tgt := 100) dX10_make_23 (by decide) (by decide) rfl (by decide) ?_
      rw [hk] at hL
      simp [gPar] at hL
      have z0 : gMr (gCv n K N Z i s) s s I0 J0 I0 J0 := gMr_0 hs
      refine gg_aload_n dX10_make_100 2 rfl ?_
      refine gg_iload_n dX10_make_101 3 rfl ?_
      refine gg_iload_n dX10_make_102 1 rfl ?_
      refine gg_callVv (own := RX10) (yt := gm_X10_make) rfl gl_RX10_308 gk_X10_make gr_X10_make dX10_make_103 (ih (i + 1) (hc1 (by rw [hk]; decide)) (by have := he1 (by rw [hk]; decide); omega) (d - 1) (by omega) I0 J0 s (gMt_r hf z0 hM0) z0.1 (by omega)) sh_145 pl_145 (by decide) rfl rfl rfl (Nat.le_of_ble_eq_true rfl) (by show _ ≤ d; omega) ⟨Nat.le_refl _, Nat.le_refl _⟩ (fun μ' hc => ?_)
      obtain ⟨I3, J3, rfl, g3⟩ := hc
      have q1 := gMr_app z0 g3 (fun q a b => by rw [(gKd_eq hW hi (Or.inl ⟨by rw [hk]; decide, rfl, rfl⟩) a b).1])
      refine gg_aload_n dX10_make_106 2 rfl ?_
      refine gg_iconst dX10_make_107 ?_
      refine gg_iconst dX10_make_108 ?_
      refine gg_callVv (own := RX10) (yt := gm_X10_line) rfl gl_RX10_305 gk_X10_line gr_X10_line dX10_make_109 (c_X10_line (d := d - 1) (s := (s + gLc n K Z (i + 1))) (w := 20) q1.1 (by omega) (by decide)) sh_145 pl_145 (by decide) rfl rfl rfl (Nat.le_of_ble_eq_true rfl) (by show _ ≤ d; omega) ⟨Nat.le_refl _, Nat.le_refl _⟩ (fun μ' hc => ?_)
      obtain rfl := hc
      have q2 := gMr_line (w := 20) q1 (gCv_2 hi hk (by omega)) (by decide)
      refine gg_goto (tgt := 283) dX10_make_112 (by decide) ?_
      refine gg_vretv dX10_make_283 rfl ⟨rfl, rfl⟩ ?_
      refine ⟨_, _, rfl, ?_⟩
      rw [show s + gLc n K Z i = s + gLc n K Z (i + 1) + 1 by omega]
      exact q2
    · refine gg_toI (b := 3) (by omega) ?_
      refine gg_tsw (off := 92) (tgt := 115) dX10_make_23 (by decide) (by decide) rfl (by decide) ?_
      rw [hk] at hL
      simp [gPar] at hL
      have z0 : gMr (gCv n K N Z i s) s s I0 J0 I0 J0 := gMr_0 hs
      refine gg_aload_n dX10_make_115 2 rfl ?_
      refine gg_iload_n dX10_make_116 3 rfl ?_
      refine gg_iload_n dX10_make_117 1 rfl ?_
      refine gg_callVv (own := RX10) (yt := gm_X10_make) rfl gl_RX10_308 gk_X10_make gr_X10_make dX10_make_118 (ih (i + 1) (hc1 (by rw [hk]; decide)) (by have := he2 (by rw [hk]; decide); omega) (d - 1) (by omega) I0 J0 s (gMt_r hf z0 hM0) z0.1 (by omega)) sh_145 pl_145 (by decide) rfl rfl rfl (Nat.le_of_ble_eq_true rfl) (by show _ ≤ d; omega) ⟨Nat.le_refl _, Nat.le_refl _⟩ (fun μ' hc => ?_)
      obtain ⟨I6, J6, rfl, g6⟩ := hc
      have q1 := gMr_app z0 g6 (fun q a b => by rw [(gKd_eq hW hi (Or.inl ⟨by rw [hk]; decide, rfl, rfl⟩) a b).1])
      refine gg_aload_n dX10_make_121 2 rfl ?_
      refine gg_iload_n dX10_make_122 3 rfl ?_
      refine gg_aload_n dX10_make_123 2 rfl ?_
      refine gg_iload_n dX10_make_124 3 rfl ?_
      refine gg_iload_n dX10_make_125 4 rfl ?_
      refine gg_callVi (own := RX10) (yt := gm_X10_second) rfl gl_RX10_109 gk_X10_second gr_X10_second dX10_make_126 (c_X10_second (d := d - 1) hf (gMt_r hf q1 hM0) hW (i := i) (hc1 (by rw [hk]; decide))) sh_145 pl_145 (by decide) rfl rfl rfl (Nat.le_of_ble_eq_true rfl) (by show _ ≤ d; omega) ⟨Nat.le_refl _, Nat.le_refl _⟩ (fun e8 μ' hc => ?_)
      obtain ⟨rfl, rfl⟩ := hc
      refine gg_callVv (own := RX10) (yt := gm_X10_make) rfl gl_RX10_308 gk_X10_make gr_X10_make dX10_make_129 (ih (gPt Z i 1) (hc2 (by rw [hk]; decide)) (by have := he2 (by rw [hk]; decide); omega) (d - 1) (by omega) I6 J6 (s + gLc n K Z (i + 1)) (gMt_r hf q1 hM0) q1.1 (by omega)) sh_145 pl_145 (by decide) rfl rfl rfl (Nat.le_of_ble_eq_true rfl) (by show _ ≤ d; omega) ⟨Nat.le_refl _, Nat.le_refl _⟩ (fun μ' hc => ?_)
      obtain ⟨I9, J9, rfl, g9⟩ := hc
      have q2 := gMr_app q1 g9 (fun q a b => by rw [(gKd_eq hW hi (Or.inr (Or.inl ⟨by rw [hk]; decide, rfl, by rw [hk]; rfl⟩)) a b).1])
      refine gg_aload_n dX10_make_132 2 rfl ?_
      refine gg_aload_n dX10_make_133 2 rfl ?_
      refine gg_getR (k' := 147) rfl gf_RX10_15 dX10_make_134 sh_145 pl_145 (by decide) (by decide) rr_145_1 ?_
      refine gg_iload_n dX10_make_137 3 rfl ?_
      refine gg_aaldj (t := 6) f (k' := (148 + f)) dX10_make_138 sh_147 (by decide) pl_147 (by decide) rfl hf (rr_147 hf) ?_
      refine gg_iload_n dX10_make_139 4 rfl ?_
      refine gg_ialdj i dX10_make_140 (rs_147 hf) (rl_147 hf) (by decide) rfl (by omega) ?_
      refine gg_toI (b := 3) (by rw [((gMt_r hf q2 hM0).2 i hi).1, hk]; rfl) ?_
      refine gg_iconst dX10_make_141 ?_
      refine gg_icmp_ne_f (tgt := 149) dX10_make_142 (by decide) (by decide) (by decide) ?_
      refine gg_iconst dX10_make_145 ?_
      refine gg_goto (tgt := 150) dX10_make_146 (by decide) ?_
      refine gg_iconst dX10_make_150 ?_
      refine gg_callVv (own := RX10) (yt := gm_X10_line) rfl gl_RX10_305 gk_X10_line gr_X10_line dX10_make_151 (c_X10_line (d := d - 1) (s := (s + gLc n K Z (i + 1) + gLc n K Z (gPt Z i 1))) (w := 30) q2.1 (by omega) (by decide)) sh_145 pl_145 (by decide) rfl rfl rfl (Nat.le_of_ble_eq_true rfl) (by show _ ≤ d; omega) ⟨Nat.le_refl _, Nat.le_refl _⟩ (fun μ' hc => ?_)
      obtain rfl := hc
      have q3 := gMr_line (w := 30) q2 (gCv_3 hi hk (by omega) (by omega)) (by decide)
      refine gg_goto (tgt := 283) dX10_make_154 (by decide) ?_
      refine gg_vretv dX10_make_283 rfl ⟨rfl, rfl⟩ ?_
      refine ⟨_, _, rfl, ?_⟩
      rw [show s + gLc n K Z i = (s + gLc n K Z (i + 1) + gLc n K Z (gPt Z i 1)) + 1 by omega]
      exact q3
    · refine gg_toI (b := 4) (by omega) ?_
      refine gg_tsw (off := 92) (tgt := 115) dX10_make_23 (by decide) (by decide) rfl (by decide) ?_
      rw [hk] at hL
      simp [gPar] at hL
      have z0 : gMr (gCv n K N Z i s) s s I0 J0 I0 J0 := gMr_0 hs
      refine gg_aload_n dX10_make_115 2 rfl ?_
      refine gg_iload_n dX10_make_116 3 rfl ?_
      refine gg_iload_n dX10_make_117 1 rfl ?_
      refine gg_callVv (own := RX10) (yt := gm_X10_make) rfl gl_RX10_308 gk_X10_make gr_X10_make dX10_make_118 (ih (i + 1) (hc1 (by rw [hk]; decide)) (by have := he2 (by rw [hk]; decide); omega) (d - 1) (by omega) I0 J0 s (gMt_r hf z0 hM0) z0.1 (by omega)) sh_145 pl_145 (by decide) rfl rfl rfl (Nat.le_of_ble_eq_true rfl) (by show _ ≤ d; omega) ⟨Nat.le_refl _, Nat.le_refl _⟩ (fun μ' hc => ?_)
      obtain ⟨I12, J12, rfl, g12⟩ := hc
      have q1 := gMr_app z0 g12 (fun q a b => by rw [(gKd_eq hW hi (Or.inl ⟨by rw [hk]; decide, rfl, rfl⟩) a b).1])
      refine gg_aload_n dX10_make_121 2 rfl ?_
      refine gg_iload_n dX10_make_122 3 rfl ?_
      refine gg_aload_n dX10_make_123 2 rfl ?_
      refine gg_iload_n dX10_make_124 3 rfl ?_
      refine gg_iload_n dX10_make_125 4 rfl ?_
      refine gg_callVi (own := RX10) (yt := gm_X10_second) rfl gl_RX10_109 gk_X10_second gr_X10_second dX10_make_126 (c_X10_second (d := d - 1) hf (gMt_r hf q1 hM0) hW (i := i) (hc1 (by rw [hk]; decide))) sh_145 pl_145 (by decide) rfl rfl rfl (Nat.le_of_ble_eq_true rfl) (by show _ ≤ d; omega) ⟨Nat.le_refl _, Nat.le_refl _⟩ (fun e14 μ' hc => ?_)
      obtain ⟨rfl, rfl⟩ := hc
      refine gg_callVv (own := RX10) (yt := gm_X10_make) rfl gl_RX10_308 gk_X10_make gr_X10_make dX10_make_129 (ih (gPt Z i 1) (hc2 (by rw [hk]; decide)) (by have := he2 (by rw [hk]; decide); omega) (d - 1) (by omega) I12 J12 (s + gLc n K Z (i + 1)) (gMt_r hf q1 hM0) q1.1 (by omega)) sh_145 pl_145 (by decide) rfl rfl rfl (Nat.le_of_ble_eq_true rfl) (by show _ ≤ d; omega) ⟨Nat.le_refl _, Nat.le_refl _⟩ (fun μ' hc => ?_)
      obtain ⟨I15, J15, rfl, g15⟩ := hc
      have q2 := gMr_app q1 g15 (fun q a b => by rw [(gKd_eq hW hi (Or.inr (Or.inl ⟨by rw [hk]; decide, rfl, by rw [hk]; rfl⟩)) a b).1])
      refine gg_aload_n dX10_make_132 2 rfl ?_
      refine gg_aload_n dX10_make_133 2 rfl ?_
      refine gg_getR (k' := 147) rfl gf_RX10_15 dX10_make_134 sh_145 pl_145 (by decide) (by decide) rr_145_1 ?_
      refine gg_iload_n dX10_make_137 3 rfl ?_
      refine gg_aaldj (t := 6) f (k' := (148 + f)) dX10_make_138 sh_147 (by decide) pl_147 (by decide) rfl hf (rr_147 hf) ?_
      refine gg_iload_n dX10_make_139 4 rfl ?_
      refine gg_ialdj i dX10_make_140 (rs_147 hf) (rl_147 hf) (by decide) rfl (by omega) ?_
      refine gg_toI (b := 4) (by rw [((gMt_r hf q2 hM0).2 i hi).1, hk]; rfl) ?_
      refine gg_iconst dX10_make_141 ?_
      refine gg_icmp_ne_t (tgt := 149) dX10_make_142 (by decide) (by decide) (by decide) ?_
      refine gg_iconst dX10_make_149 ?_
      refine gg_iconst dX10_make_150 ?_
      refine gg_callVv (own := RX10) (yt := gm_X10_line) rfl gl_RX10_305 gk_X10_line gr_X10_line dX10_make_151 (c_X10_line (d := d - 1) (s := (s + gLc n K Z (i + 1) + gLc n K Z (gPt Z i 1))) (w := 40) q2.1 (by omega) (by decide)) sh_145 pl_145 (by decide) rfl rfl rfl (Nat.le_of_ble_eq_true rfl) (by show _ ≤ d; omega) ⟨Nat.le_refl _, Nat.le_refl _⟩ (fun μ' hc => ?_)
      obtain rfl := hc
      have q3 := gMr_line (w := 40) q2 (gCv_4 hi hk (by omega) (by omega)) (by decide)
      refine gg_goto (tgt := 283) dX10_make_154 (by decide) ?_
      refine gg_vretv dX10_make_283 rfl ⟨rfl, rfl⟩ ?_
      refine ⟨_, _, rfl, ?_⟩
      rw [show s + gLc n K Z i = (s + gLc n K Z (i + 1) + gLc n K Z (gPt Z i 1)) + 1 by omega]
      exact q3
    · refine gg_toI (b := 5) (by omega) ?_
      refine gg_tsw (off := 134) (tgt := 157) dX10_make_23 (by decide) (by decide) rfl (by decide) ?_
      rw [hk] at hL
      simp [gPar] at hL
      have z0 : gMr (gCv n K N Z i s) s s I0 J0 I0 J0 := gMr_0 hs
      refine gg_aload_n dX10_make_157 2 rfl ?_
      refine gg_iload_n dX10_make_158 3 rfl ?_
      refine gg_iload_n dX10_make_159 1 rfl ?_
      refine gg_callVv (own := RX10) (yt := gm_X10_make) rfl gl_RX10_308 gk_X10_make gr_X10_make dX10_make_160 (ih (i + 1) (hc1 (by rw [hk]; decide)) (by have := he1 (by rw [hk]; decide); omega) (d - 1) (by omega) I0 J0 s (gMt_r hf z0 hM0) z0.1 (by omega)) sh_145 pl_145 (by decide) rfl rfl rfl (Nat.le_of_ble_eq_true rfl) (by show _ ≤ d; omega) ⟨Nat.le_refl _, Nat.le_refl _⟩ (fun μ' hc => ?_)
      obtain ⟨I18, J18, rfl, g18⟩ := hc
      have q1 := gMr_app z0 g18 (fun q a b => by rw [(gKd_eq hW hi (Or.inl ⟨by rw [hk]; decide, rfl, rfl⟩) a b).1])
      refine gg_aload_n dX10_make_163 2 rfl ?_
      refine gg_iconst dX10_make_164 ?_
      refine gg_iload dX10_make_165 0 rfl ?_
      refine gg_callVv (own := RX10) (yt := gm_X10_line) rfl gl_RX10_305 gk_X10_line gr_X10_line dX10_make_167 (c_X10_line (d := d - 1) (s := (s + gLc n K Z (i + 1))) (w := (50 + gl2i (N i))) q1.1 (by omega) (by omega)) sh_145 pl_145 (by decide) rfl rfl rfl (Nat.le_of_ble_eq_true rfl) (by show _ ≤ d; omega) ⟨Nat.le_refl _, Nat.le_refl _⟩ (fun μ' hc => ?_)
      obtain rfl := hc
      have q2 := gMr_line (w := (50 + gl2i (N i))) q1 (gCv_5 hi hk (by omega)) (by have := gdig hW hi hk; omega)
      refine gg_goto (tgt := 283) dX10_make_170 (by decide) ?_
      refine gg_vretv dX10_make_283 rfl ⟨rfl, rfl⟩ ?_
      refine ⟨_, _, rfl, ?_⟩
      rw [show s + gLc n K Z i = s + gLc n K Z (i + 1) + 1 by omega]
      exact q2
    · refine gg_toI (b := 6) (by omega) ?_
      refine gg_tsw (off := 150) (tgt := 173) dX10_make_23 (by decide) (by decide) rfl (by decide) ?_
      rw [hk] at hL
      simp [gPar] at hL
      obtain ⟨fo, hfo⟩ : ∃ fo : Nat, fo = s + gLc n K Z (i + 1) := ⟨_, rfl⟩
      obtain ⟨en, hen⟩ : ∃ en : Nat, en = s + gLc n K Z (i + 1) + 1 + gLc n K Z (gPt Z i 1) := ⟨_, rfl⟩
      have z0 : gMr (fun q => if q = fo then (60, 0) else if q = en then (70, 0) else gCv n K N Z i s q) s s I0 J0 I0 J0 := gMr_0 hs
      refine gg_aload_n dX10_make_173 2 rfl ?_
      refine gg_iload_n dX10_make_174 3 rfl ?_
      refine gg_iload_n dX10_make_175 1 rfl ?_
      refine gg_callVv (own := RX10) (yt := gm_X10_make) rfl gl_RX10_308 gk_X10_make gr_X10_make dX10_make_176 (ih (i + 1) (hc1 (by rw [hk]; decide)) (by have := he3 (by rw [hk]; decide); omega) (d - 1) (by omega) I0 J0 s (gMt_r hf z0 hM0) z0.1 (by omega)) sh_145 pl_145 (by decide) rfl rfl rfl (Nat.le_of_ble_eq_true rfl) (by show _ ≤ d; omega) ⟨Nat.le_refl _, Nat.le_refl _⟩ (fun μ' hc => ?_)
      obtain ⟨I21, J21, rfl, g21⟩ := hc
      have q1 := gMr_app z0 g21 (fun q a b => by rw [if_neg (by omega), if_neg (by omega), (gKd_eq hW hi (Or.inl ⟨by rw [hk]; decide, rfl, rfl⟩) a b).1])
      refine gg_aload_n dX10_make_179 2 rfl ?_
      refine gg_getI rfl gf_RX10_302 dX10_make_180 sh_145 pl_145 (by decide) (by decide) ?_
      refine gg_toI (b := (fo : Int)) (by rw [q1.1]; omega) ?_
      refine gg_istore (ls' := [(5, .int (iv (fo : Int))), (4, .int (iv (gl2i (N i)))), (3, .int (iv ((i + 1 : Nat) : Int))), (0, .ref (gad (gSS ad) 145)), (1, .int (iv (f : Int))), (2, .int (iv (i : Int)))]) dX10_make_183 (by decide) rfl ?_
      refine gg_aload_n dX10_make_185 3 rfl ?_
      refine gg_bipush dX10_make_186 (by decide) ?_
      refine gg_iconst dX10_make_188 ?_
      refine gg_callVv (own := RX10) (yt := gm_X10_line) rfl gl_RX10_305 gk_X10_line gr_X10_line dX10_make_189 (c_X10_line (d := d - 1) (s := (s + gLc n K Z (i + 1))) (w := 60) q1.1 (by omega) (by decide)) sh_145 pl_145 (by decide) rfl rfl rfl (Nat.le_of_ble_eq_true rfl) (by show _ ≤ d; omega) ⟨Nat.le_refl _, Nat.le_refl _⟩ (fun μ' hc => ?_)
      obtain rfl := hc
      have q2 := gMr_line (w := 60) q1 (by show (if (s + gLc n K Z (i + 1)) = fo then ((60, 0) : Int × Int64) else _) = _; rw [if_pos (by omega)]) (by decide)
      refine gg_aload_n dX10_make_192 3 rfl ?_
      refine gg_iload_n dX10_make_193 4 rfl ?_
      refine gg_aload_n dX10_make_194 3 rfl ?_
      refine gg_iload_n dX10_make_195 4 rfl ?_
      refine gg_iload_n dX10_make_196 5 rfl ?_
      refine gg_callVi (own := RX10) (yt := gm_X10_second) rfl gl_RX10_109 gk_X10_second gr_X10_second dX10_make_197 (c_X10_second (d := d - 1) hf (gMt_r hf q2 hM0) hW (i := i) (hc1 (by rw [hk]; decide))) sh_145 pl_145 (by decide) rfl rfl rfl (Nat.le_of_ble_eq_true rfl) (by show _ ≤ d; omega) ⟨Nat.le_refl _, Nat.le_refl _⟩ (fun e24 μ' hc => ?_)
      obtain ⟨rfl, rfl⟩ := hc
      refine gg_callVv (own := RX10) (yt := gm_X10_make) rfl gl_RX10_308 gk_X10_make gr_X10_make dX10_make_200 (ih (gPt Z i 1) (hc2 (by rw [hk]; decide)) (by have := he3 (by rw [hk]; decide); omega) (d - 1) (by omega) (gu (gu I21 192 (s + gLc n K Z (i + 1)) 60) 145 22 (((s + gLc n K Z (i + 1)) + 1 : Nat) : Int)) J21 (s + gLc n K Z (i + 1) + 1) (gMt_r hf q2 hM0) q2.1 (by omega)) sh_145 pl_145 (by decide) rfl rfl rfl (Nat.le_of_ble_eq_true rfl) (by show _ ≤ d; omega) ⟨Nat.le_refl _, Nat.le_refl _⟩ (fun μ' hc => ?_)
      obtain ⟨I25, J25, rfl, g25⟩ := hc
      have q3 := gMr_app q2 g25 (fun q a b => by rw [if_neg (by omega), if_neg (by omega), (gKd_eq hW hi (Or.inr (Or.inl ⟨by rw [hk]; decide, rfl, by rw [hk]; rfl⟩)) a b).1])
      refine gg_aload_n dX10_make_203 3 rfl ?_
      refine gg_getI rfl gf_RX10_302 dX10_make_204 sh_145 pl_145 (by decide) (by decide) ?_
      refine gg_toI (b := (en : Int)) (by rw [q3.1]; omega) ?_
      refine gg_istore (ls' := [(6, .int (iv (en : Int))), (5, .int (iv (fo : Int))), (4, .int (iv (gl2i (N i)))), (3, .int (iv ((i + 1 : Nat) : Int))), (0, .ref (gad (gSS ad) 145)), (1, .int (iv (f : Int))), (2, .int (iv (i : Int)))]) dX10_make_207 (by decide) rfl ?_
      refine gg_aload_n dX10_make_209 4 rfl ?_
      refine gg_bipush dX10_make_210 (by decide) ?_
      refine gg_iconst dX10_make_212 ?_
      refine gg_callVv (own := RX10) (yt := gm_X10_line) rfl gl_RX10_305 gk_X10_line gr_X10_line dX10_make_213 (c_X10_line (d := d - 1) (s := (s + gLc n K Z (i + 1) + 1 + gLc n K Z (gPt Z i 1))) (w := 70) q3.1 (by omega) (by decide)) sh_145 pl_145 (by decide) rfl rfl rfl (Nat.le_of_ble_eq_true rfl) (by show _ ≤ d; omega) ⟨Nat.le_refl _, Nat.le_refl _⟩ (fun μ' hc => ?_)
      obtain rfl := hc
      have q4 := gMr_line (w := 70) q3 (by show (if (s + gLc n K Z (i + 1) + 1 + gLc n K Z (gPt Z i 1)) = fo then ((60, 0) : Int × Int64) else if (s + gLc n K Z (i + 1) + 1 + gLc n K Z (gPt Z i 1)) = en then (70, 0) else _) = _; rw [if_neg (by omega), if_pos (by omega)]) (by decide)
      refine gg_aload_n dX10_make_216 4 rfl ?_
      refine gg_getR (k' := 192) rfl gf_RX10_45 dX10_make_217 sh_145 pl_145 (by decide) (by decide) rr_145_20 ?_
      refine gg_iload dX10_make_220 1 rfl ?_
      refine gg_dup2 dX10_make_222 rfl rfl ?_
      refine gg_ialdj fo dX10_make_223 sh_192 pl_192 (by decide) rfl (by omega) ?_
      refine gg_toI (b := 60) (by have := (q4.2.2.1 fo (by omega) (by omega)).1; rw [this]; show (if fo = fo then ((60, 0) : Int × Int64) else _).1 = 60; rw [if_pos rfl]) ?_
      refine gg_bipush dX10_make_224 (by decide) ?_
      refine gg_aload_n dX10_make_226 4 rfl ?_
      refine gg_getI rfl gf_RX10_302 dX10_make_227 sh_145 pl_145 (by decide) (by decide) ?_
      refine gg_toI (b := (((s + gLc n K Z (i + 1) + 1 + gLc n K Z (gPt Z i 1)) + 1 : Nat) : Int)) q4.1 ?_
      refine gg_imul dX10_make_230 ?_
      refine gg_iadd dX10_make_231 ?_
      refine gg_toI (b := (60 + 100 * ((s + gLc n K Z (i + 1) + 1 + gLc n K Z (gPt Z i 1) + 1 : Nat) : Int))) (by omega) ?_
      refine gg_iastj fo dX10_make_232 sh_192 pl_192 (by decide) rfl (by omega) ?_
      have q5 := gMr_patch (m := fo) (w := (60 + 100 * ((s + gLc n K Z (i + 1) + 1 + gLc n K Z (gPt Z i 1) + 1 : Nat) : Int))) (x := 0) (P' := (fun q => if q = en then (70, 0) else gCv n K N Z i s q)) q4 (by omega) (by omega) (fun q hq => by show _ = (if q = fo then ((60, 0) : Int × Int64) else _); rw [if_neg hq]) (by show (if fo = en then ((70, 0) : Int × Int64) else gCv n K N Z i s fo) = _; rw [if_neg (by omega), gCv_6a hi hk hfo])
      refine gg_aload_n dX10_make_233 4 rfl ?_
      refine gg_iload_n dX10_make_234 5 rfl ?_
      refine gg_aload_n dX10_make_235 4 rfl ?_
      refine gg_iload_n dX10_make_236 5 rfl ?_
      refine gg_iload_n dX10_make_237 6 rfl ?_
      refine gg_callVi (own := RX10) (yt := gm_X10_third) rfl gl_RX10_233 gk_X10_third gr_X10_third dX10_make_238 (c_X10_third (d := d - 1) hf (gMt_r hf q5 hM0) hW (i := i) (hc1 (by rw [hk]; decide)) (hc2 (by rw [hk]; decide)) (by omega)) sh_145 pl_145 (by decide) rfl rfl rfl (Nat.le_of_ble_eq_true rfl) (by show _ ≤ d; omega) ⟨Nat.le_refl _, Nat.le_refl _⟩ (fun e28 μ' hc => ?_)
      obtain ⟨rfl, rfl⟩ := hc
      refine gg_callVv (own := RX10) (yt := gm_X10_make) rfl gl_RX10_308 gk_X10_make gr_X10_make dX10_make_241 (ih (gPt Z i 2) (hc3 (by rw [hk]; decide)) (by have := he3 (by rw [hk]; decide); omega) (d - 1) (by omega) (gu (gu (gu I25 192 (s + gLc n K Z (i + 1) + 1 + gLc n K Z (gPt Z i 1)) 70) 145 22 (((s + gLc n K Z (i + 1) + 1 + gLc n K Z (gPt Z i 1)) + 1 : Nat) : Int)) 192 fo (60 + 100 * ((s + gLc n K Z (i + 1) + 1 + gLc n K Z (gPt Z i 1) + 1 : Nat) : Int))) J25 (s + gLc n K Z (i + 1) + 1 + gLc n K Z (gPt Z i 1) + 1) (gMt_r hf q5 hM0) q5.1 (by omega)) sh_145 pl_145 (by decide) rfl rfl rfl (Nat.le_of_ble_eq_true rfl) (by show _ ≤ d; omega) ⟨Nat.le_refl _, Nat.le_refl _⟩ (fun μ' hc => ?_)
      obtain ⟨I29, J29, rfl, g29⟩ := hc
      have q6 := gMr_app q5 g29 (fun q a b => by rw [if_neg (by omega), (gKd_eq hW hi (Or.inr (Or.inr ⟨by rw [hk]; decide, rfl, rfl⟩)) a b).1])
      refine gg_aload_n dX10_make_244 4 rfl ?_
      refine gg_getR (k' := 192) rfl gf_RX10_45 dX10_make_245 sh_145 pl_145 (by decide) (by decide) rr_145_20 ?_
      refine gg_iload dX10_make_248 0 rfl ?_
      refine gg_dup2 dX10_make_250 rfl rfl ?_
      refine gg_ialdj en dX10_make_251 sh_192 pl_192 (by decide) rfl (by omega) ?_
      refine gg_toI (b := 70) (by have := (q6.2.2.1 en (by omega) (by omega)).1; rw [this]; show (if en = en then ((70, 0) : Int × Int64) else _).1 = 70; rw [if_pos rfl]) ?_
      refine gg_bipush dX10_make_252 (by decide) ?_
      refine gg_aload_n dX10_make_254 4 rfl ?_
      refine gg_getI rfl gf_RX10_302 dX10_make_255 sh_145 pl_145 (by decide) (by decide) ?_
      refine gg_toI (b := ((s + gLc n K Z (i + 1) + 1 + gLc n K Z (gPt Z i 1) + 1 + gLc n K Z (gPt Z i 2) : Nat) : Int)) q6.1 ?_
      refine gg_imul dX10_make_258 ?_
      refine gg_iadd dX10_make_259 ?_
      refine gg_toI (b := (70 + 100 * ((s + gLc n K Z i : Nat) : Int))) (by omega) ?_
      refine gg_iastj en dX10_make_260 sh_192 pl_192 (by decide) rfl (by omega) ?_
      have q7 := gMr_patch (m := en) (w := (70 + 100 * ((s + gLc n K Z i : Nat) : Int))) (x := 0) (P' := gCv n K N Z i s) q6 (by omega) (by omega) (fun q hq => by show _ = (if q = en then ((70, 0) : Int × Int64) else _); rw [if_neg hq]) (gCv_6b hi hk hen)
      refine gg_goto (tgt := 283) dX10_make_261 (by decide) ?_
      refine gg_vretv dX10_make_283 rfl ⟨rfl, rfl⟩ ?_
      refine ⟨_, _, rfl, ?_⟩
      rw [show s + gLc n K Z (i + 1) + 1 + gLc n K Z (gPt Z i 1) + 1 + gLc n K Z (gPt Z i 2) = s + gLc n K Z i by omega] at q7
      exact q7
    · refine gg_toI (b := 7) (by omega) ?_
      refine gg_tsw_out (tgt := 264) dX10_make_23 (by decide) (by decide) (by decide) ?_
      rw [hk] at hL
      simp [gPar] at hL
      have z0 : gMr (gCv n K N Z i s) s s I0 J0 I0 J0 := gMr_0 hs
      refine gg_aload_n dX10_make_264 2 rfl ?_
      refine gg_iload_n dX10_make_265 3 rfl ?_
      refine gg_iload_n dX10_make_266 1 rfl ?_
      refine gg_callVv (own := RX10) (yt := gm_X10_make) rfl gl_RX10_308 gk_X10_make gr_X10_make dX10_make_267 (ih (i + 1) (hc1 (by rw [hk]; decide)) (by have := he1 (by rw [hk]; decide); omega) (d - 1) (by omega) I0 J0 s (gMt_r hf z0 hM0) z0.1 (by omega)) sh_145 pl_145 (by decide) rfl rfl rfl (Nat.le_of_ble_eq_true rfl) (by show _ ≤ d; omega) ⟨Nat.le_refl _, Nat.le_refl _⟩ (fun μ' hc => ?_)
      obtain ⟨I31, J31, rfl, g31⟩ := hc
      have q1 := gMr_app z0 g31 (fun q a b => by rw [(gKd_eq hW hi (Or.inl ⟨by rw [hk]; decide, rfl, rfl⟩) a b).1])
      refine gg_aload_n dX10_make_270 2 rfl ?_
      refine gg_bipush dX10_make_271 (by decide) ?_
      refine gg_iconst dX10_make_273 ?_
      refine gg_callVv (own := RX10) (yt := gm_X10_line) rfl gl_RX10_305 gk_X10_line gr_X10_line dX10_make_274 (c_X10_line (d := d - 1) (s := (s + gLc n K Z (i + 1))) (w := 80) q1.1 (by omega) (by decide)) sh_145 pl_145 (by decide) rfl rfl rfl (Nat.le_of_ble_eq_true rfl) (by show _ ≤ d; omega) ⟨Nat.le_refl _, Nat.le_refl _⟩ (fun μ' hc => ?_)
      obtain rfl := hc
      have q2 := gMr_line (w := 80) q1 (gCv_7a hi hk rfl) (by decide)
      refine gg_aload_n dX10_make_277 2 rfl ?_
      refine gg_iconst dX10_make_278 ?_
      refine gg_iconst dX10_make_279 ?_
      refine gg_callVv (own := RX10) (yt := gm_X10_line) rfl gl_RX10_305 gk_X10_line gr_X10_line dX10_make_280 (c_X10_line (d := d - 1) (s := (s + gLc n K Z (i + 1)) + 1) (w := 40) q2.1 (by omega) (by decide)) sh_145 pl_145 (by decide) rfl rfl rfl (Nat.le_of_ble_eq_true rfl) (by show _ ≤ d; omega) ⟨Nat.le_refl _, Nat.le_refl _⟩ (fun μ' hc => ?_)
      obtain rfl := hc
      have q3 := gMr_line (w := 40) q2 (gCv_7b hi hk (by omega) (by omega)) (by decide)
      refine gg_vretv dX10_make_283 rfl ⟨rfl, rfl⟩ ?_
      refine ⟨_, _, rfl, ?_⟩
      rw [show s + gLc n K Z i = s + gLc n K Z (i + 1) + 1 + 1 by omega]
      exact q3

/-- the reference's stack is as the state's -/
def gyRn (J : Nat → Nat → Int64) (h : Nat) (S : Nat → Int64) : Prop := ∀ q, q < h → J 194 q = S q
set_option maxRecDepth 10000 in
theorem w_X10_runLines {l : Launch} {Γ : gC} {ad : Nat → Nat} {I0 : Nat → Nat → Int} {J0 : Nat → Nat → Int64} {d : Nat} {K : Nat → Nat} {N : Nat → Int64} {Z : Nat → Nat} {n : Nat} (hW : gWf n K N Z) (hn0 : 0 < n) (hsz : I0 145 22 = (gLc n K Z 0 : Int)) (hL : ∀ q, q < gLc n K Z 0 → gMch 192 193 I0 J0 q (gCv n K N Z 0 0 q)) (hd : 5 ≤ d) {T : Nat → Int × Int64} (hTd : T = gCv n K N Z 0 0) {v : Nat → Int} (hvd : v = gv8 (I0 186)) : ∀ (m : Nat) (t k h hi : Nat) (S : Nat → Int64) (I : Nat → Nat → Int) (J : Nat → Nat → Int64), gyM n K N Z (I0 186) + 1 - t < m → (t ≤ gyM n K N Z (I0 186)) → (gyE n K N Z (I0 186) t = (k, h, S, hi)) → (∀ p, p ≠ 145 → I p = I0 p) → (∀ q, q ≠ 24 → q ≠ 25 → I 145 q = I0 145 q) → (∀ p, p ≠ 194 → J p = J0 p) → (I 145 24 = (t : Int)) → (I 145 25 = (hi : Int)) → (gyRn J h S) → gG l Γ gm_X10_runLines (d, 0, 0, 0, 0) 14 [(2, .int (iv (k : Int))), (1, .int (iv (h : Int))), (0, .ref (gad (gSS ad) 145))] [] (gSS ad, I, J) (gDl (fun e μ => ∃ I1 J1, μ = (gSS ad, I1, J1) ∧ (∀ p, p ≠ 145 → I1 p = I0 p) ∧ (∀ q, q ≠ 24 → q ≠ 25 → I1 145 q = I0 145 q) ∧ (∀ p, p ≠ 194 → J1 p = J0 p) ∧ I1 145 25 = (gyHi n K N Z (I0 186) : Int) ∧ I1 145 24 = (gyM n K N Z (I0 186) : Int) ∧ e = gyW n K N Z (I0 186))) := by
  intro m
  induction m with
  | zero => intros; omega
  | succ m ih =>
    intro t k h hi S I J hm ht hx hI hI2 hJ h8 h7 hS
    obtain ⟨hM1, hM2, hM3, hM4⟩ := gyM_is hW hn0 (I0 186)
    have hl4 : gLc n K Z 0 ≤ 400 := by have := (gL_rng hW 0 hn0).2; have := hW.2.1 hn0; have := hW.1; omega
    have hk400 : k ≤ gLc n K Z 0 := by
      by_cases hlt : t < gyM n K N Z (I0 186)
      · have := (hM2 t hlt).1; rw [hx] at this; exact Nat.le_of_lt this
      · have e : t = gyM n K N Z (I0 186) := by omega
        rw [← e, hx] at hM3
        exact Nat.le_of_eq hM3
    refine gg_iload_n dX10_runLines_14 0 rfl ?_
    refine gg_aload_n dX10_runLines_15 2 rfl ?_
    refine gg_getI rfl gf_RX10_302 dX10_runLines_16 sh_145 pl_145 (by decide) (by decide) ?_
    refine gg_toI (b := (gLc n K Z 0 : Int)) ((hI2 22 (by omega) (by omega)).trans hsz) ?_
    refine gg_icmp_ge (tgt := 292) dX10_runLines_19 (by decide) (by have := hk400; omega) (fun hb2 => ?_) (fun hb2 => ?_)
    · have hte : t = gyM n K N Z (I0 186) := by
        by_cases hlt : t < gyM n K N Z (I0 186)
        · have := (hM2 t hlt).1; rw [hx] at this; dsimp only at this; omega
        · omega
      refine gg_aload_n dX10_runLines_292 2 rfl ?_
      refine gg_getR (k' := 194) rfl gf_RX10_51 dX10_runLines_293 sh_145 pl_145 (by decide) (by decide) rr_145_23 ?_
      refine gg_iconst dX10_runLines_296 ?_
      refine gg_laldj 0 dX10_runLines_297 sh_194 pl_194 (by decide) rfl (by omega) ?_
      refine gg_lretl dX10_runLines_298 rfl ⟨rfl, rfl⟩ ?_
      subst hte
      have hx1 : h = 1 := by rw [hx] at hM4; exact hM4
      exact ⟨I, J, rfl, hI, hI2, hJ, by unfold gyHi; rw [hx]; exact h7, h8, by unfold gyW; rw [hx]; exact hS 0 (by omega)⟩
    · have hlt : t < gyM n K N Z (I0 186) := by
        by_cases hlt : t < gyM n K N Z (I0 186)
        · exact hlt
        · have hte : t = gyM n K N Z (I0 186) := by omega
          rw [hte] at hx
          rw [hx] at hM3
          dsimp only at hM3
          omega
      have hgk := hM2 t hlt
      rw [hx, ← hTd] at hgk
      obtain ⟨k1, k2, k3, k4, k5, k6, k7, k8, k9, k10, k11⟩ := hgk
      dsimp only at k1 k2 k3 k4 k5 k6 k7 k8 k9 k10 k11
      obtain ⟨c, hc⟩ : ∃ c, (T k).1 = c := ⟨_, rfl⟩
      have hOc : gyO T k = c / 10 % 10 := by unfold gyO; rw [hc]
      rw [hc] at k2 k3 k5 k6
      obtain ⟨oo, hoo⟩ : ∃ oo : Int, c / 10 % 10 = oo := ⟨_, rfl⟩
      have hm := hL k k1
      rw [← hTd] at hm
      have hv186 : ∀ q, q < 8 → v q = I 186 q := fun q hq => by rw [hvd, gv8_at q hq, hI 186 (by omega)]
      refine gg_aload_n dX10_runLines_22 2 rfl ?_
      refine gg_getR (k' := 192) rfl gf_RX10_45 dX10_runLines_23 sh_145 pl_145 (by decide) (by decide) rr_145_20 ?_
      refine gg_iload_n dX10_runLines_26 0 rfl ?_
      refine gg_ialdj k dX10_runLines_27 sh_192 pl_192 (by decide) rfl (by omega) ?_
      refine gg_toI (b := c) (by rw [hI 192 (by omega)]; exact hm.1.trans hc) ?_
      refine gg_istore_n (ls' := [(3, .int (iv c)), (2, .int (iv (k : Int))), (1, .int (iv (h : Int))), (0, .ref (gad (gSS ad) 145))]) dX10_runLines_28 rfl (by decide) rfl ?_
      refine gg_aload_n dX10_runLines_29 3 rfl ?_
      refine gg_dup dX10_runLines_30 rfl ?_
      refine gg_getI rfl gf_RX10_311 dX10_runLines_31 sh_145 pl_145 (by decide) (by decide) ?_
      refine gg_toI (b := (t : Int)) h8 ?_
      refine gg_iconst dX10_runLines_34 ?_
      refine gg_iadd dX10_runLines_35 ?_
      refine gg_toI (b := ((t + 1 : Nat) : Int)) (by omega) ?_
      refine gg_putI rfl gf_RX10_311 dX10_runLines_36 sh_145 pl_145 (by decide) (by decide) (by decide) (gfit_i _) ?_
      refine gg_iincv (ls' := [(2, .int (iv ((k + 1 : Nat) : Int))), (3, .int (iv c)), (1, .int (iv (h : Int))), (0, .ref (gad (gSS ad) 145))]) dX10_runLines_39 1 rfl (by omega) (by decide) rfl ?_
      refine gg_iload_n dX10_runLines_42 1 rfl ?_
      refine gg_bipush dX10_runLines_43 (by decide) ?_
      refine gg_idiv dX10_runLines_45 (by omega) ?_
      refine gg_bipush dX10_runLines_46 (by decide) ?_
      refine gg_irem dX10_runLines_48 (by omega) ?_
      refine gg_toI (b := oo) (by omega) ?_
      obtain ho | ho | ho | ho | ho | ho | ho | ho | ho := (by omega : oo = 0 ∨ oo = 1 ∨ oo = 2 ∨ oo = 3 ∨ oo = 4 ∨ oo = 5 ∨ oo = 6 ∨ oo = 7 ∨ oo = 8)
      · refine gg_toI (b := 0) (by omega) ?_
        refine gg_tsw (off := 47) (tgt := 96) dX10_runLines_49 (by decide) (by decide) rfl (by decide) ?_
        have hO : gyO T k = 0 := by omega
        refine gg_aload_n dX10_runLines_96 3 rfl ?_
        refine gg_getR (k' := 194) rfl gf_RX10_51 dX10_runLines_97 sh_145 pl_145 (by decide) (by decide) rr_145_23 ?_
        refine gg_iload_n dX10_runLines_100 2 rfl ?_
        refine gg_iincv (ls' := [(1, .int (iv ((h + 1 : Nat) : Int))), (2, .int (iv ((k + 1 : Nat) : Int))), (3, .int (iv c)), (0, .ref (gad (gSS ad) 145))]) dX10_runLines_101 2 rfl (by omega) (by decide) rfl ?_
        refine gg_aload_n dX10_runLines_104 3 rfl ?_
        refine gg_getR (k' := 193) rfl gf_RX10_48 dX10_runLines_105 sh_145 pl_145 (by decide) (by decide) rr_145_21 ?_
        refine gg_iload_n dX10_runLines_108 1 rfl ?_
        refine gg_iconst dX10_runLines_109 ?_
        refine gg_isub dX10_runLines_110 ?_
        refine gg_laldj k dX10_runLines_111 sh_193 pl_193 (by decide) (by omega) (by omega) ?_
        refine gg_toL (b := (T k).2) (by rw [hJ 193 (by omega)]; exact hm.2 (by omega)) ?_
        refine gg_lastj h dX10_runLines_112 sh_194 pl_194 (by decide) rfl (by have := k9 (by omega); omega) ?_
        refine gg_goto (tgt := 277) dX10_runLines_113 (by decide) ?_
        refine gg_aload_n dX10_runLines_277 3 rfl ?_
        refine gg_aload_n dX10_runLines_278 3 rfl ?_
        refine gg_getI rfl gf_RX10_314 dX10_runLines_279 sh_145 pl_145 (by decide) (by decide) ?_
        refine gg_toI (b := (hi : Int)) ((gu_n (by omega)).trans (h7)) ?_
        refine gg_iload_n dX10_runLines_282 0 rfl ?_
        refine gg_mmax rfl gl_RX10_284 dX10_runLines_283 (by omega) (Nat.le_of_ble_eq_true rfl) (by omega) ⟨Nat.le_refl _, Nat.le_refl _⟩ ?_
        refine gg_toI (b := ((max hi (h + 1) : Nat) : Int)) (by omega) ?_
        refine gg_putI rfl gf_RX10_314 dX10_runLines_286 sh_145 pl_145 (by decide) (by decide) (by decide) (gfit_i _) ?_
        refine gg_goto (tgt := 14) dX10_runLines_289 (by decide) ?_
        refine gg_sub [1, 0, 3] rfl ?_
        refine ih (t + 1) ((k + 1)) (h + 1) (max hi (h + 1)) (gyU S h (T k).2) _ _ (by omega) (by omega) ?_ (fun p hp => ((gu_other (by omega)).trans ((gu_other (by omega)).trans (rfl))).trans (hI p hp)) (fun q q1 q2 => (((gu_n (by omega)).trans ((gu_n (by omega)).trans (rfl)))).trans (hI2 q q1 q2)) (fun p hp => ((gv_other (by omega)).trans (rfl)).trans (hJ p hp)) ((gu_n (by omega)).trans (gu_s)) (gu_s) (fun q hq => ?_)
        · rw [gyE_s, hx, ← hTd, ← hvd]; exact gyo_0 hO
        · by_cases hqu : q = h
          · subst hqu; simp [gyU, gv]
          · simp [gyU, gv, hqu]; exact hS q (by omega)
      · refine gg_toI (b := 1) (by omega) ?_
        refine gg_tsw (off := 67) (tgt := 116) dX10_runLines_49 (by decide) (by decide) rfl (by decide) ?_
        have hO : gyO T k = 1 := by omega
        obtain ⟨a, ha⟩ : ∃ a : Nat, c % 10 = (a : Int) := ⟨(c % 10).toNat, by omega⟩
        have hta : (c % 10).toNat = a := by omega
        refine gg_aload_n dX10_runLines_116 3 rfl ?_
        refine gg_getR (k' := 194) rfl gf_RX10_51 dX10_runLines_117 sh_145 pl_145 (by decide) (by decide) rr_145_23 ?_
        refine gg_iload_n dX10_runLines_120 2 rfl ?_
        refine gg_iincv (ls' := [(1, .int (iv ((h + 1 : Nat) : Int))), (2, .int (iv ((k + 1 : Nat) : Int))), (3, .int (iv c)), (0, .ref (gad (gSS ad) 145))]) dX10_runLines_121 2 rfl (by omega) (by decide) rfl ?_
        refine gg_aload_n dX10_runLines_124 3 rfl ?_
        refine gg_getR (k' := 186) rfl gf_RX10_26 dX10_runLines_125 sh_145 pl_145 (by decide) (by decide) rr_145_4 ?_
        refine gg_iload_n dX10_runLines_128 2 rfl ?_
        refine gg_bipush dX10_runLines_129 (by decide) ?_
        refine gg_irem dX10_runLines_131 (by omega) ?_
        refine gg_toI (b := (a : Int)) ha ?_
        refine gg_ialdj a dX10_runLines_132 sh_186 pl_186 (by decide) rfl (by have := k6 (by omega); omega) ?_
        refine gg_toI (b := I 186 a) (gu_n (by omega)) ?_
        refine gg_i2l dX10_runLines_133 ?_
        refine gg_lastj h dX10_runLines_134 sh_194 pl_194 (by decide) rfl (by have := k9 (by omega); omega) ?_
        refine gg_goto (tgt := 277) dX10_runLines_135 (by decide) ?_
        refine gg_aload_n dX10_runLines_277 3 rfl ?_
        refine gg_aload_n dX10_runLines_278 3 rfl ?_
        refine gg_getI rfl gf_RX10_314 dX10_runLines_279 sh_145 pl_145 (by decide) (by decide) ?_
        refine gg_toI (b := (hi : Int)) ((gu_n (by omega)).trans (h7)) ?_
        refine gg_iload_n dX10_runLines_282 0 rfl ?_
        refine gg_mmax rfl gl_RX10_284 dX10_runLines_283 (by omega) (Nat.le_of_ble_eq_true rfl) (by omega) ⟨Nat.le_refl _, Nat.le_refl _⟩ ?_
        refine gg_toI (b := ((max hi (h + 1) : Nat) : Int)) (by omega) ?_
        refine gg_putI rfl gf_RX10_314 dX10_runLines_286 sh_145 pl_145 (by decide) (by decide) (by decide) (gfit_i _) ?_
        refine gg_goto (tgt := 14) dX10_runLines_289 (by decide) ?_
        refine gg_sub [1, 0, 3] rfl ?_
        refine ih (t + 1) ((k + 1)) (h + 1) (max hi (h + 1)) (gyU S h (gi2l (v ((T k).1 % 10).toNat))) _ _ (by omega) (by omega) ?_ (fun p hp => ((gu_other (by omega)).trans ((gu_other (by omega)).trans (rfl))).trans (hI p hp)) (fun q q1 q2 => (((gu_n (by omega)).trans ((gu_n (by omega)).trans (rfl)))).trans (hI2 q q1 q2)) (fun p hp => ((gv_other (by omega)).trans (rfl)).trans (hJ p hp)) ((gu_n (by omega)).trans (gu_s)) (gu_s) (fun q hq => ?_)
        · rw [gyE_s, hx, ← hTd, ← hvd]; exact gyo_1 hO
        · rw [hc, hta, hv186 a (by omega)]
          by_cases hqu : q = h
          · subst hqu; simp [gyU, gv]
          · simp [gyU, gv, hqu]; exact hS q (by omega)
      · refine gg_toI (b := 2) (by omega) ?_
        refine gg_tsw (off := 89) (tgt := 138) dX10_runLines_49 (by decide) (by decide) rfl (by decide) ?_
        have hO : gyO T k = 2 := by omega
        have hh1 := k7 (by omega)
        obtain ⟨u, rfl⟩ : ∃ u, h = u + 1 := ⟨h - 1, by omega⟩
        refine gg_aload_n dX10_runLines_138 3 rfl ?_
        refine gg_getR (k' := 194) rfl gf_RX10_51 dX10_runLines_139 sh_145 pl_145 (by decide) (by decide) rr_145_23 ?_
        refine gg_iload_n dX10_runLines_142 2 rfl ?_
        refine gg_iconst dX10_runLines_143 ?_
        refine gg_isub dX10_runLines_144 ?_
        refine gg_toI (b := (u : Int)) (by omega) ?_
        refine gg_aload_n dX10_runLines_145 3 rfl ?_
        refine gg_getR (k' := 194) rfl gf_RX10_51 dX10_runLines_146 sh_145 pl_145 (by decide) (by decide) rr_145_23 ?_
        refine gg_iload_n dX10_runLines_149 2 rfl ?_
        refine gg_iconst dX10_runLines_150 ?_
        refine gg_isub dX10_runLines_151 ?_
        refine gg_toI (b := (u : Int)) (by omega) ?_
        refine gg_laldj u dX10_runLines_152 sh_194 pl_194 (by decide) rfl (by omega) ?_
        refine gg_lneg dX10_runLines_153 ?_
        refine gg_lastj u dX10_runLines_154 sh_194 pl_194 (by decide) rfl (by omega) ?_
        refine gg_goto (tgt := 277) dX10_runLines_155 (by decide) ?_
        refine gg_aload_n dX10_runLines_277 3 rfl ?_
        refine gg_aload_n dX10_runLines_278 3 rfl ?_
        refine gg_getI rfl gf_RX10_314 dX10_runLines_279 sh_145 pl_145 (by decide) (by decide) ?_
        refine gg_toI (b := (hi : Int)) ((gu_n (by omega)).trans (h7)) ?_
        refine gg_iload_n dX10_runLines_282 2 rfl ?_
        refine gg_mmax rfl gl_RX10_284 dX10_runLines_283 (by omega) (Nat.le_of_ble_eq_true rfl) (by omega) ⟨Nat.le_refl _, Nat.le_refl _⟩ ?_
        refine gg_toI (b := ((max hi (u + 1) : Nat) : Int)) (by omega) ?_
        refine gg_putI rfl gf_RX10_314 dX10_runLines_286 sh_145 pl_145 (by decide) (by decide) (by decide) (gfit_i _) ?_
        refine gg_goto (tgt := 14) dX10_runLines_289 (by decide) ?_
        refine gg_sub [0, 2, 3] rfl ?_
        refine ih (t + 1) ((k + 1)) (u + 1) (max hi (u + 1)) (gyU S (u + 1 - 1) (-S (u + 1 - 1))) _ _ (by omega) (by omega) ?_ (fun p hp => ((gu_other (by omega)).trans ((gu_other (by omega)).trans (rfl))).trans (hI p hp)) (fun q q1 q2 => (((gu_n (by omega)).trans ((gu_n (by omega)).trans (rfl)))).trans (hI2 q q1 q2)) (fun p hp => ((gv_other (by omega)).trans (rfl)).trans (hJ p hp)) ((gu_n (by omega)).trans (gu_s)) (gu_s) (fun q hq => ?_)
        · rw [gyE_s, hx, ← hTd, ← hvd]; exact gyo_2 hO
        · rw [show u + 1 - 1 = u by omega]
          have hu := hS u (by omega)
          by_cases hqu : q = u
          · subst hqu; simp [gyU, gv, hu]
          · simp [gyU, gv, hqu]; exact hS q (by omega)
      · refine gg_toI (b := 3) (by omega) ?_
        refine gg_tsw (off := 109) (tgt := 158) dX10_runLines_49 (by decide) (by decide) rfl (by decide) ?_
        have hO : gyO T k = 3 := by omega
        have hh1 := k8 (by omega)
        obtain ⟨u, rfl⟩ : ∃ u, h = u + 1 + 1 := ⟨h - 2, by omega⟩
        refine gg_iincv (ls' := [(1, .int (iv ((u + 1 : Nat) : Int))), (2, .int (iv ((k + 1 : Nat) : Int))), (3, .int (iv c)), (0, .ref (gad (gSS ad) 145))]) dX10_runLines_158 2 rfl (by omega) (by decide) rfl ?_
        refine gg_aload_n dX10_runLines_161 3 rfl ?_
        refine gg_getR (k' := 194) rfl gf_RX10_51 dX10_runLines_162 sh_145 pl_145 (by decide) (by decide) rr_145_23 ?_
        refine gg_iload_n dX10_runLines_165 0 rfl ?_
        refine gg_iconst dX10_runLines_166 ?_
        refine gg_isub dX10_runLines_167 ?_
        refine gg_toI (b := (u : Int)) (by omega) ?_
        refine gg_dup2 dX10_runLines_168 rfl rfl ?_
        refine gg_laldj u dX10_runLines_169 sh_194 pl_194 (by decide) rfl (by omega) ?_
        refine gg_aload_n dX10_runLines_170 3 rfl ?_
        refine gg_getR (k' := 194) rfl gf_RX10_51 dX10_runLines_171 sh_145 pl_145 (by decide) (by decide) rr_145_23 ?_
        refine gg_iload_n dX10_runLines_174 0 rfl ?_
        refine gg_laldj (u + 1) dX10_runLines_175 sh_194 pl_194 (by decide) rfl (by omega) ?_
        refine gg_ladd dX10_runLines_176 ?_
        refine gg_lastj u dX10_runLines_177 sh_194 pl_194 (by decide) rfl (by omega) ?_
        refine gg_goto (tgt := 277) dX10_runLines_178 (by decide) ?_
        refine gg_aload_n dX10_runLines_277 3 rfl ?_
        refine gg_aload_n dX10_runLines_278 3 rfl ?_
        refine gg_getI rfl gf_RX10_314 dX10_runLines_279 sh_145 pl_145 (by decide) (by decide) ?_
        refine gg_toI (b := (hi : Int)) ((gu_n (by omega)).trans (h7)) ?_
        refine gg_iload_n dX10_runLines_282 0 rfl ?_
        refine gg_mmax rfl gl_RX10_284 dX10_runLines_283 (by omega) (Nat.le_of_ble_eq_true rfl) (by omega) ⟨Nat.le_refl _, Nat.le_refl _⟩ ?_
        refine gg_toI (b := ((max hi (u + 1) : Nat) : Int)) (by omega) ?_
        refine gg_putI rfl gf_RX10_314 dX10_runLines_286 sh_145 pl_145 (by decide) (by decide) (by decide) (gfit_i _) ?_
        refine gg_goto (tgt := 14) dX10_runLines_289 (by decide) ?_
        refine gg_sub [1, 0, 3] rfl ?_
        refine ih (t + 1) ((k + 1)) (u + 1) (max hi (u + 1)) (gyU S (u + 1 + 1 - 2) (S (u + 1 + 1 - 2) + S (u + 1 + 1 - 1))) _ _ (by omega) (by omega) ?_ (fun p hp => ((gu_other (by omega)).trans ((gu_other (by omega)).trans (rfl))).trans (hI p hp)) (fun q q1 q2 => (((gu_n (by omega)).trans ((gu_n (by omega)).trans (rfl)))).trans (hI2 q q1 q2)) (fun p hp => ((gv_other (by omega)).trans (rfl)).trans (hJ p hp)) ((gu_n (by omega)).trans (gu_s)) (gu_s) (fun q hq => ?_)
        · rw [gyE_s, hx, ← hTd, ← hvd]; exact gyo_3 hO
        · rw [show u + 1 + 1 - 2 = u by omega, show u + 1 + 1 - 1 = u + 1 by omega]
          have hu := hS u (by omega)
          have hu1 := hS (u + 1) (by omega)
          by_cases hqu : q = u
          · subst hqu; simp [gyU, gv, hu, hu1]
          · simp [gyU, gv, hqu]; exact hS q (by omega)
      · refine gg_toI (b := 4) (by omega) ?_
        refine gg_tsw (off := 132) (tgt := 181) dX10_runLines_49 (by decide) (by decide) rfl (by decide) ?_
        have hO : gyO T k = 4 := by omega
        have hh1 := k8 (by omega)
        obtain ⟨u, rfl⟩ : ∃ u, h = u + 1 + 1 := ⟨h - 2, by omega⟩
        refine gg_iincv (ls' := [(1, .int (iv ((u + 1 : Nat) : Int))), (2, .int (iv ((k + 1 : Nat) : Int))), (3, .int (iv c)), (0, .ref (gad (gSS ad) 145))]) dX10_runLines_181 2 rfl (by omega) (by decide) rfl ?_
        refine gg_aload_n dX10_runLines_184 3 rfl ?_
        refine gg_getR (k' := 194) rfl gf_RX10_51 dX10_runLines_185 sh_145 pl_145 (by decide) (by decide) rr_145_23 ?_
        refine gg_iload_n dX10_runLines_188 0 rfl ?_
        refine gg_iconst dX10_runLines_189 ?_
        refine gg_isub dX10_runLines_190 ?_
        refine gg_toI (b := (u : Int)) (by omega) ?_
        refine gg_dup2 dX10_runLines_191 rfl rfl ?_
        refine gg_laldj u dX10_runLines_192 sh_194 pl_194 (by decide) rfl (by omega) ?_
        refine gg_aload_n dX10_runLines_193 3 rfl ?_
        refine gg_getR (k' := 194) rfl gf_RX10_51 dX10_runLines_194 sh_145 pl_145 (by decide) (by decide) rr_145_23 ?_
        refine gg_iload_n dX10_runLines_197 0 rfl ?_
        refine gg_laldj (u + 1) dX10_runLines_198 sh_194 pl_194 (by decide) rfl (by omega) ?_
        refine gg_lmul dX10_runLines_199 ?_
        refine gg_lastj u dX10_runLines_200 sh_194 pl_194 (by decide) rfl (by omega) ?_
        refine gg_goto (tgt := 277) dX10_runLines_201 (by decide) ?_
        refine gg_aload_n dX10_runLines_277 3 rfl ?_
        refine gg_aload_n dX10_runLines_278 3 rfl ?_
        refine gg_getI rfl gf_RX10_314 dX10_runLines_279 sh_145 pl_145 (by decide) (by decide) ?_
        refine gg_toI (b := (hi : Int)) ((gu_n (by omega)).trans (h7)) ?_
        refine gg_iload_n dX10_runLines_282 0 rfl ?_
        refine gg_mmax rfl gl_RX10_284 dX10_runLines_283 (by omega) (Nat.le_of_ble_eq_true rfl) (by omega) ⟨Nat.le_refl _, Nat.le_refl _⟩ ?_
        refine gg_toI (b := ((max hi (u + 1) : Nat) : Int)) (by omega) ?_
        refine gg_putI rfl gf_RX10_314 dX10_runLines_286 sh_145 pl_145 (by decide) (by decide) (by decide) (gfit_i _) ?_
        refine gg_goto (tgt := 14) dX10_runLines_289 (by decide) ?_
        refine gg_sub [1, 0, 3] rfl ?_
        refine ih (t + 1) ((k + 1)) (u + 1) (max hi (u + 1)) (gyU S (u + 1 + 1 - 2) (S (u + 1 + 1 - 2) * S (u + 1 + 1 - 1))) _ _ (by omega) (by omega) ?_ (fun p hp => ((gu_other (by omega)).trans ((gu_other (by omega)).trans (rfl))).trans (hI p hp)) (fun q q1 q2 => (((gu_n (by omega)).trans ((gu_n (by omega)).trans (rfl)))).trans (hI2 q q1 q2)) (fun p hp => ((gv_other (by omega)).trans (rfl)).trans (hJ p hp)) ((gu_n (by omega)).trans (gu_s)) (gu_s) (fun q hq => ?_)
        · rw [gyE_s, hx, ← hTd, ← hvd]; exact gyo_4 hO
        · rw [show u + 1 + 1 - 2 = u by omega, show u + 1 + 1 - 1 = u + 1 by omega]
          have hu := hS u (by omega)
          have hu1 := hS (u + 1) (by omega)
          by_cases hqu : q = u
          · subst hqu; simp [gyU, gv, hu, hu1]
          · simp [gyU, gv, hqu]; exact hS q (by omega)
      · refine gg_toI (b := 5) (by omega) ?_
        refine gg_tsw (off := 155) (tgt := 204) dX10_runLines_49 (by decide) (by decide) rfl (by decide) ?_
        have hO : gyO T k = 5 := by omega
        have hh1 := k7 (by omega)
        obtain ⟨u, rfl⟩ : ∃ u, h = u + 1 := ⟨h - 1, by omega⟩
        obtain ⟨a, ha⟩ : ∃ a : Nat, c % 10 = (a : Int) := ⟨(c % 10).toNat, by omega⟩
        have hta : (c % 10).toNat = a := by omega
        refine gg_aload_n dX10_runLines_204 3 rfl ?_
        refine gg_getR (k' := 194) rfl gf_RX10_51 dX10_runLines_205 sh_145 pl_145 (by decide) (by decide) rr_145_23 ?_
        refine gg_iload_n dX10_runLines_208 2 rfl ?_
        refine gg_iconst dX10_runLines_209 ?_
        refine gg_isub dX10_runLines_210 ?_
        refine gg_toI (b := (u : Int)) (by omega) ?_
        refine gg_aload_n dX10_runLines_211 3 rfl ?_
        refine gg_getR (k' := 194) rfl gf_RX10_51 dX10_runLines_212 sh_145 pl_145 (by decide) (by decide) rr_145_23 ?_
        refine gg_iload_n dX10_runLines_215 2 rfl ?_
        refine gg_iconst dX10_runLines_216 ?_
        refine gg_isub dX10_runLines_217 ?_
        refine gg_toI (b := (u : Int)) (by omega) ?_
        refine gg_laldj u dX10_runLines_218 sh_194 pl_194 (by decide) rfl (by omega) ?_
        refine gg_iload_n dX10_runLines_219 1 rfl ?_
        refine gg_bipush dX10_runLines_220 (by decide) ?_
        refine gg_irem dX10_runLines_222 (by omega) ?_
        refine gg_toI (b := (a : Int)) ha ?_
        refine gg_callSl (own := RX10) (yt := gm_X10_power) rfl gl_RX10_218 gk_X10_power gr_X10_power dX10_runLines_223 (c_X10_power (d := d - 1) (m0 := a) (by omega)) rfl rfl (Nat.le_of_ble_eq_true rfl) (by show _ ≤ d; omega) ⟨Nat.le_refl _, Nat.le_refl _⟩ (fun e1 μ' hc => ?_)
        obtain ⟨rfl, rfl⟩ := hc
        refine gg_lastj u dX10_runLines_226 sh_194 pl_194 (by decide) rfl (by omega) ?_
        refine gg_goto (tgt := 277) dX10_runLines_227 (by decide) ?_
        refine gg_aload_n dX10_runLines_277 3 rfl ?_
        refine gg_aload_n dX10_runLines_278 3 rfl ?_
        refine gg_getI rfl gf_RX10_314 dX10_runLines_279 sh_145 pl_145 (by decide) (by decide) ?_
        refine gg_toI (b := (hi : Int)) ((gu_n (by omega)).trans (h7)) ?_
        refine gg_iload_n dX10_runLines_282 2 rfl ?_
        refine gg_mmax rfl gl_RX10_284 dX10_runLines_283 (by omega) (Nat.le_of_ble_eq_true rfl) (by omega) ⟨Nat.le_refl _, Nat.le_refl _⟩ ?_
        refine gg_toI (b := ((max hi (u + 1) : Nat) : Int)) (by omega) ?_
        refine gg_putI rfl gf_RX10_314 dX10_runLines_286 sh_145 pl_145 (by decide) (by decide) (by decide) (gfit_i _) ?_
        refine gg_goto (tgt := 14) dX10_runLines_289 (by decide) ?_
        refine gg_sub [0, 2, 3] rfl ?_
        refine ih (t + 1) ((k + 1)) (u + 1) (max hi (u + 1)) (gyU S (u + 1 - 1) (gpow (S (u + 1 - 1)) ((T k).1 % 10).toNat)) _ _ (by omega) (by omega) ?_ (fun p hp => ((gu_other (by omega)).trans ((gu_other (by omega)).trans (rfl))).trans (hI p hp)) (fun q q1 q2 => (((gu_n (by omega)).trans ((gu_n (by omega)).trans (rfl)))).trans (hI2 q q1 q2)) (fun p hp => ((gv_other (by omega)).trans (rfl)).trans (hJ p hp)) ((gu_n (by omega)).trans (gu_s)) (gu_s) (fun q hq => ?_)
        · rw [gyE_s, hx, ← hTd, ← hvd]; exact gyo_5 hO
        · rw [hc, hta, show u + 1 - 1 = u by omega]
          have hu := hS u (by omega)
          by_cases hqu : q = u
          · subst hqu; simp [gyU, gv, hu]
          · simp [gyU, gv, hqu]; exact hS q (by omega)
      · refine gg_toI (b := 6) (by omega) ?_
        refine gg_tsw (off := 181) (tgt := 230) dX10_runLines_49 (by decide) (by decide) rfl (by decide) ?_
        have hO : gyO T k = 6 := by omega
        have hh1 := k7 (by omega)
        obtain ⟨u, rfl⟩ : ∃ u, h = u + 1 := ⟨h - 1, by omega⟩
        refine gg_iincv (ls' := [(1, .int (iv (u : Int))), (2, .int (iv ((k + 1 : Nat) : Int))), (3, .int (iv c)), (0, .ref (gad (gSS ad) 145))]) dX10_runLines_230 2 rfl (by omega) (by decide) rfl ?_
        refine gg_aload_n dX10_runLines_233 3 rfl ?_
        refine gg_getR (k' := 194) rfl gf_RX10_51 dX10_runLines_234 sh_145 pl_145 (by decide) (by decide) rr_145_23 ?_
        refine gg_iload_n dX10_runLines_237 0 rfl ?_
        refine gg_laldj u dX10_runLines_238 sh_194 pl_194 (by decide) rfl (by omega) ?_
        refine gg_lconstv (x := 0) dX10_runLines_239 rfl ?_
        refine gg_lcmp_ne (tgt := 277) dX10_runLines_240 dX10_runLines_241 (by decide) (fun hz => ?_) (fun hz => ?_)
        · refine gg_aload_n dX10_runLines_277 3 rfl ?_
          refine gg_aload_n dX10_runLines_278 3 rfl ?_
          refine gg_getI rfl gf_RX10_314 dX10_runLines_279 sh_145 pl_145 (by decide) (by decide) ?_
          refine gg_toI (b := (hi : Int)) ((gu_n (by omega)).trans (h7)) ?_
          refine gg_iload_n dX10_runLines_282 0 rfl ?_
          refine gg_mmax rfl gl_RX10_284 dX10_runLines_283 (by omega) (Nat.le_of_ble_eq_true rfl) (by omega) ⟨Nat.le_refl _, Nat.le_refl _⟩ ?_
          refine gg_toI (b := ((max hi u : Nat) : Int)) (by omega) ?_
          refine gg_putI rfl gf_RX10_314 dX10_runLines_286 sh_145 pl_145 (by decide) (by decide) (by decide) (gfit_i _) ?_
          refine gg_goto (tgt := 14) dX10_runLines_289 (by decide) ?_
          refine gg_sub [1, 0, 3] rfl ?_
          refine ih (t + 1) ((k + 1)) u (max hi u) S _ _ (by omega) (by omega) ?_ (fun p hp => ((gu_other (by omega)).trans ((gu_other (by omega)).trans (rfl))).trans (hI p hp)) (fun q q1 q2 => (((gu_n (by omega)).trans ((gu_n (by omega)).trans (rfl)))).trans (hI2 q q1 q2)) (fun p hp => (rfl).trans (hJ p hp)) ((gu_n (by omega)).trans (gu_s)) (gu_s) (fun q hq => ?_)
          · rw [gyE_s, hx, ← hTd, ← hvd]; exact gyo_6f hO (by rw [Nat.add_sub_cancel, ← hS u (by omega)]; exact hz)
          · exact hS q (by omega)
        · refine gg_iload_n dX10_runLines_244 2 rfl ?_
          refine gg_bipush dX10_runLines_245 (by decide) ?_
          refine gg_idiv dX10_runLines_247 (by omega) ?_
          refine gg_toI (b := (((T k).1 / 100).toNat : Int)) (by omega) ?_
          refine gg_istore_n (ls' := [(2, .int (iv (((T k).1 / 100).toNat : Int))), (1, .int (iv (u : Int))), (3, .int (iv c)), (0, .ref (gad (gSS ad) 145))]) dX10_runLines_248 rfl (by decide) rfl ?_
          refine gg_goto (tgt := 277) dX10_runLines_249 (by decide) ?_
          refine gg_aload_n dX10_runLines_277 3 rfl ?_
          refine gg_aload_n dX10_runLines_278 3 rfl ?_
          refine gg_getI rfl gf_RX10_314 dX10_runLines_279 sh_145 pl_145 (by decide) (by decide) ?_
          refine gg_toI (b := (hi : Int)) ((gu_n (by omega)).trans (h7)) ?_
          refine gg_iload_n dX10_runLines_282 1 rfl ?_
          refine gg_mmax rfl gl_RX10_284 dX10_runLines_283 (by omega) (Nat.le_of_ble_eq_true rfl) (by omega) ⟨Nat.le_refl _, Nat.le_refl _⟩ ?_
          refine gg_toI (b := ((max hi u : Nat) : Int)) (by omega) ?_
          refine gg_putI rfl gf_RX10_314 dX10_runLines_286 sh_145 pl_145 (by decide) (by decide) (by decide) (gfit_i _) ?_
          refine gg_goto (tgt := 14) dX10_runLines_289 (by decide) ?_
          refine gg_sub [0, 1, 3] rfl ?_
          refine ih (t + 1) (((T k).1 / 100).toNat) u (max hi u) S _ _ (by omega) (by omega) ?_ (fun p hp => ((gu_other (by omega)).trans ((gu_other (by omega)).trans (rfl))).trans (hI p hp)) (fun q q1 q2 => (((gu_n (by omega)).trans ((gu_n (by omega)).trans (rfl)))).trans (hI2 q q1 q2)) (fun p hp => (rfl).trans (hJ p hp)) ((gu_n (by omega)).trans (gu_s)) (gu_s) (fun q hq => ?_)
          · rw [gyE_s, hx, ← hTd, ← hvd]; exact gyo_6t hO (by rw [Nat.add_sub_cancel, ← hS u (by omega)]; exact hz)
          · exact hS q (by omega)
      · refine gg_toI (b := 7) (by omega) ?_
        refine gg_tsw (off := 203) (tgt := 252) dX10_runLines_49 (by decide) (by decide) rfl (by decide) ?_
        have hO : gyO T k = 7 := by omega
        refine gg_iload_n dX10_runLines_252 1 rfl ?_
        refine gg_bipush dX10_runLines_253 (by decide) ?_
        refine gg_idiv dX10_runLines_255 (by omega) ?_
        refine gg_toI (b := (((T k).1 / 100).toNat : Int)) (by omega) ?_
        refine gg_istore_n (ls' := [(2, .int (iv (((T k).1 / 100).toNat : Int))), (3, .int (iv c)), (1, .int (iv (h : Int))), (0, .ref (gad (gSS ad) 145))]) dX10_runLines_256 rfl (by decide) rfl ?_
        refine gg_goto (tgt := 277) dX10_runLines_257 (by decide) ?_
        refine gg_aload_n dX10_runLines_277 3 rfl ?_
        refine gg_aload_n dX10_runLines_278 3 rfl ?_
        refine gg_getI rfl gf_RX10_314 dX10_runLines_279 sh_145 pl_145 (by decide) (by decide) ?_
        refine gg_toI (b := (hi : Int)) ((gu_n (by omega)).trans (h7)) ?_
        refine gg_iload_n dX10_runLines_282 2 rfl ?_
        refine gg_mmax rfl gl_RX10_284 dX10_runLines_283 (by omega) (Nat.le_of_ble_eq_true rfl) (by omega) ⟨Nat.le_refl _, Nat.le_refl _⟩ ?_
        refine gg_toI (b := ((max hi h : Nat) : Int)) (by omega) ?_
        refine gg_putI rfl gf_RX10_314 dX10_runLines_286 sh_145 pl_145 (by decide) (by decide) (by decide) (gfit_i _) ?_
        refine gg_goto (tgt := 14) dX10_runLines_289 (by decide) ?_
        refine gg_sub [0, 2, 3] rfl ?_
        refine ih (t + 1) (((T k).1 / 100).toNat) h (max hi h) S _ _ (by omega) (by omega) ?_ (fun p hp => ((gu_other (by omega)).trans ((gu_other (by omega)).trans (rfl))).trans (hI p hp)) (fun q q1 q2 => (((gu_n (by omega)).trans ((gu_n (by omega)).trans (rfl)))).trans (hI2 q q1 q2)) (fun p hp => (rfl).trans (hJ p hp)) ((gu_n (by omega)).trans (gu_s)) (gu_s) (fun q hq => ?_)
        · rw [gyE_s, hx, ← hTd, ← hvd]; exact gyo_7 hO
        · exact hS q (by omega)
      · refine gg_toI (b := 8) (by omega) ?_
        refine gg_tsw_out (tgt := 260) dX10_runLines_49 (by decide) (by decide) (by decide) ?_
        have hO : gyO T k = 8 := by omega
        have hh1 := k7 (by omega)
        obtain ⟨u, rfl⟩ : ∃ u, h = u + 1 := ⟨h - 1, by omega⟩
        refine gg_aload_n dX10_runLines_260 3 rfl ?_
        refine gg_getR (k' := 194) rfl gf_RX10_51 dX10_runLines_261 sh_145 pl_145 (by decide) (by decide) rr_145_23 ?_
        refine gg_iload_n dX10_runLines_264 2 rfl ?_
        refine gg_aload_n dX10_runLines_265 3 rfl ?_
        refine gg_getR (k' := 194) rfl gf_RX10_51 dX10_runLines_266 sh_145 pl_145 (by decide) (by decide) rr_145_23 ?_
        refine gg_iload_n dX10_runLines_269 2 rfl ?_
        refine gg_iconst dX10_runLines_270 ?_
        refine gg_isub dX10_runLines_271 ?_
        refine gg_toI (b := (u : Int)) (by omega) ?_
        refine gg_laldj u dX10_runLines_272 sh_194 pl_194 (by decide) rfl (by omega) ?_
        refine gg_lastj (u + 1) dX10_runLines_273 sh_194 pl_194 (by decide) rfl (by have := k9 (by omega); omega) ?_
        refine gg_iincv (ls' := [(1, .int (iv ((u + 1 + 1 : Nat) : Int))), (2, .int (iv ((k + 1 : Nat) : Int))), (3, .int (iv c)), (0, .ref (gad (gSS ad) 145))]) dX10_runLines_274 2 rfl (by omega) (by decide) rfl ?_
        refine gg_aload_n dX10_runLines_277 3 rfl ?_
        refine gg_aload_n dX10_runLines_278 3 rfl ?_
        refine gg_getI rfl gf_RX10_314 dX10_runLines_279 sh_145 pl_145 (by decide) (by decide) ?_
        refine gg_toI (b := (hi : Int)) ((gu_n (by omega)).trans (h7)) ?_
        refine gg_iload_n dX10_runLines_282 0 rfl ?_
        refine gg_mmax rfl gl_RX10_284 dX10_runLines_283 (by omega) (Nat.le_of_ble_eq_true rfl) (by omega) ⟨Nat.le_refl _, Nat.le_refl _⟩ ?_
        refine gg_toI (b := ((max hi (u + 1 + 1) : Nat) : Int)) (by omega) ?_
        refine gg_putI rfl gf_RX10_314 dX10_runLines_286 sh_145 pl_145 (by decide) (by decide) (by decide) (gfit_i _) ?_
        refine gg_goto (tgt := 14) dX10_runLines_289 (by decide) ?_
        refine gg_sub [1, 0, 3] rfl ?_
        refine ih (t + 1) ((k + 1)) (u + 1 + 1) (max hi (u + 1 + 1)) (gyU S (u + 1) (S (u + 1 - 1))) _ _ (by omega) (by omega) ?_ (fun p hp => ((gu_other (by omega)).trans ((gu_other (by omega)).trans (rfl))).trans (hI p hp)) (fun q q1 q2 => (((gu_n (by omega)).trans ((gu_n (by omega)).trans (rfl)))).trans (hI2 q q1 q2)) (fun p hp => ((gv_other (by omega)).trans (rfl)).trans (hJ p hp)) ((gu_n (by omega)).trans (gu_s)) (gu_s) (fun q hq => ?_)
        · rw [gyE_s, hx, ← hTd, ← hvd]; exact gyo_8 hO
        · rw [show u + 1 - 1 = u by omega]
          have hu := hS u (by omega)
          by_cases hqu : q = u + 1
          · subst hqu; simp [gyU, gv, hu]
          · simp [gyU, gv, hqu]; exact hS q (by omega)

set_option maxRecDepth 10000 in
theorem c_X10_runLines {l : Launch} {Γ : gC} {ad : Nat → Nat} {I : Nat → Nat → Int} {J : Nat → Nat → Int64} {d : Nat} {K : Nat → Nat} {N : Nat → Int64} {Z : Nat → Nat} {n : Nat} (hW : gWf n K N Z) (hn0 : 0 < n) (hsz : I 145 22 = (gLc n K Z 0 : Int)) (hL : ∀ q, q < gLc n K Z 0 → gMch 192 193 I J q (gCv n K N Z 0 0 q)) (hd : 5 ≤ d) : gKl l Γ gm_X10_runLines d [.ref (gad (gSS ad) 145)] (gSS ad, I, J) (fun e μ => ∃ I1 J1, μ = (gSS ad, I1, J1) ∧ (∀ p, p ≠ 145 → I1 p = I p) ∧ (∀ q, q ≠ 24 → q ≠ 25 → I1 145 q = I 145 q) ∧ (∀ p, p ≠ 194 → J1 p = J p) ∧ I1 145 25 = (gyHi n K N Z (I 186) : Int) ∧ I1 145 24 = (gyM n K N Z (I 186) : Int) ∧ e = gyW n K N Z (I 186)) := by
  refine gKl_of gk_X10_runLines.1 (Nat.le_of_ble_eq_true rfl) ?_
  show gG l Γ gm_X10_runLines (d, 0, 0, 0, 0) 0 [(0, .ref (gad (gSS ad) 145))] [] _ _
  refine gg_iconst dX10_runLines_0 ?_
  refine gg_istore_n (ls' := [(1, .int (iv 0)), (0, .ref (gad (gSS ad) 145))]) dX10_runLines_1 rfl (by decide) rfl ?_
  refine gg_iconst dX10_runLines_2 ?_
  refine gg_istore_n (ls' := [(2, .int (iv 0)), (1, .int (iv 0)), (0, .ref (gad (gSS ad) 145))]) dX10_runLines_3 rfl (by decide) rfl ?_
  refine gg_aload_n dX10_runLines_4 2 rfl ?_
  refine gg_iconst dX10_runLines_5 ?_
  refine gg_putI rfl gf_RX10_311 dX10_runLines_6 sh_145 pl_145 (by decide) (by decide) (by decide) (gfit_i _) ?_
  refine gg_aload_n dX10_runLines_9 2 rfl ?_
  refine gg_iconst dX10_runLines_10 ?_
  refine gg_putI rfl gf_RX10_314 dX10_runLines_11 sh_145 pl_145 (by decide) (by decide) (by decide) (gfit_i _) ?_
  refine gg_sub [0, 1, 2] rfl ?_
  refine w_X10_runLines (I0 := I) (J0 := J) hW hn0 hsz hL hd rfl rfl (gyM n K N Z (I 186) + 2) 0 0 0 0 (fun _ => 0) _ J (by omega) (by omega) rfl (fun p hp => (gu_other hp).trans (gu_other hp)) (fun q q1 q2 => (gu_n (by omega)).trans (gu_n (by omega))) (fun _ _ => rfl) ((gu_n (by omega)).trans gu_s) gu_s (fun q hq => absurd hq (Nat.not_lt_zero _))

theorem gMt_c {f n : Nat} {K : Nat → Nat} {N : Nat → Int64} {Z : Nat → Nat} {I : Nat → Nat → Int} {J : Nat → Nat → Int64} {q : Nat} {x : Int} (hf : f < 12) (hM : gMt I J f n K N Z) : gMt (gu I 145 q x) J f n K N Z := by
  refine ⟨by rw [gu_other (by omega)]; exact hM.1, fun j hj => ?_⟩
  rw [gu_other (show 148 + f ≠ 145 by omega), gu_other (show 174 + f ≠ 145 by omega)]
  exact hM.2 j hj
set_option maxRecDepth 10000 in
theorem c_X10_run {l : Launch} {Γ : gC} {ad : Nat → Nat} {I : Nat → Nat → Int} {J : Nat → Nat → Int64} {d : Nat} {f n : Nat} {K : Nat → Nat} {N : Nat → Int64} {Z : Nat → Nat} (hf : f < 12) (hM : gMt I J f n K N Z) (hW : gWf n K N Z) (hd : n + 5 ≤ d) : gKl l Γ gm_X10_run d [.ref (gad (gSS ad) 145), .int (iv (f : Int))] (gSS ad, I, J) (fun e μ => ∃ I' J', μ = (gSS ad, I', J') ∧ (∀ p, p ≠ 145 → p ≠ 192 → I' p = I p) ∧ (∀ q, q ≠ 22 → q ≠ 24 → q ≠ 25 → I' 145 q = I 145 q) ∧ (∀ p, p ≠ 193 → p ≠ 194 → J' p = J p) ∧ e = (if n = 0 then -1000003 else gyW n K N Z (I 186))) := by
  refine gKl_of gk_X10_run.1 (Nat.le_of_ble_eq_true rfl) ?_
  show gG l Γ gm_X10_run (d, 0, 0, 0, 0) 0 [(0, .ref (gad (gSS ad) 145)), (1, .int (iv (f : Int)))] [] _ _
  refine gg_aload_n dX10_run_0 0 rfl ?_
  refine gg_iload_n dX10_run_1 1 rfl ?_
  refine gg_callVi (own := RX10) (yt := gm_X10_refusal) rfl gl_RX10_247 gk_X10_refusal gr_X10_refusal dX10_run_2 (c_X10_refusal (d := d - 1) hf hM hW (by omega)) sh_145 pl_145 (by decide) rfl rfl rfl (Nat.le_of_ble_eq_true rfl) (by show _ ≤ d; omega) ⟨Nat.le_refl _, Nat.le_refl _⟩ (fun e1 μ' hc => ?_)
  obtain ⟨rfl, ⟨rfl, hn0⟩ | ⟨rfl, hn0⟩⟩ := hc
  · refine gg_istore_n (ls' := [(2, .int (iv (-3))), (0, .ref (gad (gSS ad) 145)), (1, .int (iv (f : Int)))]) dX10_run_5 rfl (by decide) rfl ?_
    refine gg_iload_n dX10_run_6 0 rfl ?_
    refine gg_if_eq_f (tgt := 15) dX10_run_7 (by decide) (by decide) (by decide) ?_
    refine gg_iload_n dX10_run_10 0 rfl ?_
    refine gg_callSl (own := RX10) (yt := gm_X10_asLong) rfl gl_RX10_250 gk_X10_asLong gr_X10_asLong dX10_run_11 (c_X10_asLong (d := d - 1) (i := (-3))) rfl rfl (Nat.le_of_ble_eq_true rfl) (by show _ ≤ d; omega) ⟨Nat.le_refl _, Nat.le_refl _⟩ (fun e2 μ' hc => ?_)
    obtain ⟨rfl, rfl⟩ := hc
    refine gg_lretl dX10_run_14 rfl ⟨rfl, rfl⟩ ?_
    exact ⟨I, J, rfl, fun _ _ _ => rfl, fun _ _ _ _ => rfl, fun _ _ _ => rfl, by rw [if_pos hn0]; decide⟩
  · refine gg_istore_n (ls' := [(2, .int (iv 0)), (0, .ref (gad (gSS ad) 145)), (1, .int (iv (f : Int)))]) dX10_run_5 rfl (by decide) rfl ?_
    refine gg_iload_n dX10_run_6 0 rfl ?_
    refine gg_if_eq_t (tgt := 15) dX10_run_7 (by decide) (by decide) (by decide) ?_
    refine gg_aload_n dX10_run_15 1 rfl ?_
    refine gg_iconst dX10_run_16 ?_
    refine gg_putI rfl gf_RX10_302 dX10_run_17 sh_145 pl_145 (by decide) (by decide) (by decide) (gfit_i _) ?_
    refine gg_aload_n dX10_run_20 1 rfl ?_
    refine gg_iload_n dX10_run_21 2 rfl ?_
    refine gg_iconst dX10_run_22 ?_
    refine gg_callVv (own := RX10) (yt := gm_X10_make) rfl gl_RX10_308 gk_X10_make gr_X10_make dX10_run_23 (r_X10_make hf hW n 0 (by omega) (by rw [hW.2.1 (by omega)]; exact Nat.le_refl _) (d - 1) (by omega) (gu I 145 22 0) J 0 (gMt_c hf hM) gu_s (by have := (gL_rng hW 0 (by omega)).2; have := hW.2.1 (by omega); have := hW.1; omega)) sh_145 pl_145 (by decide) rfl rfl rfl (Nat.le_of_ble_eq_true rfl) (by show _ ≤ d; omega) ⟨Nat.le_refl _, Nat.le_refl _⟩ (fun μ' hc => ?_)
    obtain ⟨I2, J2, rfl, hg2⟩ := hc
    refine gg_aload_n dX10_run_26 1 rfl ?_
    refine gg_callVl (own := RX10) (yt := gm_X10_runLines) rfl gl_RX10_317 gk_X10_runLines gr_X10_runLines dX10_run_27 (c_X10_runLines (d := d - 1) hW (by omega) (by rw [hg2.1, Nat.zero_add]) (fun q hq => hg2.2.2.1 q (Nat.zero_le _) (by omega)) (by omega)) sh_145 pl_145 (by decide) rfl rfl rfl (Nat.le_of_ble_eq_true rfl) (by show _ ≤ d; omega) ⟨Nat.le_refl _, Nat.le_refl _⟩ (fun e4 μ' hc => ?_)
    obtain ⟨I4, J4, rfl, hI4, hI5, hJ4, hh4, hs4, rfl⟩ := hc
    refine gg_lretl dX10_run_30 rfl ⟨rfl, rfl⟩ ?_
    exact ⟨I4, J4, rfl, fun p h1 h2 => (hI4 p h1).trans ((hg2.2.2.2.2.1 p h1 h2).trans (gu_other h1)), fun q h1 h2 h3 => (hI5 q h2 h3).trans ((hg2.2.2.2.2.2.1 q h1).trans (gu_n (by omega))), fun p h1 h2 => (hJ4 p h2).trans (hg2.2.2.2.2.2.2 p h1), by rw [if_neg hn0]; exact gyW_v (show ∀ q, q < 8 → I2 186 q = I 186 q from fun q _ => by rw [hg2.2.2.2.2.1 186 (by omega) (by omega), gu_other (by omega)])⟩

set_option maxRecDepth 10000 in
theorem c_X10_run_out {l : Launch} {Γ : gC} {ad : Nat → Nat} {I : Nat → Nat → Int} {J : Nat → Nat → Int64} {d : Nat} {i : Int} (hi : -2147483648 ≤ i ∧ i ≤ 2147483647) (ho : ¬ (0 ≤ i ∧ i ≤ 11)) (hd : 3 ≤ d) : gKl l Γ gm_X10_run d [.ref (gad (gSS ad) 145), .int (iv i)] (gSS ad, I, J) (fun e μ => μ = (gSS ad, I, J) ∧ e = -1000002) := by
  refine gKl_of gk_X10_run.1 (Nat.le_of_ble_eq_true rfl) ?_
  show gG l Γ gm_X10_run (d, 0, 0, 0, 0) 0 [(0, .ref (gad (gSS ad) 145)), (1, .int (iv i))] [] _ _
  refine gg_aload_n dX10_run_0 0 rfl ?_
  refine gg_iload_n dX10_run_1 1 rfl ?_
  refine gg_callVi (own := RX10) (yt := gm_X10_refusal) rfl gl_RX10_247 gk_X10_refusal gr_X10_refusal dX10_run_2 (c_X10_refusal_out (d := d - 1) hi ho (by omega)) sh_145 pl_145 (by decide) rfl rfl rfl (Nat.le_of_ble_eq_true rfl) (by show _ ≤ d; omega) ⟨Nat.le_refl _, Nat.le_refl _⟩ (fun e1 μ' hc => ?_)
  obtain ⟨rfl, rfl⟩ := hc
  refine gg_istore_n (ls' := [(2, .int (iv (-2))), (0, .ref (gad (gSS ad) 145)), (1, .int (iv i))]) dX10_run_5 rfl (by decide) rfl ?_
  refine gg_iload_n dX10_run_6 0 rfl ?_
  refine gg_if_eq_f (tgt := 15) dX10_run_7 (by decide) (by decide) (by decide) ?_
  refine gg_iload_n dX10_run_10 0 rfl ?_
  refine gg_callSl (own := RX10) (yt := gm_X10_asLong) rfl gl_RX10_250 gk_X10_asLong gr_X10_asLong dX10_run_11 (c_X10_asLong (d := d - 1) (i := (-2))) rfl rfl (Nat.le_of_ble_eq_true rfl) (by show _ ≤ d; omega) ⟨Nat.le_refl _, Nat.le_refl _⟩ (fun e2 μ' hc => ?_)
  obtain ⟨rfl, rfl⟩ := hc
  refine gg_lretl dX10_run_14 rfl ⟨rfl, rfl⟩ ?_
  exact ⟨rfl, by decide⟩

set_option maxRecDepth 10000 in
theorem c_X10_code {l : Launch} {Γ : gC} {ad : Nat → Nat} {I : Nat → Nat → Int} {J : Nat → Nat → Int64} {d : Nat} {f n : Nat} {K : Nat → Nat} {N : Nat → Int64} {Z : Nat → Nat} (hf : f < 12) (hM : gMt I J f n K N Z) (hW : gWf n K N Z) {k : Int} (hk : -3 ≤ k ∧ k ≤ 2147483647) (hd : n + 5 ≤ d) : gKi l Γ gm_X10_code d [.ref (gad (gSS ad) 145), .int (iv (f : Int)), .int (iv k)] (gSS ad, I, J) (fun e μ => ∃ I' J', μ = (gSS ad, I', J') ∧ (∀ p, p ≠ 145 → p ≠ 192 → I' p = I p) ∧ (∀ q, q ≠ 22 → q ≠ 24 → q ≠ 25 → I' 145 q = I 145 q) ∧ (∀ p, p ≠ 193 → p ≠ 194 → J' p = J p) ∧ e = gCde n K N Z (I 186) k) := by
  refine gKi_of gk_X10_code.1 (Nat.le_of_ble_eq_true rfl) ?_
  show gG l Γ gm_X10_code (d, 0, 0, 0, 0) 0 [(0, .ref (gad (gSS ad) 145)), (1, .int (iv (f : Int))), (2, .int (iv k))] [] _ _
  refine gg_iload_n dX10_code_0 1 rfl ?_
  refine gg_callSi (own := RX10) (yt := gm_X10_isFormula) rfl gl_RX10_181 gk_X10_isFormula gr_X10_isFormula dX10_code_1 (c_X10_isFormula (d := d - 1) (by omega) (by omega)) rfl rfl (Nat.le_of_ble_eq_true rfl) (by show _ ≤ d; omega) ⟨Nat.le_refl _, Nat.le_refl _⟩ (fun e1 μ' hc => ?_)
  obtain ⟨rfl, ⟨rfl, hb2⟩ | ⟨rfl, hb2⟩⟩ := hc
  rotate_left
  · omega
  refine gg_if_eq_f (tgt := 13) dX10_code_4 (by decide) (by decide) (by decide) ?_
  refine gg_iload_n dX10_code_7 2 rfl ?_
  refine gg_bipush dX10_code_8 (by decide) ?_
  refine gg_icmp_ge_t (tgt := 16) dX10_code_10 (by decide) (by omega) (by omega) ?_
  refine gg_aload_n dX10_code_16 0 rfl ?_
  refine gg_getR (k' := 146) rfl gf_RX10_9 dX10_code_17 sh_145 pl_145 (by decide) (by decide) rr_145_0 ?_
  refine gg_iload_n dX10_code_20 1 rfl ?_
  refine gg_ialdj f dX10_code_21 sh_146 pl_146 (by decide) rfl hf ?_
  refine gg_toI (b := (n : Int)) hM.1 ?_
  refine gg_if_ne (tgt := 28) dX10_code_22 (by decide) (by have := hW.1; omega) (fun hn0 => ?_) (fun hn0 => ?_)
  · refine gg_aload_n dX10_code_28 0 rfl ?_
    refine gg_iconst dX10_code_29 ?_
    refine gg_putI rfl gf_RX10_302 dX10_code_30 sh_145 pl_145 (by decide) (by decide) (by decide) (gfit_i _) ?_
    refine gg_aload_n dX10_code_33 0 rfl ?_
    refine gg_iload_n dX10_code_34 1 rfl ?_
    refine gg_iconst dX10_code_35 ?_
    refine gg_callVv (own := RX10) (yt := gm_X10_make) rfl gl_RX10_308 gk_X10_make gr_X10_make dX10_code_36 (r_X10_make hf hW n 0 (by omega) (by rw [hW.2.1 (by omega)]; exact Nat.le_refl _) (d - 1) (by omega) (gu I 145 22 0) J 0 (gMt_c hf hM) gu_s (by have := (gL_rng hW 0 (by omega)).2; have := hW.2.1 (by omega); have := hW.1; omega)) sh_145 pl_145 (by decide) rfl rfl rfl (Nat.le_of_ble_eq_true rfl) (by show _ ≤ d; omega) ⟨Nat.le_refl _, Nat.le_refl _⟩ (fun μ' hc => ?_)
    obtain ⟨I2, J2, rfl, hg2⟩ := hc
    refine gg_iload_n dX10_code_39 2 rfl ?_
    refine gg_if_lt (tgt := 63) dX10_code_40 (by decide) (by omega) (fun hb2 => ?_) (fun hb2 => ?_)
    · refine gg_iload_n dX10_code_63 2 rfl ?_
      refine gg_iconst dX10_code_64 ?_
      refine gg_icmp_ne (tgt := 73) dX10_code_65 (by decide) (by omega) (fun hb3 => ?_) (fun hb3 => ?_)
      · refine gg_aload_n dX10_code_73 0 rfl ?_
        refine gg_callVl (own := RX10) (yt := gm_X10_runLines) rfl gl_RX10_317 gk_X10_runLines gr_X10_runLines dX10_code_74 (c_X10_runLines (d := d - 1) hW (by omega) (by rw [hg2.1, Nat.zero_add]) (fun q hq => hg2.2.2.1 q (Nat.zero_le _) (by omega)) (by omega)) sh_145 pl_145 (by decide) rfl rfl rfl (Nat.le_of_ble_eq_true rfl) (by show _ ≤ d; omega) ⟨Nat.le_refl _, Nat.le_refl _⟩ (fun e4 μ' hc => ?_)
        obtain ⟨I4, J4, rfl, hI4, hI5, hJ4, hh4, hs4, rfl⟩ := hc
        refine gg_lstore_n (ls' := [(3, .long (gyW n K N Z (I2 186))), (0, .ref (gad (gSS ad) 145)), (1, .int (iv (f : Int))), (2, .int (iv k))]) dX10_code_77 rfl (by decide) rfl ?_
        refine gg_iload_n dX10_code_78 3 rfl ?_
        refine gg_bipush dX10_code_79 (by decide) ?_
        refine gg_icmp_ne (tgt := 91) dX10_code_81 (by decide) (by omega) (fun hb4 => ?_) (fun hb4 => ?_)
        · refine gg_aload_n dX10_code_91 1 rfl ?_
          refine gg_getI rfl gf_RX10_314 dX10_code_92 sh_145 pl_145 (by decide) (by decide) ?_
          refine gg_ireti dX10_code_95 rfl ⟨rfl, rfl⟩ ?_
          exact ⟨I4, J4, rfl, fun p h1 h2 => (hI4 p h1).trans ((hg2.2.2.2.2.1 p h1 h2).trans (gu_other h1)), fun q h1 h2 h3 => (hI5 q h2 h3).trans ((hg2.2.2.2.2.2.1 q h1).trans (gu_n (by omega))), fun p h1 h2 => (hJ4 p h2).trans (hg2.2.2.2.2.2.2 p h1), by unfold gCde; rw [if_neg (show ¬ n = 0 by omega), if_neg (by omega), if_neg (by omega), if_neg (by omega), if_neg (by omega), hh4, gyHi_v (show ∀ q, q < 8 → I2 186 q = I 186 q from fun q _ => by rw [hg2.2.2.2.2.1 186 (by omega) (by omega), gu_other (by omega)])]⟩
        · refine gg_aload_n dX10_code_84 1 rfl ?_
          refine gg_getI rfl gf_RX10_311 dX10_code_85 sh_145 pl_145 (by decide) (by decide) ?_
          refine gg_goto (tgt := 95) dX10_code_88 (by decide) ?_
          refine gg_ireti dX10_code_95 rfl ⟨rfl, rfl⟩ ?_
          exact ⟨I4, J4, rfl, fun p h1 h2 => (hI4 p h1).trans ((hg2.2.2.2.2.1 p h1 h2).trans (gu_other h1)), fun q h1 h2 h3 => (hI5 q h2 h3).trans ((hg2.2.2.2.2.2.1 q h1).trans (gu_n (by omega))), fun p h1 h2 => (hJ4 p h2).trans (hg2.2.2.2.2.2.2 p h1), by unfold gCde; rw [if_neg (show ¬ n = 0 by omega), if_neg (by omega), if_neg (by omega), if_neg (by omega), if_pos (by omega), hs4, gyM_v (show ∀ q, q < 8 → I2 186 q = I 186 q from fun q _ => by rw [hg2.2.2.2.2.1 186 (by omega) (by omega), gu_other (by omega)])]⟩
      · refine gg_aload_n dX10_code_68 0 rfl ?_
        refine gg_getI rfl gf_RX10_302 dX10_code_69 sh_145 pl_145 (by decide) (by decide) ?_
        refine gg_toI (b := (gLc n K Z 0 : Int)) (by rw [hg2.1, Nat.zero_add]) ?_
        refine gg_ireti dX10_code_72 rfl ⟨rfl, rfl⟩ ?_
        exact ⟨I2, J2, rfl, fun p h1 h2 => (hg2.2.2.2.2.1 p h1 h2).trans (gu_other h1), fun q h1 h2 h3 => (hg2.2.2.2.2.2.1 q h1).trans (gu_n (by omega)), fun p h1 h2 => hg2.2.2.2.2.2.2 p h1, by unfold gCde; rw [if_neg (show ¬ n = 0 by omega), if_neg (by omega), if_neg (by omega), if_pos (by omega)]⟩
    · refine gg_iload_n dX10_code_43 2 rfl ?_
      refine gg_aload_n dX10_code_44 0 rfl ?_
      refine gg_getI rfl gf_RX10_302 dX10_code_45 sh_145 pl_145 (by decide) (by decide) ?_
      refine gg_toI (b := (gLc n K Z 0 : Int)) (by rw [hg2.1, Nat.zero_add]) ?_
      refine gg_icmp_ge (tgt := 60) dX10_code_48 (by decide) (by have := (gL_rng hW 0 (by omega)).2; have := hW.2.1 (by omega); have := hW.1; omega) (fun hb1 => ?_) (fun hb1 => ?_)
      · refine gg_bipush dX10_code_60 (by decide) ?_
        refine gg_ireti dX10_code_62 rfl ⟨rfl, rfl⟩ ?_
        exact ⟨I2, J2, rfl, fun p h1 h2 => (hg2.2.2.2.2.1 p h1 h2).trans (gu_other h1), fun q h1 h2 h3 => (hg2.2.2.2.2.2.1 q h1).trans (gu_n (by omega)), fun p h1 h2 => hg2.2.2.2.2.2.2 p h1, by unfold gCde; rw [if_neg (show ¬ n = 0 by omega), if_pos (by omega)]⟩
      · refine gg_aload_n dX10_code_51 0 rfl ?_
        refine gg_getR (k' := 192) rfl gf_RX10_45 dX10_code_52 sh_145 pl_145 (by decide) (by decide) rr_145_20 ?_
        refine gg_iload_n dX10_code_55 2 rfl ?_
        refine gg_ialdj k.toNat dX10_code_56 sh_192 pl_192 (by decide) (by omega) (by have := (gL_rng hW 0 (by omega)).2; have := hW.2.1 (by omega); have := hW.1; omega) ?_
        refine gg_goto (tgt := 62) dX10_code_57 (by decide) ?_
        refine gg_ireti dX10_code_62 rfl ⟨rfl, rfl⟩ ?_
        exact ⟨I2, J2, rfl, fun p h1 h2 => (hg2.2.2.2.2.1 p h1 h2).trans (gu_other h1), fun q h1 h2 h3 => (hg2.2.2.2.2.2.1 q h1).trans (gu_n (by omega)), fun p h1 h2 => hg2.2.2.2.2.2.2 p h1, by unfold gCde; rw [if_neg (show ¬ n = 0 by omega), if_neg (by omega), if_pos (by omega)]; exact (hg2.2.2.1 _ (Nat.zero_le _) (by omega)).1⟩
  · refine gg_bipush dX10_code_25 (by decide) ?_
    refine gg_ireti dX10_code_27 rfl ⟨rfl, rfl⟩ ?_
    exact ⟨I, J, rfl, fun _ _ _ => rfl, fun _ _ _ _ => rfl, fun _ _ _ => rfl, by unfold gCde; rw [if_pos (by omega)]⟩

set_option maxRecDepth 10000 in
theorem c_X10_code_out {l : Launch} {Γ : gC} {ad : Nat → Nat} {I : Nat → Nat → Int} {J : Nat → Nat → Int64} {d : Nat} {i k : Int} (hi : -2147483648 ≤ i ∧ i ≤ 2147483647) (hk : -2147483648 ≤ k ∧ k ≤ 2147483647) (ho : ¬ (0 ≤ i ∧ i ≤ 11 ∧ -3 ≤ k)) (hd : 3 ≤ d) : gKi l Γ gm_X10_code d [.ref (gad (gSS ad) 145), .int (iv i), .int (iv k)] (gSS ad, I, J) (fun e μ => μ = (gSS ad, I, J) ∧ e = -2) := by
  refine gKi_of gk_X10_code.1 (Nat.le_of_ble_eq_true rfl) ?_
  show gG l Γ gm_X10_code (d, 0, 0, 0, 0) 0 [(0, .ref (gad (gSS ad) 145)), (1, .int (iv i)), (2, .int (iv k))] [] _ _
  refine gg_iload_n dX10_code_0 1 rfl ?_
  refine gg_callSi (own := RX10) (yt := gm_X10_isFormula) rfl gl_RX10_181 gk_X10_isFormula gr_X10_isFormula dX10_code_1 (c_X10_isFormula (d := d - 1) (by omega) (by omega)) rfl rfl (Nat.le_of_ble_eq_true rfl) (by show _ ≤ d; omega) ⟨Nat.le_refl _, Nat.le_refl _⟩ (fun e1 μ' hc => ?_)
  obtain ⟨rfl, ⟨rfl, hb2⟩ | ⟨rfl, hb2⟩⟩ := hc
  · refine gg_if_eq_f (tgt := 13) dX10_code_4 (by decide) (by decide) (by decide) ?_
    refine gg_iload_n dX10_code_7 2 rfl ?_
    refine gg_bipush dX10_code_8 (by decide) ?_
    refine gg_icmp_ge (tgt := 16) dX10_code_10 (by decide) (by omega) (fun hb3 => ?_) (fun hb3 => ?_)
    · exfalso
      omega
    · refine gg_bipush dX10_code_13 (by decide) ?_
      refine gg_ireti dX10_code_15 rfl ⟨rfl, rfl⟩ ?_
      exact ⟨rfl, rfl⟩
  · refine gg_if_eq_t (tgt := 13) dX10_code_4 (by decide) (by decide) (by decide) ?_
    refine gg_bipush dX10_code_13 (by decide) ?_
    refine gg_ireti dX10_code_15 rfl ⟨rfl, rfl⟩ ?_
    exact ⟨rfl, rfl⟩

