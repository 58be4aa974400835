/-! what was told of worth, read back: the class's -/
theorem gl2i_rng (x : Int64) : -2147483648 ≤ gl2i x ∧ gl2i x ≤ 2147483647 := by
  have h1 := Int32.le_toInt x.toInt32
  have h2 := Int32.toInt_lt x.toInt32
  unfold gl2i
  omega
/-- at i the formula is worth otherwise than told -/
def gOt (n : Nat) (K : Nat → Nat) (N : Nat → Int64) (Z : Nat → Nat) (v : Nat → Int) (nm : Nat) (T : Nat → Int) (i : Nat) : Prop := ¬ gl2i (gWo n K N Z (gup v nm (i : Int))) = T i
noncomputable def gBt (P : Nat → Prop) : Nat → Int
  | 0 => 0
  | k + 1 => @ite Int (P k) (Classical.propDecidable (P k)) (gior (gBt P k) (gshl 1 (k : Int))) (gBt P k)
theorem gBt_t {P : Nat → Prop} {k : Nat} (h : P k) : gBt P (k + 1) = gior (gBt P k) (gshl 1 (k : Int)) := by simp only [gBt]; rw [if_pos h]
theorem gBt_f {P : Nat → Prop} {k : Nat} (h : ¬ P k) : gBt P (k + 1) = gBt P k := by simp only [gBt]; rw [if_neg h]
theorem gBt_congr {P Q : Nat → Prop} : ∀ k, (∀ t, t < k → (P t ↔ Q t)) → gBt P k = gBt Q k
  | 0, _ => rfl
  | k + 1, h => by
    have h1 := gBt_congr k (fun t ht => h t (by omega))
    have h2 := h k (by omega)
    by_cases hp : P k
    · rw [gBt_t hp, gBt_t (h2.1 hp), h1]
    · rw [gBt_f hp, gBt_f (fun hq => hp (h2.2 hq)), h1]
theorem gCo_congr {P Q : Nat → Prop} : ∀ k, (∀ t, t < k → (P t ↔ Q t)) → gCo P k = gCo Q k
  | 0, _ => rfl
  | k + 1, h => by
    have h1 := gCo_congr k (fun t ht => h t (by omega))
    have h2 := h k (by omega)
    by_cases hp : P k
    · rw [gCo_t hp, gCo_t (h2.1 hp), h1]
    · rw [gCo_f hp, gCo_f (fun hq => hp (h2.2 hq)), h1]
theorem gFi_congr {P Q : Nat → Prop} : ∀ k, (∀ t, t < k → (P t ↔ Q t)) → gFi P k = gFi Q k
  | 0, _ => rfl
  | k + 1, h => by
    have h1 := gFi_congr k (fun t ht => h t (by omega))
    have h2 := h k (by omega)
    by_cases hf : gFi P k = -1
    · by_cases hp : P k
      · rw [gFi_s hf hp, gFi_s (by rw [← h1]; exact hf) (h2.1 hp)]
      · rw [gFi_s3 hp, gFi_s3 (fun hq => hp (h2.2 hq)), h1]
    · rw [gFi_s2 hf, gFi_s2 (by rw [← h1]; exact hf), h1]
theorem gFi_stay {P : Nat → Prop} {k : Nat} (h : ¬ gFi P k = -1) : ∀ m, k ≤ m → gFi P m = gFi P k := by
  intro m hm
  induction m with
  | zero => rw [show k = 0 by omega]
  | succ m ih =>
    by_cases he : k = m + 1
    · rw [he]
    · rw [gFi_s2 (by rw [ih (by omega)]; exact h), ih (by omega)]
theorem gPno_rng {K : Nat → Nat} {n : Nat} {k e : Int} (h : gPno K n k e) : -1 ≤ e ∧ e < (n : Int) ∧ (0 ≤ e → K e.toNat = 0) := by
  rcases h with ⟨i, h1, rfl, h2, -⟩ | ⟨rfl, -⟩
  · exact ⟨by omega, by omega, fun _ => h2⟩
  · exact ⟨by omega, by omega, fun h => absurd h (by omega)⟩
theorem gCnt_mono {K : Nat → Nat} {i : Nat} (h : K i = 0) : ∀ j, i < j → gCnt K i < gCnt K j
  | 0, hj => absurd hj (Nat.not_lt_zero _)
  | j + 1, hj => by
    by_cases he : i = j
    · rw [← he]
      simp [gCnt, h]
    · have := gCnt_mono h j (by omega)
      simp only [gCnt]
      omega
theorem gPno_uni {K : Nat → Nat} {n : Nat} {k e e' : Int} (h : gPno K n k e) (h' : gPno K n k e') : e = e' := by
  rcases h with ⟨i, h1, rfl, h2, h3⟩ | ⟨rfl, h4⟩
  · rcases h' with ⟨j, g1, rfl, g2, g3⟩ | ⟨rfl, g4⟩
    · rcases Nat.lt_trichotomy i j with h | h | h
      · have := gCnt_mono h2 j h
        omega
      · rw [h]
      · have := gCnt_mono g2 i h
        omega
    · exact absurd h3 (g4 i h1 h2)
  · rcases h' with ⟨j, g1, rfl, g2, g3⟩ | ⟨rfl, g4⟩
    · exact absurd g3 (h4 j g1 g2)
    · rfl
/-- a row with another number at p -/
def gst (N : Nat → Int64) (p : Nat) (x : Int64) : Nat → Int64 := fun j => if j = p then x else N j
theorem gWf_st {n : Nat} {K : Nat → Nat} {N : Nat → Int64} {Z : Nat → Nat} (hW : gWf n K N Z) {p : Nat} {x : Int64} (hp : K p = 0) : gWf n K (gst N p x) Z := by
  refine ⟨hW.1, hW.2.1, fun j hj => ?_⟩
  obtain ⟨a1, a2, a3, a4, a5, a6, a7, a8, a9, a10, a11, a12, a13⟩ := hW.2.2 j hj
  by_cases he : j = p
  · subst he
    exact ⟨a1, a2, a3, a4, a5, a6, a7, a8, a9, a10, fun h => by omega, fun h => by omega, fun h => absurd hp h⟩
  · simp only [gst, if_neg he]
    exact ⟨a1, a2, a3, a4, a5, a6, a7, a8, a9, a10, a11, a12, a13⟩
theorem gAt_st {I : Nat → Nat → Int} {J : Nat → Nat → Int64} {a n : Nat} {K : Nat → Nat} {M N : Nat → Int64} {Z : Nat → Nat} {p : Nat} {x : Int64} (h : gAt I J a n K M Z) (hM : ∀ j, j ≠ p → M j = N j) : gAt I (gv J (a + 2) p x) a n K (gst N p x) Z := by
  refine ⟨h.1, fun j hj => ⟨(h.2 j hj).1, ?_, (h.2 j hj).2.2⟩⟩
  by_cases he : j = p
  · rw [he, gv_s]; simp [gst]
  · rw [gv_n (by omega), (h.2 j hj).2.1, hM j he]; simp [gst, he]
set_option maxRecDepth 10000 in
theorem w_X9_firstOtherwise {l : Launch} {Γ : gC} {ad : Nat → Nat} {I0 : Nat → Nat → Int} {J0 : Nat → Nat → Int64} {d : Nat} {a n : Nat} {K : Nat → Nat} {N : Nat → Int64} {Z : Nat → Nat} (hF : gF a) (hW : gWf n K N Z) (hn : 0 < n) (hA : gAt I0 J0 a n K N Z) {s sn : Nat} {so : Int} {T v : Nat → Int} (hs : s < 4) (hso : I0 (137 + 2 * s) 1 = so) (hsn : I0 (137 + 2 * s) 2 = (sn : Int)) (hr : -1 ≤ so ∧ so ≤ 1) (hn2 : sn ≤ 20) (hTr : ∀ j, j < sn → -2147483648 ≤ T j ∧ T j ≤ 2147483647) (hv : I0 3 = v) (hT : I0 (138 + 2 * s) = T) {nm : Nat} (hnm : nm < 8) (hd : 5 ≤ d) : ∀ (m : Nat) (i : Nat) (I : Nat → Nat → Int) (J : Nat → Nat → Int64), sn - i < m → (i ≤ sn) → (∀ p, p ≠ 7 → I p = I0 p) → (∀ p, p ≠ 26 → J p = J0 p) → (∀ q, q < 8 → q ≠ nm → I 7 q = v q) → (∀ t, t < i → ¬ gOt n K N Z v nm T t) → gG l Γ gm_X9_firstOtherwise (d, 0, 0, 0, 0) 16 [(4, .int (iv (i : Int))), (0, .ref (gad (gSS ad) 0)), (1, .ref (gad (gSS ad) (137 + 2 * s))), (2, .ref (gad (gSS ad) a)), (3, .int (iv (nm : Int)))] [] (gSS ad, I, J) (gDi (fun e μ => ∃ I' J', μ = (gSS ad, I', J') ∧ (∀ p, p ≠ 7 → I' p = I0 p) ∧ (∀ p, p ≠ 26 → J' p = J0 p) ∧ e = gFi (gOt n K N Z v nm T) sn)) := by
  intro m
  induction m with
  | zero => intros; omega
  | succ m ih =>
    intro i I J hm hi hI hJ hs7 hno
    refine gg_iload dX9_firstOtherwise_16 0 rfl ?_
    refine gg_aload_n dX9_firstOtherwise_18 2 rfl ?_
    refine gg_callVi (own := RX9) (yt := gm_X6_size) rfl gl_RX9_248 gk_X6_size gr_X6_size dX9_firstOtherwise_19 (c_X6_size (d := d - 1) hs (so := so) (sn := sn) (by rw [hI _ (by omega)]; exact hso) (by rw [hI _ (by omega)]; exact hsn) hr (by omega)) (gSt_sh hs) (gSt_lt hs) (by decide) rfl rfl rfl (Nat.le_of_ble_eq_true rfl) (by show _ ≤ d; omega) ⟨Nat.le_refl _, Nat.le_refl _⟩ (fun e1 μ' hc => ?_)
    obtain ⟨rfl, rfl⟩ := hc
    refine gg_icmp_ge (tgt := 64) dX9_firstOtherwise_22 (by decide) (by omega) (fun hx => ?_) (fun hx => ?_)
    · have h8 : i = sn := by omega
      subst h8
      refine gg_iconst dX9_firstOtherwise_64 ?_
      refine gg_ireti dX9_firstOtherwise_65 rfl ⟨rfl, rfl⟩ ?_
      exact ⟨I, J, rfl, hI, hJ, (gFi_no _ hno).symm⟩
    · have h8 : i < sn := by omega
      have hTi := hTr i h8
      refine gg_aload_n dX9_firstOtherwise_25 1 rfl ?_
      refine gg_getR (k' := 7) rfl gf_RX9_34 dX9_firstOtherwise_26 sh_0 pl_0 (by decide) (by decide) rr_0_7 ?_
      refine gg_iload_n dX9_firstOtherwise_29 4 rfl ?_
      refine gg_iload dX9_firstOtherwise_30 0 rfl ?_
      refine gg_iastj nm dX9_firstOtherwise_32 sh_7 pl_7 (by decide) rfl hnm ?_
      refine gg_memI (fun I1 hI1 => ?_)
      have hup : ∀ q, q < 8 → I1 7 q = gup (v) nm (i : Int) q := by
        intro q hq
        rw [hI1]
        by_cases hqn : q = nm
        · rw [hqn, gu_s]; simp [gup]
        · rw [gu_n (by omega), hs7 q hq hqn]; simp [gup, hqn]
      have hI1o : ∀ p, p ≠ 7 → I1 p = I0 p := fun p hp => by rw [hI1, gu_other hp]; exact hI p hp
      clear hI1
      refine gg_aload_n dX9_firstOtherwise_33 1 rfl ?_
      refine gg_getR (k' := 25) rfl gf_RX9_68 dX9_firstOtherwise_34 sh_0 pl_0 (by decide) (by decide) rr_0_12 ?_
      refine gg_aload_n dX9_firstOtherwise_37 3 rfl ?_
      refine gg_aload_n dX9_firstOtherwise_38 1 rfl ?_
      refine gg_getR (k' := 7) rfl gf_RX9_34 dX9_firstOtherwise_39 sh_0 pl_0 (by decide) (by decide) rr_0_7 ?_
      refine gg_callVl (own := RX9) (yt := gm_X8_worthOf) rfl gl_RX9_172 gk_X8_worthOf gr_X8_worthOf dX9_firstOtherwise_42 (c_X8_worthOf (d := d - 1) (hF) (gAt_7 hF hA hI1o hJ) hW (p := 7) sh_7 pl_7 (by omega)) sh_25 pl_25 (by decide) rfl rfl rfl (Nat.le_of_ble_eq_true rfl) (by show _ ≤ d; omega) ⟨Nat.le_refl _, Nat.le_refl _⟩ (fun e2 μ' hc => ?_)
      obtain ⟨J2, rfl, hw2, rfl, hJ2⟩ := hc
      refine gg_toL (b := (gWo n K N Z (gup v nm (i : Int)))) (gIsW_uni hW hup hw2 (gWc_is n K N Z _) 0 hn) ?_
      refine gg_l2i dX9_firstOtherwise_45 ?_
      refine gg_aload_n dX9_firstOtherwise_46 2 rfl ?_
      refine gg_iload dX9_firstOtherwise_47 0 rfl ?_
      refine gg_callVi (own := RX9) (yt := gm_X6_at) rfl gl_RX9_316 gk_X6_at gr_X6_at dX9_firstOtherwise_49 (c_X6_at (d := d - 1) hs (so := so) (sn := sn) (by rw [hI1o _ (by omega)]; exact hso) (by rw [hI1o _ (by omega)]; exact hsn) hr (by omega) (j := i) h8) (gSt_sh hs) (gSt_lt hs) (by decide) rfl rfl rfl (Nat.le_of_ble_eq_true rfl) (by show _ ≤ d; omega) ⟨Nat.le_refl _, Nat.le_refl _⟩ (fun e3 μ' hc => ?_)
      obtain ⟨rfl, rfl⟩ := hc
      refine gg_toI (b := T i) (by rw [hI1o _ (by omega), hT]) ?_
      refine gg_icmp_eq (tgt := 58) dX9_firstOtherwise_52 (by decide) (by have := gl2i_rng (gWo n K N Z (gup v nm (i : Int))); omega) (fun hc => ?_) (fun hc => ?_)
      · refine gg_iincv (ls' := [(4, .int (iv ((i + 1 : Nat) : Int))), (0, .ref (gad (gSS ad) 0)), (1, .ref (gad (gSS ad) (137 + 2 * s))), (2, .ref (gad (gSS ad) a)), (3, .int (iv (nm : Int)))]) dX9_firstOtherwise_58 0 rfl (by omega) (by decide) rfl ?_
        refine gg_goto (tgt := 16) dX9_firstOtherwise_61 (by decide) ?_
        refine ih (i + 1) I1 J2 (by omega) (by omega) hI1o (fun p hp => by rw [hJ2 p hp]; exact hJ p hp) (fun q hq hqn => by rw [hup q hq]; simp [gup, hqn]) (fun t ht => ?_)
        by_cases hti : t = i
        · rw [hti]
          exact fun hh => hh hc
        · exact hno t (by omega)
      · have hc2 : gOt n K N Z v nm T i := hc
        refine gg_iload dX9_firstOtherwise_55 0 rfl ?_
        refine gg_ireti dX9_firstOtherwise_57 rfl ⟨rfl, rfl⟩ ?_
        exact ⟨I1, J2, rfl, hI1o, fun p hp => by rw [hJ2 p hp]; exact hJ p hp, (gFi_at hno hc2 sn h8).symm⟩

set_option maxRecDepth 10000 in
theorem c_X9_firstOtherwise {l : Launch} {Γ : gC} {ad : Nat → Nat} {I : Nat → Nat → Int} {J : Nat → Nat → Int64} {d : Nat} {a n : Nat} {K : Nat → Nat} {N : Nat → Int64} {Z : Nat → Nat} (hF : gF a) (hW : gWf n K N Z) (hn : 0 < n) (hA : gAt I J a n K N Z) {s sn : Nat} {so : Int} {T v : Nat → Int} (hs : s < 4) (hso : I (137 + 2 * s) 1 = so) (hsn : I (137 + 2 * s) 2 = (sn : Int)) (hr : -1 ≤ so ∧ so ≤ 1) (hn2 : sn ≤ 20) (hTr : ∀ j, j < sn → -2147483648 ≤ T j ∧ T j ≤ 2147483647) (hv : I 3 = v) (hT : I (138 + 2 * s) = T) {nm : Nat} (hnm : nm < 8) (hd : 6 ≤ d) : gKi l Γ gm_X9_firstOtherwise d [.ref (gad (gSS ad) 0), .ref (gad (gSS ad) (137 + 2 * s)), .ref (gad (gSS ad) a), .int (iv (nm : Int))] (gSS ad, I, J) (fun e μ => ∃ I' J', μ = (gSS ad, I', J') ∧ (∀ p, p ≠ 7 → I' p = I p) ∧ (∀ p, p ≠ 26 → J' p = J p) ∧ e = gFi (gOt n K N Z v nm T) sn) := by
  refine gKi_of gk_X9_firstOtherwise.1 (Nat.le_of_ble_eq_true rfl) ?_
  show gG l Γ gm_X9_firstOtherwise (d, 0, 0, 0, 0) 0 [(0, .ref (gad (gSS ad) 0)), (1, .ref (gad (gSS ad) (137 + 2 * s))), (2, .ref (gad (gSS ad) a)), (3, .int (iv (nm : Int)))] [] _ _
  refine gg_iload_n dX9_firstOtherwise_0 3 rfl ?_
  refine gg_callSi (own := RX9) (yt := gm_X9_isName) rfl gl_RX9_122 gk_X9_isName gr_X9_isName dX9_firstOtherwise_1 (c_X9_isName (d := d - 1) (by omega)) rfl rfl (Nat.le_of_ble_eq_true rfl) (by show _ ≤ d; omega) ⟨Nat.le_refl _, Nat.le_refl _⟩ (fun e1 μ' hc => ?_)
  obtain ⟨rfl, ⟨rfl, hb2⟩ | ⟨rfl, hb2⟩⟩ := hc
  rotate_left
  · omega
  refine gg_if_ne_t (tgt := 9) dX9_firstOtherwise_4 (by decide) (by decide) (by decide) ?_
  refine gg_aload_n dX9_firstOtherwise_9 0 rfl ?_
  refine gg_callVv (own := RX9) (yt := gm_X9_supposeValues) rfl gl_RX9_226 gk_X9_supposeValues gr_X9_supposeValues dX9_firstOtherwise_10 (c_X9_supposeValues (d := d - 1) (by omega)) sh_0 pl_0 (by decide) rfl rfl rfl (Nat.le_of_ble_eq_true rfl) (by show _ ≤ d; omega) ⟨Nat.le_refl _, Nat.le_refl _⟩ (fun μ' hc => ?_)
  obtain ⟨I2, rfl, hI2, hs2⟩ := hc
  refine gg_iconst dX9_firstOtherwise_13 ?_
  refine gg_istore (ls' := [(4, .int (iv 0)), (0, .ref (gad (gSS ad) 0)), (1, .ref (gad (gSS ad) (137 + 2 * s))), (2, .ref (gad (gSS ad) a)), (3, .int (iv (nm : Int)))]) dX9_firstOtherwise_14 (by decide) rfl ?_
  refine gg_sub [0, 1, 2, 3, 4] rfl ?_
  refine gG_post (w_X9_firstOtherwise hF hW hn (I0 := I2) (J0 := J) (gAt_7 hF hA hI2 (fun _ _ => rfl)) (so := so) (sn := sn) (T := T) (v := v) hs (by rw [hI2 _ (by omega)]; exact hso) (by rw [hI2 _ (by omega)]; exact hsn) hr hn2 hTr (by rw [hI2 _ (by omega)]; exact hv) (by rw [hI2 _ (by omega)]; exact hT) hnm (by omega) (sn + 1) 0 I2 J (by omega) (by omega) (fun _ _ => rfl) (fun _ _ => rfl) (fun q hq _ => by rw [hs2 q hq, hv]) (fun t ht => absurd ht (Nat.not_lt_zero _))) ?_
  rintro r μ ⟨e, rfl, I3, J3, rfl, hI3, hJ3, he⟩
  exact ⟨e, rfl, I3, J3, rfl, fun p hp => by rw [hI3 p hp, hI2 p hp], hJ3, he⟩

set_option maxRecDepth 10000 in
theorem w_X9_formulasTold {l : Launch} {Γ : gC} {ad : Nat → Nat} {I0 : Nat → Nat → Int} {J0 : Nat → Nat → Int64} {d : Nat} {nf : Nat → Nat} {Kf : Nat → Nat → Nat} {Nf : Nat → Nat → Int64} {Zf : Nat → Nat → Nat} (hA : ∀ f, f < 12 → gAt I0 J0 (41 + 8 * f) (nf f) (Kf f) (Nf f) (Zf f)) (hW : ∀ f, f < 12 → gWf (nf f) (Kf f) (Nf f) (Zf f)) {s sn : Nat} {so : Int} {T v : Nat → Int} (hs : s < 4) (hso : I0 (137 + 2 * s) 1 = so) (hsn : I0 (137 + 2 * s) 2 = (sn : Int)) (hr : -1 ≤ so ∧ so ≤ 1) (hn2 : sn ≤ 20) (hTr : ∀ j, j < sn → -2147483648 ≤ T j ∧ T j ≤ 2147483647) (hv : I0 3 = v) (hT : I0 (138 + 2 * s) = T) {nm : Nat} (hnm : nm < 8) (hd : 7 ≤ d) : ∀ (m : Nat) (i : Nat) (I : Nat → Nat → Int) (J : Nat → Nat → Int64), 12 - i < m → (i ≤ 12) → (∀ p, p ≠ 7 → I p = I0 p) → (∀ p, p ≠ 26 → J p = J0 p) → gG l Γ gm_X9_formulasTold (d, 0, 0, 0, 0) 5 [(4, .int (iv (i : Int))), (3, .int (iv (gBt (fun k : Nat => 0 < nf k ∧ gFi (gOt (nf k) (Kf k) (Nf k) (Zf k) v nm T) sn = -1) i))), (0, .ref (gad (gSS ad) 0)), (1, .ref (gad (gSS ad) (137 + 2 * s))), (2, .int (iv (nm : Int)))] [] (gSS ad, I, J) (gDi (fun e μ => ∃ I' J', μ = (gSS ad, I', J') ∧ (∀ p, p ≠ 7 → I' p = I0 p) ∧ (∀ p, p ≠ 26 → J' p = J0 p) ∧ e = gBt (fun k : Nat => 0 < nf k ∧ gFi (gOt (nf k) (Kf k) (Nf k) (Zf k) v nm T) sn = -1) 12)) := by
  intro m
  induction m with
  | zero => intros; omega
  | succ m ih =>
    intro i I J hm hi hI hJ
    refine gg_iload dX9_formulasTold_5 0 rfl ?_
    refine gg_bipush dX9_formulasTold_7 (by decide) ?_
    refine gg_icmp_ge (tgt := 55) dX9_formulasTold_9 (by decide) (by omega) (fun hx => ?_) (fun hx => ?_)
    · have h8 : i = 12 := by omega
      subst h8
      refine gg_iload_n dX9_formulasTold_55 1 rfl ?_
      refine gg_ireti dX9_formulasTold_56 rfl ⟨rfl, rfl⟩ ?_
      exact ⟨I, J, rfl, hI, hJ, rfl⟩
    · have h8 : i < 12 := by omega
      have hWi := hW i h8
      have hAi : gAt I J (41 + 8 * i) (nf i) (Kf i) (Nf i) (Zf i) := gAt_7 (gF_fo i h8) (hA i h8) hI hJ
      have hfr := gFi_rng (P := gOt (nf i) (Kf i) (Nf i) (Zf i) v nm T) sn
      refine gg_aload_n dX9_formulasTold_12 2 rfl ?_
      refine gg_getR (k' := 1) rfl gf_RX9_11 dX9_formulasTold_13 sh_0 pl_0 (by decide) (by decide) rr_0_0 ?_
      refine gg_iload dX9_formulasTold_16 0 rfl ?_
      refine gg_aaldj (t := 4) i (k' := (41 + 8 * i)) dX9_formulasTold_18 sh_1 (by decide) pl_1 (by decide) rfl h8 (rr_1 h8) ?_
      refine gg_callVi (own := RX9) (yt := gm_X1_isEmpty) rfl gl_RX9_128 gk_X1_isEmpty gr_X1_isEmpty dX9_formulasTold_19 (c_X1_isEmpty (d := d - 1) (gF_fo i h8) hAi hWi.1) (gFsh (gF_fo i h8)) (gFlt (gF_fo i h8)) (by decide) rfl rfl rfl (Nat.le_of_ble_eq_true rfl) (by show _ ≤ d; omega) ⟨Nat.le_refl _, Nat.le_refl _⟩ (fun e1 μ' hc => ?_)
      obtain ⟨rfl, ⟨rfl, he⟩ | ⟨rfl, he⟩⟩ := hc
      · have hnp : ¬ (fun k : Nat => 0 < nf k ∧ gFi (gOt (nf k) (Kf k) (Nf k) (Zf k) v nm T) sn = -1) i := fun hh => absurd hh.1 (by omega)
        refine gg_if_ne_t (tgt := 49) dX9_formulasTold_22 (by decide) (by decide) (by decide) ?_
        refine gg_iincv (ls' := [(4, .int (iv ((i + 1 : Nat) : Int))), (3, .int (iv (gBt (fun k : Nat => 0 < nf k ∧ gFi (gOt (nf k) (Kf k) (Nf k) (Zf k) v nm T) sn = -1) i))), (0, .ref (gad (gSS ad) 0)), (1, .ref (gad (gSS ad) (137 + 2 * s))), (2, .int (iv (nm : Int)))]) dX9_formulasTold_49 0 rfl (by omega) (by decide) rfl ?_
        refine gg_goto (tgt := 5) dX9_formulasTold_52 (by decide) ?_
        rw [← gBt_f (P := (fun k : Nat => 0 < nf k ∧ gFi (gOt (nf k) (Kf k) (Nf k) (Zf k) v nm T) sn = -1)) hnp]
        exact ih (i + 1) I J (by omega) (by omega) hI hJ
      · refine gg_if_ne_f (tgt := 49) dX9_formulasTold_22 (by decide) (by decide) (by decide) ?_
        refine gg_aload_n dX9_formulasTold_25 2 rfl ?_
        refine gg_aload_n dX9_formulasTold_26 3 rfl ?_
        refine gg_aload_n dX9_formulasTold_27 2 rfl ?_
        refine gg_getR (k' := 1) rfl gf_RX9_11 dX9_formulasTold_28 sh_0 pl_0 (by decide) (by decide) rr_0_0 ?_
        refine gg_iload dX9_formulasTold_31 0 rfl ?_
        refine gg_aaldj (t := 4) i (k' := (41 + 8 * i)) dX9_formulasTold_33 sh_1 (by decide) pl_1 (by decide) rfl (by omega) (rr_1 (by omega)) ?_
        refine gg_iload_n dX9_formulasTold_34 4 rfl ?_
        refine gg_callVi (own := RX9) (yt := gm_X9_firstOtherwise) rfl gl_RX9_249 gk_X9_firstOtherwise gr_X9_firstOtherwise dX9_formulasTold_35 (c_X9_firstOtherwise (d := d - 1) (gF_fo i h8) hWi (by omega) hAi (so := so) (sn := sn) (T := T) (v := v) hs (by rw [hI _ (by omega)]; exact hso) (by rw [hI _ (by omega)]; exact hsn) hr hn2 hTr (by rw [hI _ (by omega)]; exact hv) (by rw [hI _ (by omega)]; exact hT) (nm := nm) hnm (by omega)) sh_0 pl_0 (by decide) rfl rfl rfl (Nat.le_of_ble_eq_true rfl) (by show _ ≤ d; omega) ⟨Nat.le_refl _, Nat.le_refl _⟩ (fun e2 μ' hc => ?_)
        obtain ⟨I2, J2, rfl, hI2, hJ2, rfl⟩ := hc
        refine gg_iconst dX9_formulasTold_38 ?_
        refine gg_icmp_ne (tgt := 49) dX9_formulasTold_39 (by decide) (by omega) (fun hc => ?_) (fun hc => ?_)
        · have hnp : ¬ (fun k : Nat => 0 < nf k ∧ gFi (gOt (nf k) (Kf k) (Nf k) (Zf k) v nm T) sn = -1) i := fun hh => hc hh.2
          refine gg_iincv (ls' := [(4, .int (iv ((i + 1 : Nat) : Int))), (3, .int (iv (gBt (fun k : Nat => 0 < nf k ∧ gFi (gOt (nf k) (Kf k) (Nf k) (Zf k) v nm T) sn = -1) i))), (0, .ref (gad (gSS ad) 0)), (1, .ref (gad (gSS ad) (137 + 2 * s))), (2, .int (iv (nm : Int)))]) dX9_formulasTold_49 0 rfl (by omega) (by decide) rfl ?_
          refine gg_goto (tgt := 5) dX9_formulasTold_52 (by decide) ?_
          rw [← gBt_f (P := (fun k : Nat => 0 < nf k ∧ gFi (gOt (nf k) (Kf k) (Nf k) (Zf k) v nm T) sn = -1)) hnp]
          exact ih (i + 1) I2 J2 (by omega) (by omega) (fun p hp => by rw [hI2 p hp]; exact hI p hp) (fun p hp => by rw [hJ2 p hp]; exact hJ p hp)
        · have hpp : (fun k : Nat => 0 < nf k ∧ gFi (gOt (nf k) (Kf k) (Nf k) (Zf k) v nm T) sn = -1) i := ⟨by omega, hc⟩
          refine gg_iload_n dX9_formulasTold_42 1 rfl ?_
          refine gg_iconst dX9_formulasTold_43 ?_
          refine gg_iload dX9_formulasTold_44 0 rfl ?_
          refine gg_ishl dX9_formulasTold_46 ?_
          refine gg_ior dX9_formulasTold_47 ?_
          refine gg_toI (b := gBt (fun k : Nat => 0 < nf k ∧ gFi (gOt (nf k) (Kf k) (Nf k) (Zf k) v nm T) sn = -1) (i + 1)) (gBt_t (P := (fun k : Nat => 0 < nf k ∧ gFi (gOt (nf k) (Kf k) (Nf k) (Zf k) v nm T) sn = -1)) hpp).symm ?_
          refine gg_istore_n (ls' := [(3, .int (iv (gBt (fun k : Nat => 0 < nf k ∧ gFi (gOt (nf k) (Kf k) (Nf k) (Zf k) v nm T) sn = -1) (i + 1)))), (4, .int (iv (i : Int))), (0, .ref (gad (gSS ad) 0)), (1, .ref (gad (gSS ad) (137 + 2 * s))), (2, .int (iv (nm : Int)))]) dX9_formulasTold_48 rfl (by decide) rfl ?_
          refine gg_iincv (ls' := [(4, .int (iv ((i + 1 : Nat) : Int))), (3, .int (iv (gBt (fun k : Nat => 0 < nf k ∧ gFi (gOt (nf k) (Kf k) (Nf k) (Zf k) v nm T) sn = -1) (i + 1)))), (0, .ref (gad (gSS ad) 0)), (1, .ref (gad (gSS ad) (137 + 2 * s))), (2, .int (iv (nm : Int)))]) dX9_formulasTold_49 1 rfl (by omega) (by decide) rfl ?_
          refine gg_goto (tgt := 5) dX9_formulasTold_52 (by decide) ?_
          exact ih (i + 1) I2 J2 (by omega) (by omega) (fun p hp => by rw [hI2 p hp]; exact hI p hp) (fun p hp => by rw [hJ2 p hp]; exact hJ p hp)

set_option maxRecDepth 10000 in
theorem c_X9_formulasTold {l : Launch} {Γ : gC} {ad : Nat → Nat} {I : Nat → Nat → Int} {J : Nat → Nat → Int64} {d : Nat} {nf : Nat → Nat} {Kf : Nat → Nat → Nat} {Nf : Nat → Nat → Int64} {Zf : Nat → Nat → Nat} (hA : ∀ f, f < 12 → gAt I J (41 + 8 * f) (nf f) (Kf f) (Nf f) (Zf f)) (hW : ∀ f, f < 12 → gWf (nf f) (Kf f) (Nf f) (Zf f)) {s sn : Nat} {so : Int} {T v : Nat → Int} (hs : s < 4) (hso : I (137 + 2 * s) 1 = so) (hsn : I (137 + 2 * s) 2 = (sn : Int)) (hr : -1 ≤ so ∧ so ≤ 1) (hn2 : sn ≤ 20) (hTr : ∀ j, j < sn → -2147483648 ≤ T j ∧ T j ≤ 2147483647) (hv : I 3 = v) (hT : I (138 + 2 * s) = T) {nm : Nat} (hnm : nm < 8) (hd : 7 ≤ d) : gKi l Γ gm_X9_formulasTold d [.ref (gad (gSS ad) 0), .ref (gad (gSS ad) (137 + 2 * s)), .int (iv (nm : Int))] (gSS ad, I, J) (fun e μ => ∃ I' J', μ = (gSS ad, I', J') ∧ (∀ p, p ≠ 7 → I' p = I p) ∧ (∀ p, p ≠ 26 → J' p = J p) ∧ e = gBt (fun k : Nat => 0 < nf k ∧ gFi (gOt (nf k) (Kf k) (Nf k) (Zf k) v nm T) sn = -1) 12) := by
  refine gKi_of gk_X9_formulasTold.1 (Nat.le_of_ble_eq_true rfl) ?_
  show gG l Γ gm_X9_formulasTold (d, 0, 0, 0, 0) 0 [(0, .ref (gad (gSS ad) 0)), (1, .ref (gad (gSS ad) (137 + 2 * s))), (2, .int (iv (nm : Int)))] [] _ _
  refine gg_iconst dX9_formulasTold_0 ?_
  refine gg_istore_n (ls' := [(3, .int (iv 0)), (0, .ref (gad (gSS ad) 0)), (1, .ref (gad (gSS ad) (137 + 2 * s))), (2, .int (iv (nm : Int)))]) dX9_formulasTold_1 rfl (by decide) rfl ?_
  refine gg_iconst dX9_formulasTold_2 ?_
  refine gg_istore (ls' := [(4, .int (iv 0)), (3, .int (iv 0)), (0, .ref (gad (gSS ad) 0)), (1, .ref (gad (gSS ad) (137 + 2 * s))), (2, .int (iv (nm : Int)))]) dX9_formulasTold_3 (by decide) rfl ?_
  refine gg_sub [0, 1, 2, 3, 4] rfl ?_
  exact w_X9_formulasTold hA hW hs hso hsn hr hn2 hTr hv hT hnm hd 13 0 I J (by omega) (by omega) (fun _ _ => rfl) (fun _ _ => rfl)

set_option maxRecDepth 10000 in
theorem w_X9_namesTold {l : Launch} {Γ : gC} {ad : Nat → Nat} {I0 : Nat → Nat → Int} {J0 : Nat → Nat → Int64} {d : Nat} {a n : Nat} {K : Nat → Nat} {N : Nat → Int64} {Z : Nat → Nat} (hF : gF a) (hW : gWf n K N Z) (hn : 0 < n) (hA : gAt I0 J0 a n K N Z) {s sn : Nat} {so : Int} {T v : Nat → Int} (hs : s < 4) (hso : I0 (137 + 2 * s) 1 = so) (hsn : I0 (137 + 2 * s) 2 = (sn : Int)) (hr : -1 ≤ so ∧ so ≤ 1) (hn2 : sn ≤ 20) (hTr : ∀ j, j < sn → -2147483648 ≤ T j ∧ T j ≤ 2147483647) (hv : I0 3 = v) (hT : I0 (138 + 2 * s) = T) (hd : 7 ≤ d) : ∀ (m : Nat) (i : Nat) (I : Nat → Nat → Int) (J : Nat → Nat → Int64), 8 - i < m → (i ≤ 8) → (∀ p, p ≠ 7 → I p = I0 p) → (∀ p, p ≠ 26 → J p = J0 p) → gG l Γ gm_X9_namesTold (d, 0, 0, 0, 0) 5 [(4, .int (iv (i : Int))), (3, .int (iv (gBt (fun k : Nat => gFi (gOt n K N Z v k T) sn = -1) i))), (0, .ref (gad (gSS ad) 0)), (1, .ref (gad (gSS ad) (137 + 2 * s))), (2, .ref (gad (gSS ad) a))] [] (gSS ad, I, J) (gDi (fun e μ => ∃ I' J', μ = (gSS ad, I', J') ∧ (∀ p, p ≠ 7 → I' p = I0 p) ∧ (∀ p, p ≠ 26 → J' p = J0 p) ∧ e = gBt (fun k : Nat => gFi (gOt n K N Z v k T) sn = -1) 8)) := by
  intro m
  induction m with
  | zero => intros; omega
  | succ m ih =>
    intro i I J hm hi hI hJ
    refine gg_iload dX9_namesTold_5 0 rfl ?_
    refine gg_bipush dX9_namesTold_7 (by decide) ?_
    refine gg_icmp_ge (tgt := 37) dX9_namesTold_9 (by decide) (by omega) (fun hx => ?_) (fun hx => ?_)
    · have h8 : i = 8 := by omega
      subst h8
      refine gg_iload_n dX9_namesTold_37 1 rfl ?_
      refine gg_ireti dX9_namesTold_38 rfl ⟨rfl, rfl⟩ ?_
      exact ⟨I, J, rfl, hI, hJ, rfl⟩
    · have h8 : i < 8 := by omega
      have hfr := gFi_rng (P := gOt n K N Z v i T) sn
      refine gg_aload_n dX9_namesTold_12 2 rfl ?_
      refine gg_aload_n dX9_namesTold_13 3 rfl ?_
      refine gg_aload_n dX9_namesTold_14 4 rfl ?_
      refine gg_iload dX9_namesTold_15 0 rfl ?_
      refine gg_callVi (own := RX9) (yt := gm_X9_firstOtherwise) rfl gl_RX9_249 gk_X9_firstOtherwise gr_X9_firstOtherwise dX9_namesTold_17 (c_X9_firstOtherwise (d := d - 1) hF hW hn (gAt_7 hF hA hI hJ) (so := so) (sn := sn) (T := T) (v := v) hs (by rw [hI _ (by omega)]; exact hso) (by rw [hI _ (by omega)]; exact hsn) hr hn2 hTr (by rw [hI _ (by omega)]; exact hv) (by rw [hI _ (by omega)]; exact hT) (nm := i) h8 (by omega)) sh_0 pl_0 (by decide) rfl rfl rfl (Nat.le_of_ble_eq_true rfl) (by show _ ≤ d; omega) ⟨Nat.le_refl _, Nat.le_refl _⟩ (fun e1 μ' hc => ?_)
      obtain ⟨I2, J2, rfl, hI2, hJ2, rfl⟩ := hc
      refine gg_iconst dX9_namesTold_20 ?_
      refine gg_icmp_ne (tgt := 31) dX9_namesTold_21 (by decide) (by omega) (fun hc => ?_) (fun hc => ?_)
      · have hnp : ¬ (fun k : Nat => gFi (gOt n K N Z v k T) sn = -1) i := hc
        refine gg_iincv (ls' := [(4, .int (iv ((i + 1 : Nat) : Int))), (3, .int (iv (gBt (fun k : Nat => gFi (gOt n K N Z v k T) sn = -1) i))), (0, .ref (gad (gSS ad) 0)), (1, .ref (gad (gSS ad) (137 + 2 * s))), (2, .ref (gad (gSS ad) a))]) dX9_namesTold_31 0 rfl (by omega) (by decide) rfl ?_
        refine gg_goto (tgt := 5) dX9_namesTold_34 (by decide) ?_
        rw [← gBt_f (P := (fun k : Nat => gFi (gOt n K N Z v k T) sn = -1)) hnp]
        exact ih (i + 1) I2 J2 (by omega) (by omega) (fun p hp => by rw [hI2 p hp]; exact hI p hp) (fun p hp => by rw [hJ2 p hp]; exact hJ p hp)
      · have hpp : (fun k : Nat => gFi (gOt n K N Z v k T) sn = -1) i := hc
        refine gg_iload_n dX9_namesTold_24 1 rfl ?_
        refine gg_iconst dX9_namesTold_25 ?_
        refine gg_iload dX9_namesTold_26 0 rfl ?_
        refine gg_ishl dX9_namesTold_28 ?_
        refine gg_ior dX9_namesTold_29 ?_
        refine gg_toI (b := gBt (fun k : Nat => gFi (gOt n K N Z v k T) sn = -1) (i + 1)) (gBt_t (P := (fun k : Nat => gFi (gOt n K N Z v k T) sn = -1)) hpp).symm ?_
        refine gg_istore_n (ls' := [(3, .int (iv (gBt (fun k : Nat => gFi (gOt n K N Z v k T) sn = -1) (i + 1)))), (4, .int (iv (i : Int))), (0, .ref (gad (gSS ad) 0)), (1, .ref (gad (gSS ad) (137 + 2 * s))), (2, .ref (gad (gSS ad) a))]) dX9_namesTold_30 rfl (by decide) rfl ?_
        refine gg_iincv (ls' := [(4, .int (iv ((i + 1 : Nat) : Int))), (3, .int (iv (gBt (fun k : Nat => gFi (gOt n K N Z v k T) sn = -1) (i + 1)))), (0, .ref (gad (gSS ad) 0)), (1, .ref (gad (gSS ad) (137 + 2 * s))), (2, .ref (gad (gSS ad) a))]) dX9_namesTold_31 1 rfl (by omega) (by decide) rfl ?_
        refine gg_goto (tgt := 5) dX9_namesTold_34 (by decide) ?_
        exact ih (i + 1) I2 J2 (by omega) (by omega) (fun p hp => by rw [hI2 p hp]; exact hI p hp) (fun p hp => by rw [hJ2 p hp]; exact hJ p hp)

set_option maxRecDepth 10000 in
theorem c_X9_namesTold {l : Launch} {Γ : gC} {ad : Nat → Nat} {I : Nat → Nat → Int} {J : Nat → Nat → Int64} {d : Nat} {a n : Nat} {K : Nat → Nat} {N : Nat → Int64} {Z : Nat → Nat} (hF : gF a) (hW : gWf n K N Z) (hn : 0 < n) (hA : gAt I J a n K N Z) {s sn : Nat} {so : Int} {T v : Nat → Int} (hs : s < 4) (hso : I (137 + 2 * s) 1 = so) (hsn : I (137 + 2 * s) 2 = (sn : Int)) (hr : -1 ≤ so ∧ so ≤ 1) (hn2 : sn ≤ 20) (hTr : ∀ j, j < sn → -2147483648 ≤ T j ∧ T j ≤ 2147483647) (hv : I 3 = v) (hT : I (138 + 2 * s) = T) (hd : 7 ≤ d) : gKi l Γ gm_X9_namesTold d [.ref (gad (gSS ad) 0), .ref (gad (gSS ad) (137 + 2 * s)), .ref (gad (gSS ad) a)] (gSS ad, I, J) (fun e μ => ∃ I' J', μ = (gSS ad, I', J') ∧ (∀ p, p ≠ 7 → I' p = I p) ∧ (∀ p, p ≠ 26 → J' p = J p) ∧ e = gBt (fun k : Nat => gFi (gOt n K N Z v k T) sn = -1) 8) := by
  refine gKi_of gk_X9_namesTold.1 (Nat.le_of_ble_eq_true rfl) ?_
  show gG l Γ gm_X9_namesTold (d, 0, 0, 0, 0) 0 [(0, .ref (gad (gSS ad) 0)), (1, .ref (gad (gSS ad) (137 + 2 * s))), (2, .ref (gad (gSS ad) a))] [] _ _
  refine gg_iconst dX9_namesTold_0 ?_
  refine gg_istore_n (ls' := [(3, .int (iv 0)), (0, .ref (gad (gSS ad) 0)), (1, .ref (gad (gSS ad) (137 + 2 * s))), (2, .ref (gad (gSS ad) a))]) dX9_namesTold_1 rfl (by decide) rfl ?_
  refine gg_iconst dX9_namesTold_2 ?_
  refine gg_istore (ls' := [(4, .int (iv 0)), (3, .int (iv 0)), (0, .ref (gad (gSS ad) 0)), (1, .ref (gad (gSS ad) (137 + 2 * s))), (2, .ref (gad (gSS ad) a))]) dX9_namesTold_3 (by decide) rfl ?_
  refine gg_sub [0, 1, 2, 3, 4] rfl ?_
  exact w_X9_namesTold hF hW hn hA hs hso hsn hr hn2 hTr hv hT hd 9 0 I J (by omega) (by omega) (fun _ _ => rfl) (fun _ _ => rfl)

set_option maxRecDepth 10000 in
theorem w_X9_numbersTold {l : Launch} {Γ : gC} {ad : Nat → Nat} {I0 : Nat → Nat → Int} {J0 : Nat → Nat → Int64} {d : Nat} {a n : Nat} {K : Nat → Nat} {N : Nat → Int64} {Z : Nat → Nat} (hW : gWf n K N Z) {s sn : Nat} {so : Int} {T v : Nat → Int} (hs : s < 4) (hso : I0 (137 + 2 * s) 1 = so) (hsn : I0 (137 + 2 * s) 2 = (sn : Int)) (hr : -1 ≤ so ∧ so ≤ 1) (hn2 : sn ≤ 20) (hTr : ∀ j, j < sn → -2147483648 ≤ T j ∧ T j ≤ 2147483647) (hv : I0 3 = v) (hT : I0 (138 + 2 * s) = T) {nm pl : Nat} {le : Int} (hnm : nm < 8) (hpl : pl < n) (hk0 : K pl = 0) (hle : le = 0 ∨ le = 1) (hd : 7 ≤ d) : ∀ (m : Nat) (i : Nat) (I : Nat → Nat → Int) (J : Nat → Nat → Int64) (M : Nat → Int64), 100 - i < m → (i ≤ 100) → (∀ p, p ≠ 7 → I p = I0 p) → (∀ p, p ≠ 26 → p ≠ 10 → J p = J0 p) → (gAt I J 8 n K M Z) → (∀ j, j ≠ pl → M j = N j) → (le = 1 → ∀ t, t < i → ¬ (fun t : Nat => gFi (gOt n K (gst N pl (gi2l (t : Int))) Z v nm T) sn = -1) t) → gG l Γ gm_X9_numbersTold (d, 0, 0, 0, 0) 14 [(7, .int (iv (i : Int))), (6, .int (iv (gCo (fun t : Nat => gFi (gOt n K (gst N pl (gi2l (t : Int))) Z v nm T) sn = -1) i : Int))), (0, .ref (gad (gSS ad) 0)), (1, .ref (gad (gSS ad) (137 + 2 * s))), (2, .ref (gad (gSS ad) a)), (3, .int (iv (nm : Int))), (4, .int (iv (pl : Int))), (5, .int (iv le))] [] (gSS ad, I, J) (gDi (fun e μ => ∃ I' J', μ = (gSS ad, I', J') ∧ (∀ p, p ≠ 7 → I' p = I0 p) ∧ (∀ p, p ≠ 26 → p ≠ 10 → J' p = J0 p) ∧ e = (if le = 1 then gFi (fun t : Nat => gFi (gOt n K (gst N pl (gi2l (t : Int))) Z v nm T) sn = -1) 100 else (gCo (fun t : Nat => gFi (gOt n K (gst N pl (gi2l (t : Int))) Z v nm T) sn = -1) 100 : Int)))) := by
  intro m
  induction m with
  | zero => intros; omega
  | succ m ih =>
    intro i I J M hm hi hI hJ hA8 hMN hno
    refine gg_iload dX9_numbersTold_14 0 rfl ?_
    refine gg_bipush dX9_numbersTold_16 (by decide) ?_
    refine gg_icmp_ge (tgt := 64) dX9_numbersTold_18 (by decide) (by omega) (fun hx => ?_) (fun hx => ?_)
    · have h8 : i = 100 := by omega
      subst h8
      refine gg_iload dX9_numbersTold_64 7 rfl ?_
      refine gg_if_eq (tgt := 73) dX9_numbersTold_66 (by decide) (by omega) (fun hl2 => ?_) (fun hl2 => ?_)
      · refine gg_iload dX9_numbersTold_73 1 rfl ?_
        refine gg_ireti dX9_numbersTold_75 rfl ⟨rfl, rfl⟩ ?_
        refine ⟨I, J, rfl, hI, hJ, ?_⟩
        rw [if_neg (show ¬ le = 1 by omega)]
      · refine gg_iconst dX9_numbersTold_69 ?_
        refine gg_goto (tgt := 75) dX9_numbersTold_70 (by decide) ?_
        refine gg_ireti dX9_numbersTold_75 rfl ⟨rfl, rfl⟩ ?_
        refine ⟨I, J, rfl, hI, hJ, ?_⟩
        rw [if_pos (show le = 1 by omega)]
        exact (gFi_no _ (hno (by omega))).symm
    · have h8 : i < 100 := by omega
      have hfr := gFi_rng (P := gOt n K (gst N pl (gi2l (i : Int))) Z v nm T) sn
      have hnn := hW.1
      refine gg_aload_n dX9_numbersTold_21 2 rfl ?_
      refine gg_getR (k' := 8) rfl gf_RX9_38 dX9_numbersTold_22 sh_0 pl_0 (by decide) (by decide) rr_0_8 ?_
      refine gg_iload dX9_numbersTold_25 6 rfl ?_
      refine gg_iload dX9_numbersTold_27 0 rfl ?_
      refine gg_i2l dX9_numbersTold_29 ?_
      refine gg_callVv (own := RX9) (yt := gm_X1_setNumber) rfl gl_RX9_319 gk_X1_setNumber gr_X1_setNumber dX9_numbersTold_30 (c_X1_setNumber (d := d - 1) gF_8 hA8 hW.1 (j := pl) (x := gi2l (i : Int)) hpl (by omega)) sh_8 pl_8 (by decide) rfl rfl rfl (Nat.le_of_ble_eq_true rfl) (by show _ ≤ d; omega) ⟨Nat.le_refl _, Nat.le_refl _⟩ (fun μ' hc => ?_)
      obtain rfl := hc
      refine gg_memJ (fun J1 hJ1 => ?_)
      have hJ1o : ∀ p, p ≠ 10 → J1 p = J p := fun p hp => by rw [hJ1]; exact gv_other (by omega)
      have hA9 : gAt I J1 8 n K (gst N pl (gi2l (i : Int))) Z := by rw [hJ1]; exact gAt_st hA8 hMN
      clear hJ1
      refine gg_aload_n dX9_numbersTold_33 2 rfl ?_
      refine gg_aload_n dX9_numbersTold_34 3 rfl ?_
      refine gg_aload_n dX9_numbersTold_35 2 rfl ?_
      refine gg_getR (k' := 8) rfl gf_RX9_38 dX9_numbersTold_36 sh_0 pl_0 (by decide) (by decide) rr_0_8 ?_
      refine gg_iload_n dX9_numbersTold_39 5 rfl ?_
      refine gg_callVi (own := RX9) (yt := gm_X9_firstOtherwise) rfl gl_RX9_249 gk_X9_firstOtherwise gr_X9_firstOtherwise dX9_numbersTold_40 (c_X9_firstOtherwise (d := d - 1) gF_8 (gWf_st hW hk0) (by omega) hA9 (so := so) (sn := sn) (T := T) (v := v) hs (by rw [hI _ (by omega)]; exact hso) (by rw [hI _ (by omega)]; exact hsn) hr hn2 hTr (by rw [hI _ (by omega)]; exact hv) (by rw [hI _ (by omega)]; exact hT) (nm := nm) hnm (by omega)) sh_0 pl_0 (by decide) rfl rfl rfl (Nat.le_of_ble_eq_true rfl) (by show _ ≤ d; omega) ⟨Nat.le_refl _, Nat.le_refl _⟩ (fun e2 μ' hc => ?_)
      obtain ⟨I2, J2, rfl, hI2, hJ2, rfl⟩ := hc
      refine gg_iconst dX9_numbersTold_43 ?_
      refine gg_icmp_ne (tgt := 58) dX9_numbersTold_44 (by decide) (by omega) (fun hc => ?_) (fun hc => ?_)
      · have hnp : ¬ (fun t : Nat => gFi (gOt n K (gst N pl (gi2l (t : Int))) Z v nm T) sn = -1) i := hc
        refine gg_iincv (ls' := [(7, .int (iv ((i + 1 : Nat) : Int))), (6, .int (iv (gCo (fun t : Nat => gFi (gOt n K (gst N pl (gi2l (t : Int))) Z v nm T) sn = -1) i : Int))), (0, .ref (gad (gSS ad) 0)), (1, .ref (gad (gSS ad) (137 + 2 * s))), (2, .ref (gad (gSS ad) a)), (3, .int (iv (nm : Int))), (4, .int (iv (pl : Int))), (5, .int (iv le))]) dX9_numbersTold_58 0 rfl (by omega) (by decide) rfl ?_
        refine gg_goto (tgt := 14) dX9_numbersTold_61 (by decide) ?_
        rw [← gCo_f (P := (fun t : Nat => gFi (gOt n K (gst N pl (gi2l (t : Int))) Z v nm T) sn = -1)) hnp]
        refine ih (i + 1) I2 J2 (gst N pl (gi2l (i : Int))) (by omega) (by omega) (fun p hp => by rw [hI2 p hp]; exact hI p hp) (fun p h1 h2 => by rw [hJ2 p h1, hJ1o p h2]; exact hJ p h1 h2) (gAt_7 gF_8 hA9 hI2 hJ2) (fun j hj => by simp [gst, hj]) (fun hl1 t ht => ?_)
        by_cases hti : t = i
        · rw [hti]
          exact hnp
        · exact hno hl1 t (by omega)
      · have hpp : (fun t : Nat => gFi (gOt n K (gst N pl (gi2l (t : Int))) Z v nm T) sn = -1) i := hc
        refine gg_iload dX9_numbersTold_47 7 rfl ?_
        refine gg_if_eq (tgt := 55) dX9_numbersTold_49 (by decide) (by omega) (fun hl => ?_) (fun hl => ?_)
        · refine gg_iincv (ls' := [(6, .int (iv (gCo (fun t : Nat => gFi (gOt n K (gst N pl (gi2l (t : Int))) Z v nm T) sn = -1) (i + 1) : Int))), (7, .int (iv (i : Int))), (0, .ref (gad (gSS ad) 0)), (1, .ref (gad (gSS ad) (137 + 2 * s))), (2, .ref (gad (gSS ad) a)), (3, .int (iv (nm : Int))), (4, .int (iv (pl : Int))), (5, .int (iv le))]) dX9_numbersTold_55 1 rfl (by rw [gCo_t (P := (fun t : Nat => gFi (gOt n K (gst N pl (gi2l (t : Int))) Z v nm T) sn = -1)) hpp]; rfl) (by decide) rfl ?_
          refine gg_iincv (ls' := [(7, .int (iv ((i + 1 : Nat) : Int))), (6, .int (iv (gCo (fun t : Nat => gFi (gOt n K (gst N pl (gi2l (t : Int))) Z v nm T) sn = -1) (i + 1) : Int))), (0, .ref (gad (gSS ad) 0)), (1, .ref (gad (gSS ad) (137 + 2 * s))), (2, .ref (gad (gSS ad) a)), (3, .int (iv (nm : Int))), (4, .int (iv (pl : Int))), (5, .int (iv le))]) dX9_numbersTold_58 1 rfl (by omega) (by decide) rfl ?_
          refine gg_goto (tgt := 14) dX9_numbersTold_61 (by decide) ?_
          refine ih (i + 1) I2 J2 (gst N pl (gi2l (i : Int))) (by omega) (by omega) (fun p hp => by rw [hI2 p hp]; exact hI p hp) (fun p h1 h2 => by rw [hJ2 p h1, hJ1o p h2]; exact hJ p h1 h2) (gAt_7 gF_8 hA9 hI2 hJ2) (fun j hj => by simp [gst, hj]) (fun hl1 t ht => ?_)
          exact absurd hl1 (by omega)
        · refine gg_iload dX9_numbersTold_52 0 rfl ?_
          refine gg_ireti dX9_numbersTold_54 rfl ⟨rfl, rfl⟩ ?_
          refine ⟨I2, J2, rfl, fun p hp => by rw [hI2 p hp]; exact hI p hp, fun p h1 h2 => by rw [hJ2 p h1, hJ1o p h2]; exact hJ p h1 h2, ?_⟩
          rw [if_pos (show le = 1 by omega)]
          exact (gFi_at (hno (by omega)) hpp 100 h8).symm

set_option maxRecDepth 10000 in
theorem c_X9_numbersTold {l : Launch} {Γ : gC} {ad : Nat → Nat} {I : Nat → Nat → Int} {J : Nat → Nat → Int64} {d : Nat} {a n : Nat} {K : Nat → Nat} {N : Nat → Int64} {Z : Nat → Nat} (hF : gF a) (hW : gWf n K N Z) (hA : gAt I J a n K N Z) {s sn : Nat} {so : Int} {T v : Nat → Int} (hs : s < 4) (hso : I (137 + 2 * s) 1 = so) (hsn : I (137 + 2 * s) 2 = (sn : Int)) (hr : -1 ≤ so ∧ so ≤ 1) (hn2 : sn ≤ 20) (hTr : ∀ j, j < sn → -2147483648 ≤ T j ∧ T j ≤ 2147483647) (hv : I 3 = v) (hT : I (138 + 2 * s) = T) {nm pl : Nat} {le : Int} (hnm : nm < 8) (hpl : pl < n) (hk0 : K pl = 0) (hle : le = 0 ∨ le = 1) (hd : 7 ≤ d) : gKi l Γ gm_X9_numbersTold d [.ref (gad (gSS ad) 0), .ref (gad (gSS ad) (137 + 2 * s)), .ref (gad (gSS ad) a), .int (iv (nm : Int)), .int (iv (pl : Int)), .int (iv le)] (gSS ad, I, J) (fun e μ => ∃ I' J', μ = (gSS ad, I', J') ∧ (∀ p, p ≠ 7 → p ≠ 8 → p ≠ 9 → p ≠ 11 → I' p = I p) ∧ (∀ p, p ≠ 26 → p ≠ 10 → J' p = J p) ∧ e = (if le = 1 then gFi (fun t : Nat => gFi (gOt n K (gst N pl (gi2l (t : Int))) Z v nm T) sn = -1) 100 else (gCo (fun t : Nat => gFi (gOt n K (gst N pl (gi2l (t : Int))) Z v nm T) sn = -1) 100 : Int))) := by
  refine gKi_of gk_X9_numbersTold.1 (Nat.le_of_ble_eq_true rfl) ?_
  show gG l Γ gm_X9_numbersTold (d, 0, 0, 0, 0) 0 [(0, .ref (gad (gSS ad) 0)), (1, .ref (gad (gSS ad) (137 + 2 * s))), (2, .ref (gad (gSS ad) a)), (3, .int (iv (nm : Int))), (4, .int (iv (pl : Int))), (5, .int (iv le))] [] _ _
  refine gg_aload_n dX9_numbersTold_0 0 rfl ?_
  refine gg_getR (k' := 8) rfl gf_RX9_38 dX9_numbersTold_1 sh_0 pl_0 (by decide) (by decide) rr_0_8 ?_
  refine gg_aload_n dX9_numbersTold_4 2 rfl ?_
  refine gg_callVv (own := RX9) (yt := gm_X1_become) rfl gl_RX9_135 gk_X1_become gr_X1_become dX9_numbersTold_5 (c_X1_become (d := d - 1) gF_8 hF hA hW.1 (by omega)) sh_8 pl_8 (by decide) rfl rfl rfl (Nat.le_of_ble_eq_true rfl) (by show _ ≤ d; omega) ⟨Nat.le_refl _, Nat.le_refl _⟩ (fun μ' hc => ?_)
  obtain ⟨I1, J1, rfl, hb1, hb2_, hb3, hb4_⟩ := hc
  have hI1o : ∀ p, p ≠ 8 → p ≠ 9 → p ≠ 11 → I1 p = I p := fun p u v w => funext (fun q => hb2_ p q u v w)
  have hJ1o : ∀ p, p ≠ 10 → J1 p = J p := fun p u => funext (fun q => hb4_ p q u)
  refine gg_iconst dX9_numbersTold_8 ?_
  refine gg_istore (ls' := [(6, .int (iv 0)), (0, .ref (gad (gSS ad) 0)), (1, .ref (gad (gSS ad) (137 + 2 * s))), (2, .ref (gad (gSS ad) a)), (3, .int (iv (nm : Int))), (4, .int (iv (pl : Int))), (5, .int (iv le))]) dX9_numbersTold_9 (by decide) rfl ?_
  refine gg_iconst dX9_numbersTold_11 ?_
  refine gg_istore (ls' := [(7, .int (iv 0)), (6, .int (iv 0)), (0, .ref (gad (gSS ad) 0)), (1, .ref (gad (gSS ad) (137 + 2 * s))), (2, .ref (gad (gSS ad) a)), (3, .int (iv (nm : Int))), (4, .int (iv (pl : Int))), (5, .int (iv le))]) dX9_numbersTold_12 (by decide) rfl ?_
  refine gg_sub [0, 1, 2, 3, 4, 5, 6, 7] rfl ?_
  refine gG_post (w_X9_numbersTold (I0 := I1) (J0 := J1) (a := a) hW (so := so) (sn := sn) (T := T) (v := v) hs (by rw [hI1o _ (by omega) (by omega) (by omega)]; exact hso) (by rw [hI1o _ (by omega) (by omega) (by omega)]; exact hsn) hr hn2 hTr (by rw [hI1o _ (by omega) (by omega) (by omega)]; exact hv) (by rw [hI1o _ (by omega) (by omega) (by omega)]; exact hT) hnm hpl hk0 hle hd 101 0 I1 J1 N (by omega) (by omega) (fun _ _ => rfl) (fun _ _ _ => rfl) hb1 (fun _ _ => rfl) (fun _ t ht => absurd ht (Nat.not_lt_zero _))) ?_
  rintro r μ ⟨e, rfl, I3, J3, rfl, hI3, hJ3, he⟩
  exact ⟨e, rfl, I3, J3, rfl, fun p h1 h2 h3 h4 => by rw [hI3 p h1, hI1o p h2 h3 h4], fun p h1 h2 => by rw [hJ3 p h1 h2, hJ1o p h2], he⟩

