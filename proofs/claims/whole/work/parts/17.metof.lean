/-! met and purse -/
theorem gAt_27 {I I' : Nat → Nat → Int} {J : Nat → Nat → Int64} {a n : Nat} {K : Nat → Nat} {N : Nat → Int64} {Z : Nat → Nat} (hF : gF a) (h : gAt I J a n K N Z) (hI : ∀ p, p ≠ 27 → I' p = I p) : gAt I' J a n K N Z := by
  have hr := gF_rng hF
  exact gAt_same h (hI _ (by omega)) (hI _ (by omega)) rfl (hI _ (by omega))
/-- the count that metOf makes, of kind q or (8) of all -/
noncomputable def gMq (n : Nat) (K : Nat → Nat) (N : Nat → Int64) (Z : Nat → Nat) (v : Nat → Int) (q : Nat) (j : Nat) : Nat := if q = 8 then gMc n K N Z v 0 j + gMc n K N Z v 1 j + gMc n K N Z v 2 j + gMc n K N Z v 3 j + gMc n K N Z v 4 j + gMc n K N Z v 5 j + gMc n K N Z v 6 j + gMc n K N Z v 7 j else gMc n K N Z v q j
theorem gMq_0 (n : Nat) (K : Nat → Nat) (N : Nat → Int64) (Z : Nat → Nat) (v : Nat → Int) (q : Nat) : gMq n K N Z v q 0 = gMo n K N Z v q := rfl
theorem gmF_C (K : Nat → Nat) (Z : Nat → Nat) (W : Nat → Int64) (q : Nat) (M : Nat → Nat) (j : Nat) : gmF K Z W q M j = gOwn q (K j) + gmC K Z W M j := rfl
theorem gmC_W {n : Nat} {K : Nat → Nat} {N : Nat → Int64} {Z : Nat → Nat} (hW : gWf n K N Z) {W W' : Nat → Int64} (h : ∀ j, j < n → W j = W' j) {M : Nat → Nat} {j : Nat} (hj : j < n) : gmC K Z W M j = gmC K Z W' M j := by
  obtain ⟨hK, hZ1, hZ2, he0, he1, he2, he3, hc1, hc2, hc3, -⟩ := hW.2.2 j hj
  unfold gmC
  by_cases h0 : gPar (K j) = 0
  · simp [h0]
  · rw [h (j + 1) (hc1 (by omega))]
theorem gMq_is {n : Nat} {K : Nat → Nat} {N : Nat → Int64} {Z : Nat → Nat} (v : Nat → Int) {q : Nat} (hq : q ≤ 8) {j : Nat} (hj : j < n) (hK : K j < 8) : gMq n K N Z v q j = gMa (K j) q + gmC K Z (gWc n K N Z v) (gMq n K N Z v q) j := by
  have h := fun q => gMc_is n K N Z v q j hj
  by_cases h8 : q = 8
  · have e0 : gMq n K N Z v q j = gMc n K N Z v 0 j + gMc n K N Z v 1 j + gMc n K N Z v 2 j + gMc n K N Z v 3 j + gMc n K N Z v 4 j + gMc n K N Z v 5 j + gMc n K N Z v 6 j + gMc n K N Z v 7 j := by simp [gMq, h8]
    have e1 : ∀ W : Nat → Int64, gmC K Z W (gMq n K N Z v q) j = gmC K Z W (gMc n K N Z v 0) j + gmC K Z W (gMc n K N Z v 1) j + gmC K Z W (gMc n K N Z v 2) j + gmC K Z W (gMc n K N Z v 3) j + gmC K Z W (gMc n K N Z v 4) j + gmC K Z W (gMc n K N Z v 5) j + gmC K Z W (gMc n K N Z v 6) j + gmC K Z W (gMc n K N Z v 7) j := by
      intro W
      simp only [gmC, gMq, h8, if_true]
      split
      · rfl
      · split
        · rfl
        · split
          · omega
          · split <;> omega
    rw [e0, e1, h 0, h 1, h 2, h 3, h 4, h 5, h 6, h 7]
    simp only [gmF_C]
    have : gMa (K j) q = gOwn 0 (K j) + gOwn 1 (K j) + gOwn 2 (K j) + gOwn 3 (K j) + gOwn 4 (K j) + gOwn 5 (K j) + gOwn 6 (K j) + gOwn 7 (K j) := by
      have z : ∀ k, k < 8 → gMa k 8 = gOwn 0 k + gOwn 1 k + gOwn 2 k + gOwn 3 k + gOwn 4 k + gOwn 5 k + gOwn 6 k + gOwn 7 k := by decide
      rw [h8]
      exact z _ hK
    omega
  · have e0 : gMq n K N Z v q j = gMc n K N Z v q j := by simp [gMq, h8]
    have e1 : ∀ W : Nat → Int64, gmC K Z W (gMq n K N Z v q) j = gmC K Z W (gMc n K N Z v q) j := by
      intro W
      simp only [gmC, gMq, h8, if_false]
    rw [e0, e1, h q, gmF_C]
    simp [gMa, h8]
theorem gG_post {l : Launch} {Γ : gC} {mt : gY} {B : gB} {pc : Nat} {ls : List (Nat × Value)} {st : List Value} {μ : gM} {Q Q' : Option Value → gM → Prop} (h : gG l Γ mt B pc ls st μ Q) (hQ : ∀ r μ, Q r μ → Q' r μ) : gG l Γ mt B pc ls st μ Q' := fun p e R s m args below meth c Zf H locs lr X hR hW hS hl =>
  h p e R s m args below meth c Zf H locs lr X (fun r μ' H locs pc lr i hq => hR r μ' H locs pc lr i (hQ r μ' hq)) hW hS hl
set_option maxRecDepth 10000 in
theorem w_X8_metOf {l : Launch} {Γ : gC} {ad : Nat → Nat} {I0 : Nat → Nat → Int} {J : Nat → Nat → Int64} {d : Nat} {a n : Nat} {K : Nat → Nat} {N : Nat → Int64} {Z : Nat → Nat} (hF : gF a) (hA : gAt I0 J a n K N Z) (hW : gWf n K N Z) {p q : Nat} {v : Nat → Int} (hn0 : 0 < n) (hw : gIsW n K N Z v (J 26)) (hq : q ≤ 8) (hd : 4 ≤ d) : ∀ (m : Nat) (i : Nat) (I : Nat → Nat → Int) (c : Nat), n - i < m → (i ≤ n) → (∀ p, p ≠ 27 → I p = I0 p) → (∀ t, t < 200 → I 27 t = 0 ∨ I 27 t = 1) → (gAskd Z n (I 27) (gMq n K N Z v q) i c (gMo n K N Z v q)) → gG l Γ gm_X8_metOf (d, 0, 0, 0, 0) 47 [(5, .int (iv (i : Int))), (4, .int (iv (c : Int))), (0, .ref (gad (gSS ad) 25)), (1, .ref (gad (gSS ad) a)), (2, .ref (gad (gSS ad) p)), (3, .int (iv (q : Int)))] [] (gSS ad, I, J) (gDi (fun e μ => ∃ I', μ = (gSS ad, I', J) ∧ (∀ p, p ≠ 27 → I' p = I0 p) ∧ e = (gMo n K N Z v q : Int))) := by
  intro m
  induction m with
  | zero => intros; omega
  | succ m ih =>
    intro i I c hm hi hI hb hL
    have hn := hW.1
    refine gg_iload dX8_metOf_47 0 rfl ?_
    refine gg_aload_n dX8_metOf_49 3 rfl ?_
    refine gg_callVi (own := RX8) (yt := gm_X1_size) rfl gl_RX8_19 gk_X1_size gr_X1_size dX8_metOf_50 (c_X1_size (d := d - 1) hF (gAt_27 hF hA hI)) (gFsh hF) (gFlt hF) (by decide) rfl rfl rfl (Nat.le_of_ble_eq_true rfl) (by show _ ≤ d; omega) ⟨Nat.le_refl _, Nat.le_refl _⟩ (fun e1 μ' hc => ?_)
    obtain ⟨rfl, rfl⟩ := hc
    refine gg_icmp_ge (tgt := 94) dX8_metOf_53 (by decide) (by omega) (fun hx => ?_) (fun hx => ?_)
    · have he : i = n := by omega
      subst he
      refine gg_iload dX8_metOf_94 1 rfl ?_
      refine gg_ireti dX8_metOf_96 rfl ⟨rfl, rfl⟩ ?_
      exact ⟨I, rfl, hI, by rw [gAsk_e hL]⟩
    · have hin : i < n := by omega
      have hKi := (hW.2.2 i hin).1
      have hbi := hb i (by omega)
      refine gg_aload_n dX8_metOf_56 2 rfl ?_
      refine gg_getR (k' := 27) rfl gf_RX8_15 dX8_metOf_57 sh_25 pl_25 (by decide) (by decide) rr_25_1 ?_
      refine gg_iload dX8_metOf_60 0 rfl ?_
      refine gg_zaldj i dX8_metOf_62 sh_27 pl_27 (by decide) rfl (by omega) ?_
      refine gg_if_eq (tgt := 88) dX8_metOf_63 (by decide) (by omega) (fun hy => ?_) (fun hy => ?_)
      · refine gg_iincv (ls' := [(5, .int (iv ((i + 1 : Nat) : Int))), (4, .int (iv (c : Int))), (0, .ref (gad (gSS ad) 25)), (1, .ref (gad (gSS ad) a)), (2, .ref (gad (gSS ad) p)), (3, .int (iv (q : Int)))]) dX8_metOf_88 0 rfl (by omega) (by decide) rfl ?_
        refine gg_goto (tgt := 47) dX8_metOf_91 (by decide) ?_
        exact ih (i + 1) I c (by omega) (by omega) hI hb (gAsk_0 hW hin hL (by omega))
      · refine gg_iload dX8_metOf_66 1 rfl ?_
        refine gg_aload_n dX8_metOf_68 3 rfl ?_
        refine gg_iload dX8_metOf_69 0 rfl ?_
        refine gg_callVi (own := RX8) (yt := gm_X1_kind) rfl gl_RX8_33 gk_X1_kind gr_X1_kind dX8_metOf_71 (c_X1_kind (d := d - 1) hF (gAt_27 hF hA hI) hW.1 (j := i) hin (by omega)) (gFsh hF) (gFlt hF) (by decide) rfl rfl rfl (Nat.le_of_ble_eq_true rfl) (by show _ ≤ d; omega) ⟨Nat.le_refl _, Nat.le_refl _⟩ (fun e2 μ' hc => ?_)
        obtain ⟨rfl, rfl⟩ := hc
        refine gg_iload_n dX8_metOf_74 5 rfl ?_
        refine gg_callSi (own := RX8) (yt := gm_X8_metAs) rfl gl_RX8_56 gk_X8_metAs gr_X8_metAs dX8_metOf_75 (c_X8_metAs (d := d - 1) hKi hq) rfl rfl (Nat.le_of_ble_eq_true rfl) (by show _ ≤ d; omega) ⟨Nat.le_refl _, Nat.le_refl _⟩ (fun e3 μ' hc => ?_)
        obtain ⟨rfl, rfl⟩ := hc
        refine gg_iadd dX8_metOf_78 ?_
        refine gg_toI (b := ((c + gMa (K i) q : Nat) : Int)) (by omega) ?_
        refine gg_istore (ls' := [(4, .int (iv ((c + gMa (K i) q : Nat) : Int))), (5, .int (iv (i : Int))), (0, .ref (gad (gSS ad) 25)), (1, .ref (gad (gSS ad) a)), (2, .ref (gad (gSS ad) p)), (3, .int (iv (q : Int)))]) dX8_metOf_79 (by decide) rfl ?_
        refine gg_aload_n dX8_metOf_81 2 rfl ?_
        refine gg_aload_n dX8_metOf_82 3 rfl ?_
        refine gg_iload dX8_metOf_83 1 rfl ?_
        refine gg_callVv (own := RX8) (yt := gm_X8_askParts) rfl gl_RX8_59 gk_X8_askParts gr_X8_askParts dX8_metOf_85 (c_X8_askParts (d := d - 1) hF (gAt_27 hF hA hI) hW (j := i) hin (by omega)) sh_25 pl_25 (by decide) rfl rfl rfl (Nat.le_of_ble_eq_true rfl) (by show _ ≤ d; omega) ⟨Nat.le_refl _, Nat.le_refl _⟩ (fun μ' hc => ?_)
        obtain ⟨I2, rfl, hI2, hq2⟩ := hc
        refine gg_iincv (ls' := [(5, .int (iv ((i + 1 : Nat) : Int))), (4, .int (iv ((c + gMa (K i) q : Nat) : Int))), (0, .ref (gad (gSS ad) 25)), (1, .ref (gad (gSS ad) a)), (2, .ref (gad (gSS ad) p)), (3, .int (iv (q : Int)))]) dX8_metOf_88 1 rfl (by omega) (by decide) rfl ?_
        refine gg_goto (tgt := 47) dX8_metOf_91 (by decide) ?_
        refine ih (i + 1) I2 (c + gMa (K i) q) (by omega) (by omega) (fun p hp => by rw [hI2 p hp]; exact hI p hp) (fun t ht => ?_) (gAsk_1 hW hin hL (by omega) (ow := gMa (K i) q) (W := J 26) ?_ (fun q h => (hq2 q).1 h) (fun q h => (hq2 q).2 h))
        · by_cases hg : gCh K Z (J 26) i t
          · exact Or.inr ((hq2 t).1 hg)
          · rw [(hq2 t).2 hg]
            exact hb t ht
        · rw [gmC_W hW (gIsW_uni hW (fun _ _ => rfl) hw (gWc_is n K N Z v)) hin]
          exact gMq_is v hq hin hKi

set_option maxRecDepth 10000 in
theorem w_X8_metOf_10 {l : Launch} {Γ : gC} {ad : Nat → Nat} {I0 : Nat → Nat → Int} {J : Nat → Nat → Int64} {d : Nat} {a n : Nat} {K : Nat → Nat} {N : Nat → Int64} {Z : Nat → Nat} (hF : gF a) (hA : gAt I0 J a n K N Z) (hW : gWf n K N Z) {p q : Nat} {v : Nat → Int} (hn0 : 0 < n) (hw : gIsW n K N Z v (J 26)) (hq : q ≤ 8) (hd : 4 ≤ d) : ∀ (m : Nat) (i : Nat) (I : Nat → Nat → Int), 200 - i < m → (i ≤ 200) → (∀ p, p ≠ 27 → I p = I0 p) → (∀ t, t < i → I 27 t = (if t = 0 then 1 else 0)) → gG l Γ gm_X8_metOf (d, 0, 0, 0, 0) 10 [(4, .int (iv (i : Int))), (0, .ref (gad (gSS ad) 25)), (1, .ref (gad (gSS ad) a)), (2, .ref (gad (gSS ad) p)), (3, .int (iv (q : Int)))] [] (gSS ad, I, J) (gDi (fun e μ => ∃ I', μ = (gSS ad, I', J) ∧ (∀ p, p ≠ 27 → I' p = I0 p) ∧ e = (gMo n K N Z v q : Int))) := by
  intro m
  induction m with
  | zero => intros; omega
  | succ m ih =>
    intro i I hm hi hI hb
    have hn := hW.1
    refine gg_iload dX8_metOf_10 0 rfl ?_
    refine gg_sipush dX8_metOf_12 (by decide) ?_
    refine gg_icmp_ge (tgt := 41) dX8_metOf_15 (by decide) (by omega) (fun hx => ?_) (fun hx => ?_)
    · have he : i = 200 := by omega
      subst he
      refine gg_iconst dX8_metOf_41 ?_
      refine gg_istore (ls' := [(4, .int (iv 0)), (0, .ref (gad (gSS ad) 25)), (1, .ref (gad (gSS ad) a)), (2, .ref (gad (gSS ad) p)), (3, .int (iv (q : Int)))]) dX8_metOf_42 (by decide) rfl ?_
      refine gg_iconst dX8_metOf_44 ?_
      refine gg_istore (ls' := [(5, .int (iv 0)), (4, .int (iv 0)), (0, .ref (gad (gSS ad) 25)), (1, .ref (gad (gSS ad) a)), (2, .ref (gad (gSS ad) p)), (3, .int (iv (q : Int)))]) dX8_metOf_45 (by decide) rfl ?_
      refine gg_sub [0, 1, 2, 3, 4, 5] rfl ?_
      refine w_X8_metOf hF hA hW hn0 hw hq hd (n + 1) 0 I 0 (by omega) (by omega) hI (fun t ht => by rw [hb t ht]; by_cases h : t = 0 <;> simp [h]) ?_
      rw [← gMq_0]
      exact gAsk_s hn0 (hW.2.1 hn0) (by rw [hb 0 (by omega)]; rfl) (fun j h1 h2 => by rw [hb j (by omega), if_neg (by omega)]; decide)
    · have hin : i < 200 := by omega
      refine gg_aload_n dX8_metOf_18 1 rfl ?_
      refine gg_getR (k' := 27) rfl gf_RX8_15 dX8_metOf_19 sh_25 pl_25 (by decide) (by decide) rr_25_1 ?_
      refine gg_iload dX8_metOf_22 0 rfl ?_
      refine gg_iload dX8_metOf_24 0 rfl ?_
      refine gg_if_ne (tgt := 33) dX8_metOf_26 (by decide) (by omega) (fun hy => ?_) (fun hy => ?_)
      · refine gg_iconst dX8_metOf_33 ?_
        refine gg_zastj i dX8_metOf_34 sh_27 pl_27 (by decide) rfl (by omega) (Or.inl rfl) ?_
        refine gg_memI (fun I1 hI1 => ?_)
        refine gg_iincv (ls' := [(4, .int (iv ((i + 1 : Nat) : Int))), (0, .ref (gad (gSS ad) 25)), (1, .ref (gad (gSS ad) a)), (2, .ref (gad (gSS ad) p)), (3, .int (iv (q : Int)))]) dX8_metOf_35 0 rfl (by omega) (by decide) rfl ?_
        refine gg_goto (tgt := 10) dX8_metOf_38 (by decide) ?_
        refine ih (i + 1) I1 (by omega) (by omega) (fun p hp => by rw [hI1, gu_other hp]; exact hI p hp) (fun t ht => ?_)
        rw [hI1]
        by_cases hti : t = i
        · subst hti
          rw [gu_s]
          simp_all
        · rw [gu_n (by omega)]
          exact hb t (by omega)
      · refine gg_iconst dX8_metOf_29 ?_
        refine gg_goto (tgt := 34) dX8_metOf_30 (by decide) ?_
        refine gg_zastj i dX8_metOf_34 sh_27 pl_27 (by decide) rfl (by omega) (Or.inr rfl) ?_
        refine gg_memI (fun I1 hI1 => ?_)
        refine gg_iincv (ls' := [(4, .int (iv ((i + 1 : Nat) : Int))), (0, .ref (gad (gSS ad) 25)), (1, .ref (gad (gSS ad) a)), (2, .ref (gad (gSS ad) p)), (3, .int (iv (q : Int)))]) dX8_metOf_35 0 rfl (by omega) (by decide) rfl ?_
        refine gg_goto (tgt := 10) dX8_metOf_38 (by decide) ?_
        refine ih (i + 1) I1 (by omega) (by omega) (fun p hp => by rw [hI1, gu_other hp]; exact hI p hp) (fun t ht => ?_)
        rw [hI1]
        by_cases hti : t = i
        · subst hti
          rw [gu_s]
          simp_all
        · rw [gu_n (by omega)]
          exact hb t (by omega)

set_option maxRecDepth 10000 in
theorem c_X8_metOf {l : Launch} {Γ : gC} {ad : Nat → Nat} {I : Nat → Nat → Int} {J : Nat → Nat → Int64} {d : Nat} {a n : Nat} {K : Nat → Nat} {N : Nat → Int64} {Z : Nat → Nat} (hF : gF a) (hA : gAt I J a n K N Z) (hW : gWf n K N Z) {p q : Nat} (hp : (gSS ad).2.1 p = (100, 8)) (hp' : p < (gSS ad).1) (hn0 : 0 < n) (hq : q ≤ 8) (hd : 5 ≤ d) : gKi l Γ gm_X8_metOf d [.ref (gad (gSS ad) 25), .ref (gad (gSS ad) a), .ref (gad (gSS ad) p), .int (iv (q : Int))] (gSS ad, I, J) (fun e μ => ∃ I' J', μ = (gSS ad, I', J') ∧ (∀ p, p ≠ 27 → I' p = I p) ∧ (∀ p, p ≠ 26 → J' p = J p) ∧ e = (gMo n K N Z (I p) q : Int)) := by
  refine gKi_of gk_X8_metOf.1 (Nat.le_of_ble_eq_true rfl) ?_
  show gG l Γ gm_X8_metOf (d, 0, 0, 0, 0) 0 [(0, .ref (gad (gSS ad) 25)), (1, .ref (gad (gSS ad) a)), (2, .ref (gad (gSS ad) p)), (3, .int (iv (q : Int)))] [] _ _
  have hn := hW.1
  refine gg_aload_n dX8_metOf_0 0 rfl ?_
  refine gg_aload_n dX8_metOf_1 1 rfl ?_
  refine gg_aload_n dX8_metOf_2 2 rfl ?_
  refine gg_callVl (own := RX8) (yt := gm_X8_worthOf) rfl gl_RX8_52 gk_X8_worthOf gr_X8_worthOf dX8_metOf_3 (c_X8_worthOf (d := d - 1) hF hA hW hp hp' (by omega)) sh_25 pl_25 (by decide) rfl rfl rfl (Nat.le_of_ble_eq_true rfl) (by show _ ≤ d; omega) ⟨Nat.le_refl _, Nat.le_refl _⟩ (fun e1 μ' hc => ?_)
  obtain ⟨J2, rfl, hw2, rfl, hJ2⟩ := hc
  refine gg_pop2 dX8_metOf_6 rfl ?_
  refine gg_iconst dX8_metOf_7 ?_
  refine gg_istore (ls' := [(4, .int (iv 0)), (0, .ref (gad (gSS ad) 25)), (1, .ref (gad (gSS ad) a)), (2, .ref (gad (gSS ad) p)), (3, .int (iv (q : Int)))]) dX8_metOf_8 (by decide) rfl ?_
  have hA2 := gAt_J hA (J' := J2) (hJ2 _ (gF_n26 hF))
  refine gg_sub [0, 1, 2, 3, 4] rfl ?_
  have z := w_X8_metOf_10 (l := l) (Γ := Γ) (ad := ad) (d := d) hF hA2 hW (p := p) hn0 hw2 hq (by omega) 201 0 I (by omega) (by omega) (fun _ _ => rfl) (fun t ht => absurd ht (Nat.not_lt_zero _))
  exact gG_post z (fun r μ h => by
    obtain ⟨e, rfl, I', rfl, h1, h2⟩ := h
    exact ⟨e, rfl, I', J2, rfl, h1, hJ2, h2⟩)

set_option maxRecDepth 10000 in
theorem c_X9_met {l : Launch} {Γ : gC} {ad : Nat → Nat} {I : Nat → Nat → Int} {J : Nat → Nat → Int64} {d : Nat} {f n : Nat} {K : Nat → Nat} {N : Nat → Int64} {Z : Nat → Nat} (hf : f < 12) (hA : gAt I J (41 + 8 * f) n K N Z) (hW : gWf n K N Z) {q : Nat} (hq : q ≤ 8) (hd : 6 ≤ d) : gKi l Γ gm_X9_met d [.ref (gad (gSS ad) 0), .int (iv (f : Int)), .int (iv (q : Int))] (gSS ad, I, J) (fun e μ => ∃ I' J', μ = (gSS ad, I', J') ∧ (∀ p, p ≠ 27 → I' p = I p) ∧ (∀ p, p ≠ 26 → J' p = J p) ∧ e = (if n = 0 then -3 else (gMo n K N Z (I 3) q : Int))) := by
  refine gKi_of gk_X9_met.1 (Nat.le_of_ble_eq_true rfl) ?_
  show gG l Γ gm_X9_met (d, 0, 0, 0, 0) 0 [(0, .ref (gad (gSS ad) 0)), (1, .int (iv (f : Int))), (2, .int (iv (q : Int)))] [] _ _
  refine gg_aload_n dX9_met_0 0 rfl ?_
  refine gg_iload_n dX9_met_1 1 rfl ?_
  refine gg_iload_n dX9_met_2 2 rfl ?_
  refine gg_if_lt_f (tgt := 16) dX9_met_3 (by decide) (by omega) (by omega) ?_
  refine gg_iload_n dX9_met_6 2 rfl ?_
  refine gg_bipush dX9_met_7 (by decide) ?_
  refine gg_icmp_gt_f (tgt := 16) dX9_met_9 (by decide) (by omega) (by omega) ?_
  refine gg_iconst dX9_met_12 ?_
  refine gg_goto (tgt := 17) dX9_met_13 (by decide) ?_
  refine gg_callVi (own := RX9) (yt := gm_X9_refusalOf) rfl gl_RX9_166 gk_X9_refusalOf gr_X9_refusalOf dX9_met_17 (c_X9_refusalOf (d := d - 1) hf hA hW (by omega)) sh_0 pl_0 (by decide) rfl rfl rfl (Nat.le_of_ble_eq_true rfl) (by show _ ≤ d; omega) ⟨Nat.le_refl _, Nat.le_refl _⟩ (fun e1 μ' hc => ?_)
  obtain ⟨rfl, ⟨rfl, hn0⟩ | ⟨rfl, hn0⟩⟩ := hc
  · refine gg_istore_n (ls' := [(3, .int (iv (-3))), (0, .ref (gad (gSS ad) 0)), (1, .int (iv (f : Int))), (2, .int (iv (q : Int)))]) dX9_met_20 rfl (by decide) rfl ?_
    refine gg_iload_n dX9_met_21 0 rfl ?_
    refine gg_if_eq_f (tgt := 29) dX9_met_22 (by decide) (by decide) (by decide) ?_
    refine gg_iload_n dX9_met_25 0 rfl ?_
    refine gg_goto (tgt := 47) dX9_met_26 (by decide) ?_
    refine gg_ireti dX9_met_47 rfl ⟨rfl, rfl⟩ ?_
    exact ⟨I, J, rfl, fun _ _ => rfl, fun _ _ => rfl, by rw [if_pos hn0]⟩
  · refine gg_istore_n (ls' := [(3, .int (iv 0)), (0, .ref (gad (gSS ad) 0)), (1, .int (iv (f : Int))), (2, .int (iv (q : Int)))]) dX9_met_20 rfl (by decide) rfl ?_
    refine gg_iload_n dX9_met_21 0 rfl ?_
    refine gg_if_eq_t (tgt := 29) dX9_met_22 (by decide) (by decide) (by decide) ?_
    refine gg_aload_n dX9_met_29 1 rfl ?_
    refine gg_getR (k' := 25) rfl gf_RX9_68 dX9_met_30 sh_0 pl_0 (by decide) (by decide) rr_0_12 ?_
    refine gg_aload_n dX9_met_33 1 rfl ?_
    refine gg_getR (k' := 1) rfl gf_RX9_11 dX9_met_34 sh_0 pl_0 (by decide) (by decide) rr_0_0 ?_
    refine gg_iload_n dX9_met_37 2 rfl ?_
    refine gg_aaldj (t := 4) f (k' := (41 + 8 * f)) dX9_met_38 sh_1 (by decide) pl_1 (by decide) rfl hf (rr_1 hf) ?_
    refine gg_aload_n dX9_met_39 1 rfl ?_
    refine gg_getR (k' := 3) rfl gf_RX9_18 dX9_met_40 sh_0 pl_0 (by decide) (by decide) rr_0_2 ?_
    refine gg_iload_n dX9_met_43 3 rfl ?_
    refine gg_callVi (own := RX9) (yt := gm_X8_metOf) rfl gl_RX9_176 gk_X8_metOf gr_X8_metOf dX9_met_44 (c_X8_metOf (d := d - 1) (q := q) (gF_fo f hf) hA hW (p := 3) sh_3 pl_3 (by omega) hq (by omega)) sh_25 pl_25 (by decide) rfl rfl rfl (Nat.le_of_ble_eq_true rfl) (by show _ ≤ d; omega) ⟨Nat.le_refl _, Nat.le_refl _⟩ (fun e2 μ' hc => ?_)
    obtain ⟨I2, J2, rfl, hI2, hJ2, rfl⟩ := hc
    refine gg_ireti dX9_met_47 rfl ⟨rfl, rfl⟩ ?_
    exact ⟨I2, J2, rfl, hI2, hJ2, by rw [if_neg hn0]⟩

set_option maxRecDepth 10000 in
theorem c_X9_met_out {l : Launch} {Γ : gC} {ad : Nat → Nat} {I : Nat → Nat → Int} {J : Nat → Nat → Int64} {d : Nat} {i q : Int} (hi : -2147483648 ≤ i ∧ i ≤ 2147483647) (hq : -2147483648 ≤ q ∧ q ≤ 2147483647) (ho : ¬ (0 ≤ i ∧ i ≤ 11 ∧ 0 ≤ q ∧ q ≤ 8)) (hd : 2 ≤ d) : gKi l Γ gm_X9_met d [.ref (gad (gSS ad) 0), .int (iv i), .int (iv q)] (gSS ad, I, J) (fun e μ => μ = (gSS ad, I, J) ∧ e = -2) := by
  refine gKi_of gk_X9_met.1 (Nat.le_of_ble_eq_true rfl) ?_
  show gG l Γ gm_X9_met (d, 0, 0, 0, 0) 0 [(0, .ref (gad (gSS ad) 0)), (1, .int (iv i)), (2, .int (iv q))] [] _ _
  refine gg_aload_n dX9_met_0 0 rfl ?_
  refine gg_iload_n dX9_met_1 1 rfl ?_
  refine gg_iload_n dX9_met_2 2 rfl ?_
  refine gg_if_lt (tgt := 16) dX9_met_3 (by decide) (by omega) (fun hb1 => ?_) (fun hb1 => ?_)
  · refine gg_iconst dX9_met_16 ?_
    refine gg_callVi (own := RX9) (yt := gm_X9_refusalOf) rfl gl_RX9_166 gk_X9_refusalOf gr_X9_refusalOf dX9_met_17 (c_X9_refusalOf_out (d := d - 1) (b := 0) hi (by omega) (by omega) (by omega)) sh_0 pl_0 (by decide) rfl rfl rfl (Nat.le_of_ble_eq_true rfl) (by show _ ≤ d; omega) ⟨Nat.le_refl _, Nat.le_refl _⟩ (fun e2 μ' hc => ?_)
    obtain ⟨rfl, rfl⟩ := hc
    refine gg_istore_n (ls' := [(3, .int (iv (-2))), (0, .ref (gad (gSS ad) 0)), (1, .int (iv i)), (2, .int (iv q))]) dX9_met_20 rfl (by decide) rfl ?_
    refine gg_iload_n dX9_met_21 0 rfl ?_
    refine gg_if_eq_f (tgt := 29) dX9_met_22 (by decide) (by decide) (by decide) ?_
    refine gg_iload_n dX9_met_25 0 rfl ?_
    refine gg_goto (tgt := 47) dX9_met_26 (by decide) ?_
    refine gg_ireti dX9_met_47 rfl ⟨rfl, rfl⟩ ?_
    exact ⟨rfl, rfl⟩
  · refine gg_iload_n dX9_met_6 2 rfl ?_
    refine gg_bipush dX9_met_7 (by decide) ?_
    refine gg_icmp_gt (tgt := 16) dX9_met_9 (by decide) (by omega) (fun hb3 => ?_) (fun hb3 => ?_)
    · refine gg_iconst dX9_met_16 ?_
      refine gg_callVi (own := RX9) (yt := gm_X9_refusalOf) rfl gl_RX9_166 gk_X9_refusalOf gr_X9_refusalOf dX9_met_17 (c_X9_refusalOf_out (d := d - 1) (b := 0) hi (by omega) (by omega) (by omega)) sh_0 pl_0 (by decide) rfl rfl rfl (Nat.le_of_ble_eq_true rfl) (by show _ ≤ d; omega) ⟨Nat.le_refl _, Nat.le_refl _⟩ (fun e4 μ' hc => ?_)
      obtain ⟨rfl, rfl⟩ := hc
      refine gg_istore_n (ls' := [(3, .int (iv (-2))), (0, .ref (gad (gSS ad) 0)), (1, .int (iv i)), (2, .int (iv q))]) dX9_met_20 rfl (by decide) rfl ?_
      refine gg_iload_n dX9_met_21 0 rfl ?_
      refine gg_if_eq_f (tgt := 29) dX9_met_22 (by decide) (by decide) (by decide) ?_
      refine gg_iload_n dX9_met_25 0 rfl ?_
      refine gg_goto (tgt := 47) dX9_met_26 (by decide) ?_
      refine gg_ireti dX9_met_47 rfl ⟨rfl, rfl⟩ ?_
      exact ⟨rfl, rfl⟩
    · refine gg_iconst dX9_met_12 ?_
      refine gg_goto (tgt := 17) dX9_met_13 (by decide) ?_
      refine gg_callVi (own := RX9) (yt := gm_X9_refusalOf) rfl gl_RX9_166 gk_X9_refusalOf gr_X9_refusalOf dX9_met_17 (c_X9_refusalOf_out (d := d - 1) (b := 1) hi (by omega) (by omega) (by omega)) sh_0 pl_0 (by decide) rfl rfl rfl (Nat.le_of_ble_eq_true rfl) (by show _ ≤ d; omega) ⟨Nat.le_refl _, Nat.le_refl _⟩ (fun e5 μ' hc => ?_)
      obtain ⟨rfl, rfl⟩ := hc
      refine gg_istore_n (ls' := [(3, .int (iv (-2))), (0, .ref (gad (gSS ad) 0)), (1, .int (iv i)), (2, .int (iv q))]) dX9_met_20 rfl (by decide) rfl ?_
      refine gg_iload_n dX9_met_21 0 rfl ?_
      refine gg_if_eq_f (tgt := 29) dX9_met_22 (by decide) (by decide) (by decide) ?_
      refine gg_iload_n dX9_met_25 0 rfl ?_
      refine gg_goto (tgt := 47) dX9_met_26 (by decide) ?_
      refine gg_ireti dX9_met_47 rfl ⟨rfl, rfl⟩ ?_
      exact ⟨rfl, rfl⟩

theorem gMo_le {n : Nat} {K : Nat → Nat} {N : Nat → Int64} {Z : Nat → Nat} (hW : gWf n K N Z) (v : Nat → Int) (hn : 0 < n) : gMo n K N Z v 8 ≤ 400 := by
  have key : ∀ k, ∀ j, n - k ≤ j → j < n → gMq n K N Z v 8 j ≤ 2 * Z j := by
    intro k
    induction k with
    | zero => intro j h1 h2; omega
    | succ k ih =>
      intro j h1 h2
      by_cases hj : n - k ≤ j
      · exact ih j hj h2
      · obtain ⟨hK, hZ1, hZ2, he0, he1, he2, he3, hc1, hc2, hc3, -⟩ := hW.2.2 j h2
        rw [gMq_is v (Nat.le_refl 8) h2 hK]
        have hm : gMa (K j) 8 ≤ 2 := by
          have z : ∀ k, k < 8 → gMa k 8 ≤ 2 := by decide
          exact z _ hK
        have q1 : 1 ≤ gPar (K j) → gMq n K N Z v 8 (j + 1) ≤ 2 * Z (j + 1) := fun g => ih _ (by omega) (hc1 g)
        have q2 : 2 ≤ gPar (K j) → gMq n K N Z v 8 (gPt Z j 1) ≤ 2 * Z (gPt Z j 1) := fun g => ih _ (by have := gPt_gt Z j 1; omega) (hc2 g)
        have q3 : 3 ≤ gPar (K j) → gMq n K N Z v 8 (gPt Z j 2) ≤ 2 * Z (gPt Z j 2) := fun g => ih _ (by have := gPt_gt Z j 2; omega) (hc3 g)
        have hp : gPar (K j) = 0 ∨ gPar (K j) = 1 ∨ gPar (K j) = 2 ∨ gPar (K j) = 3 := by
          have : ∀ k, k < 8 → gPar k = 0 ∨ gPar k = 1 ∨ gPar k = 2 ∨ gPar k = 3 := by decide
          exact this _ hK
        unfold gmC
        rcases hp with h | h | h | h
        · simp [h]
          omega
        · have e := he1 h
          have b1 := q1 (by omega)
          simp [h]
          omega
        · have e := he2 h
          have b1 := q1 (by omega)
          have b2 := q2 (by omega)
          simp [h]
          omega
        · have e := he3 h
          have b1 := q1 (by omega)
          have b2 := q2 (by omega)
          have b3 := q3 (by omega)
          simp [h]
          split <;> omega
  have h := key n 0 (by omega) hn
  rw [gMq_0, hW.2.1 hn] at h
  have := hW.1
  omega
set_option maxRecDepth 10000 in
theorem c_X9_purse {l : Launch} {Γ : gC} {ad : Nat → Nat} {I : Nat → Nat → Int} {J : Nat → Nat → Int64} {d : Nat} {f n : Nat} {K : Nat → Nat} {N : Nat → Int64} {Z : Nat → Nat} (hf : f < 12) (hA : gAt I J (41 + 8 * f) n K N Z) (hW : gWf n K N Z) {q : Int} (hq : 0 ≤ q ∧ q ≤ 9999) (hd : 6 ≤ d) : gKl l Γ gm_X9_purse d [.ref (gad (gSS ad) 0), .int (iv (f : Int)), .int (iv q)] (gSS ad, I, J) (fun e μ => ∃ I' J', μ = (gSS ad, I', J') ∧ (∀ p, p ≠ 27 → I' p = I p) ∧ (∀ p, p ≠ 26 → J' p = J p) ∧ e = (if n = 0 then -1000003 else if (gMo n K N Z (I 3) 8 : Int) > q then -1000006 else gWo n K N Z (I 3))) := by
  refine gKl_of gk_X9_purse.1 (Nat.le_of_ble_eq_true rfl) ?_
  show gG l Γ gm_X9_purse (d, 0, 0, 0, 0) 0 [(0, .ref (gad (gSS ad) 0)), (1, .int (iv (f : Int))), (2, .int (iv q))] [] _ _
  refine gg_aload_n dX9_purse_0 0 rfl ?_
  refine gg_iload_n dX9_purse_1 1 rfl ?_
  refine gg_iload_n dX9_purse_2 2 rfl ?_
  refine gg_if_lt_f (tgt := 17) dX9_purse_3 (by decide) (by omega) (by omega) ?_
  refine gg_iload_n dX9_purse_6 2 rfl ?_
  refine gg_sipush dX9_purse_7 (by decide) ?_
  refine gg_icmp_gt_f (tgt := 17) dX9_purse_10 (by decide) (by omega) (by omega) ?_
  refine gg_iconst dX9_purse_13 ?_
  refine gg_goto (tgt := 18) dX9_purse_14 (by decide) ?_
  refine gg_callVi (own := RX9) (yt := gm_X9_refusalOf) rfl gl_RX9_166 gk_X9_refusalOf gr_X9_refusalOf dX9_purse_18 (c_X9_refusalOf (d := d - 1) hf hA hW (by omega)) sh_0 pl_0 (by decide) rfl rfl rfl (Nat.le_of_ble_eq_true rfl) (by show _ ≤ d; omega) ⟨Nat.le_refl _, Nat.le_refl _⟩ (fun e1 μ' hc => ?_)
  obtain ⟨rfl, ⟨rfl, hn0⟩ | ⟨rfl, hn0⟩⟩ := hc
  · refine gg_istore_n (ls' := [(3, .int (iv (-3))), (0, .ref (gad (gSS ad) 0)), (1, .int (iv (f : Int))), (2, .int (iv q))]) dX9_purse_21 rfl (by decide) rfl ?_
    refine gg_iload_n dX9_purse_22 0 rfl ?_
    refine gg_if_eq_f (tgt := 33) dX9_purse_23 (by decide) (by decide) (by decide) ?_
    refine gg_iload_n dX9_purse_26 0 rfl ?_
    refine gg_i2l dX9_purse_27 ?_
    refine gg_ldc2 rfl gq_RX9_170 dX9_purse_28 ?_
    refine gg_lsub dX9_purse_31 ?_
    refine gg_lretl dX9_purse_32 rfl ⟨rfl, rfl⟩ ?_
    exact ⟨I, J, rfl, fun _ _ => rfl, fun _ _ => rfl, by rw [if_pos hn0]; decide⟩
  · refine gg_istore_n (ls' := [(3, .int (iv 0)), (0, .ref (gad (gSS ad) 0)), (1, .int (iv (f : Int))), (2, .int (iv q))]) dX9_purse_21 rfl (by decide) rfl ?_
    refine gg_iload_n dX9_purse_22 0 rfl ?_
    refine gg_if_eq_t (tgt := 33) dX9_purse_23 (by decide) (by decide) (by decide) ?_
    refine gg_aload_n dX9_purse_33 1 rfl ?_
    refine gg_getR (k' := 25) rfl gf_RX9_68 dX9_purse_34 sh_0 pl_0 (by decide) (by decide) rr_0_12 ?_
    refine gg_aload_n dX9_purse_37 1 rfl ?_
    refine gg_getR (k' := 1) rfl gf_RX9_11 dX9_purse_38 sh_0 pl_0 (by decide) (by decide) rr_0_0 ?_
    refine gg_iload_n dX9_purse_41 2 rfl ?_
    refine gg_aaldj (t := 4) f (k' := (41 + 8 * f)) dX9_purse_42 sh_1 (by decide) pl_1 (by decide) rfl hf (rr_1 hf) ?_
    refine gg_aload_n dX9_purse_43 1 rfl ?_
    refine gg_getR (k' := 3) rfl gf_RX9_18 dX9_purse_44 sh_0 pl_0 (by decide) (by decide) rr_0_2 ?_
    refine gg_bipush dX9_purse_47 (by decide) ?_
    refine gg_callVi (own := RX9) (yt := gm_X8_metOf) rfl gl_RX9_176 gk_X8_metOf gr_X8_metOf dX9_purse_49 (c_X8_metOf (d := d - 1) (q := 8) (gF_fo f hf) hA hW (p := 3) sh_3 pl_3 (by omega) (by omega) (by omega)) sh_25 pl_25 (by decide) rfl rfl rfl (Nat.le_of_ble_eq_true rfl) (by show _ ≤ d; omega) ⟨Nat.le_refl _, Nat.le_refl _⟩ (fun e2 μ' hc => ?_)
    obtain ⟨I2, J2, rfl, hI2, hJ2, rfl⟩ := hc
    refine gg_iload_n dX9_purse_52 3 rfl ?_
    refine gg_icmp_le (tgt := 60) dX9_purse_53 (by decide) (by have := gMo_le hW (I 3) (by omega); omega) (fun hx => ?_) (fun hx => ?_)
    · refine gg_aload_n dX9_purse_60 1 rfl ?_
      refine gg_getR (k' := 25) rfl gf_RX9_68 dX9_purse_61 sh_0 pl_0 (by decide) (by decide) rr_0_12 ?_
      refine gg_aload_n dX9_purse_64 1 rfl ?_
      refine gg_getR (k' := 1) rfl gf_RX9_11 dX9_purse_65 sh_0 pl_0 (by decide) (by decide) rr_0_0 ?_
      refine gg_iload_n dX9_purse_68 2 rfl ?_
      refine gg_aaldj (t := 4) f (k' := (41 + 8 * f)) dX9_purse_69 sh_1 (by decide) pl_1 (by decide) rfl hf (rr_1 hf) ?_
      refine gg_aload_n dX9_purse_70 1 rfl ?_
      refine gg_getR (k' := 3) rfl gf_RX9_18 dX9_purse_71 sh_0 pl_0 (by decide) (by decide) rr_0_2 ?_
      refine gg_callVl (own := RX9) (yt := gm_X8_worthOf) rfl gl_RX9_172 gk_X8_worthOf gr_X8_worthOf dX9_purse_74 (c_X8_worthOf (d := d - 1) (gF_fo f hf) (gAt_J (gAt_27 (gF_fo f hf) hA hI2) (hJ2 _ (gF_n26 (gF_fo f hf)))) hW (p := 3) sh_3 pl_3 (by omega)) sh_25 pl_25 (by decide) rfl rfl rfl (Nat.le_of_ble_eq_true rfl) (by show _ ≤ d; omega) ⟨Nat.le_refl _, Nat.le_refl _⟩ (fun e3 μ' hc => ?_)
      obtain ⟨J3, rfl, hw3, rfl, hJ3⟩ := hc
      refine gg_lretl dX9_purse_77 rfl ⟨rfl, rfl⟩ ?_
      exact ⟨I2, J3, rfl, hI2, fun p hp => by rw [hJ3 p hp, hJ2 p hp], by rw [if_neg hn0, if_neg (by omega)]; exact gIsW_uni hW (fun q _ => by rw [hI2 3 (by omega)]) hw3 (gWc_is n K N Z (I 3)) 0 (by omega)⟩
    · refine gg_ldc2 rfl gq_RX9_180 dX9_purse_56 ?_
      refine gg_lretl dX9_purse_59 rfl ⟨rfl, rfl⟩ ?_
      exact ⟨I2, J2, rfl, hI2, hJ2, by rw [if_neg hn0, if_pos (by omega)]⟩

set_option maxRecDepth 10000 in
theorem c_X9_purse_out {l : Launch} {Γ : gC} {ad : Nat → Nat} {I : Nat → Nat → Int} {J : Nat → Nat → Int64} {d : Nat} {i q : Int} (hi : -2147483648 ≤ i ∧ i ≤ 2147483647) (hq : -2147483648 ≤ q ∧ q ≤ 2147483647) (ho : ¬ (0 ≤ i ∧ i ≤ 11 ∧ 0 ≤ q ∧ q ≤ 9999)) (hd : 2 ≤ d) : gKl l Γ gm_X9_purse d [.ref (gad (gSS ad) 0), .int (iv i), .int (iv q)] (gSS ad, I, J) (fun e μ => μ = (gSS ad, I, J) ∧ e = -1000002) := by
  refine gKl_of gk_X9_purse.1 (Nat.le_of_ble_eq_true rfl) ?_
  show gG l Γ gm_X9_purse (d, 0, 0, 0, 0) 0 [(0, .ref (gad (gSS ad) 0)), (1, .int (iv i)), (2, .int (iv q))] [] _ _
  refine gg_aload_n dX9_purse_0 0 rfl ?_
  refine gg_iload_n dX9_purse_1 1 rfl ?_
  refine gg_iload_n dX9_purse_2 2 rfl ?_
  refine gg_if_lt (tgt := 17) dX9_purse_3 (by decide) (by omega) (fun hb1 => ?_) (fun hb1 => ?_)
  · refine gg_iconst dX9_purse_17 ?_
    refine gg_callVi (own := RX9) (yt := gm_X9_refusalOf) rfl gl_RX9_166 gk_X9_refusalOf gr_X9_refusalOf dX9_purse_18 (c_X9_refusalOf_out (d := d - 1) (b := 0) hi (by omega) (by omega) (by omega)) sh_0 pl_0 (by decide) rfl rfl rfl (Nat.le_of_ble_eq_true rfl) (by show _ ≤ d; omega) ⟨Nat.le_refl _, Nat.le_refl _⟩ (fun e2 μ' hc => ?_)
    obtain ⟨rfl, rfl⟩ := hc
    refine gg_istore_n (ls' := [(3, .int (iv (-2))), (0, .ref (gad (gSS ad) 0)), (1, .int (iv i)), (2, .int (iv q))]) dX9_purse_21 rfl (by decide) rfl ?_
    refine gg_iload_n dX9_purse_22 0 rfl ?_
    refine gg_if_eq_f (tgt := 33) dX9_purse_23 (by decide) (by decide) (by decide) ?_
    refine gg_iload_n dX9_purse_26 0 rfl ?_
    refine gg_i2l dX9_purse_27 ?_
    refine gg_ldc2 rfl gq_RX9_170 dX9_purse_28 ?_
    refine gg_lsub dX9_purse_31 ?_
    refine gg_lretl dX9_purse_32 rfl ⟨rfl, rfl⟩ ?_
    exact ⟨rfl, by decide⟩
  · refine gg_iload_n dX9_purse_6 2 rfl ?_
    refine gg_sipush dX9_purse_7 (by decide) ?_
    refine gg_icmp_gt (tgt := 17) dX9_purse_10 (by decide) (by omega) (fun hb3 => ?_) (fun hb3 => ?_)
    · refine gg_iconst dX9_purse_17 ?_
      refine gg_callVi (own := RX9) (yt := gm_X9_refusalOf) rfl gl_RX9_166 gk_X9_refusalOf gr_X9_refusalOf dX9_purse_18 (c_X9_refusalOf_out (d := d - 1) (b := 0) hi (by omega) (by omega) (by omega)) sh_0 pl_0 (by decide) rfl rfl rfl (Nat.le_of_ble_eq_true rfl) (by show _ ≤ d; omega) ⟨Nat.le_refl _, Nat.le_refl _⟩ (fun e4 μ' hc => ?_)
      obtain ⟨rfl, rfl⟩ := hc
      refine gg_istore_n (ls' := [(3, .int (iv (-2))), (0, .ref (gad (gSS ad) 0)), (1, .int (iv i)), (2, .int (iv q))]) dX9_purse_21 rfl (by decide) rfl ?_
      refine gg_iload_n dX9_purse_22 0 rfl ?_
      refine gg_if_eq_f (tgt := 33) dX9_purse_23 (by decide) (by decide) (by decide) ?_
      refine gg_iload_n dX9_purse_26 0 rfl ?_
      refine gg_i2l dX9_purse_27 ?_
      refine gg_ldc2 rfl gq_RX9_170 dX9_purse_28 ?_
      refine gg_lsub dX9_purse_31 ?_
      refine gg_lretl dX9_purse_32 rfl ⟨rfl, rfl⟩ ?_
      exact ⟨rfl, by decide⟩
    · refine gg_iconst dX9_purse_13 ?_
      refine gg_goto (tgt := 18) dX9_purse_14 (by decide) ?_
      refine gg_callVi (own := RX9) (yt := gm_X9_refusalOf) rfl gl_RX9_166 gk_X9_refusalOf gr_X9_refusalOf dX9_purse_18 (c_X9_refusalOf_out (d := d - 1) (b := 1) hi (by omega) (by omega) (by omega)) sh_0 pl_0 (by decide) rfl rfl rfl (Nat.le_of_ble_eq_true rfl) (by show _ ≤ d; omega) ⟨Nat.le_refl _, Nat.le_refl _⟩ (fun e5 μ' hc => ?_)
      obtain ⟨rfl, rfl⟩ := hc
      refine gg_istore_n (ls' := [(3, .int (iv (-2))), (0, .ref (gad (gSS ad) 0)), (1, .int (iv i)), (2, .int (iv q))]) dX9_purse_21 rfl (by decide) rfl ?_
      refine gg_iload_n dX9_purse_22 0 rfl ?_
      refine gg_if_eq_f (tgt := 33) dX9_purse_23 (by decide) (by decide) (by decide) ?_
      refine gg_iload_n dX9_purse_26 0 rfl ?_
      refine gg_i2l dX9_purse_27 ?_
      refine gg_ldc2 rfl gq_RX9_170 dX9_purse_28 ?_
      refine gg_lsub dX9_purse_31 ?_
      refine gg_lretl dX9_purse_32 rfl ⟨rfl, rfl⟩ ?_
      exact ⟨rfl, by decide⟩

set_option maxRecDepth 10000 in
theorem c_X10_metAll {l : Launch} {Γ : gC} {ad : Nat → Nat} {I : Nat → Nat → Int} {J : Nat → Nat → Int64} {d : Nat} : gKi l Γ gm_X10_metAll d [.ref (gad (gSS ad) 145)] (gSS ad, I, J) (fun e μ => μ = (gSS ad, I, J) ∧ e = I 190 0 + I 190 1 + I 190 2 + I 190 3 + I 190 4 + I 190 5 + I 190 6 + I 190 7) := by
  refine gKi_of gk_X10_metAll.1 (Nat.le_of_ble_eq_true rfl) ?_
  show gG l Γ gm_X10_metAll (d, 0, 0, 0, 0) 0 [(0, .ref (gad (gSS ad) 145))] [] _ _
  refine gg_iconst dX10_metAll_0 ?_
  refine gg_istore_n (ls' := [(1, .int (iv 0)), (0, .ref (gad (gSS ad) 145))]) dX10_metAll_1 rfl (by decide) rfl ?_
  refine gg_iconst dX10_metAll_2 ?_
  refine gg_istore_n (ls' := [(2, .int (iv 0)), (1, .int (iv 0)), (0, .ref (gad (gSS ad) 145))]) dX10_metAll_3 rfl (by decide) rfl ?_
  refine gg_iload_n dX10_metAll_4 0 rfl ?_
  refine gg_bipush dX10_metAll_5 (by decide) ?_
  refine gg_icmp_ge_f (tgt := 25) dX10_metAll_7 (by decide) (by decide) (by decide) ?_
  refine gg_iload_n dX10_metAll_10 1 rfl ?_
  refine gg_aload_n dX10_metAll_11 2 rfl ?_
  refine gg_getR (k' := 190) rfl gf_RX10_39 dX10_metAll_12 sh_145 pl_145 (by decide) (by decide) rr_145_17 ?_
  refine gg_iload_n dX10_metAll_15 0 rfl ?_
  refine gg_ialdj 0 dX10_metAll_16 sh_190 pl_190 (by decide) rfl (by omega) ?_
  refine gg_iadd dX10_metAll_17 ?_
  refine gg_istore_n (ls' := [(1, .int (iv (0 + (I 190 0)))), (2, .int (iv 0)), (0, .ref (gad (gSS ad) 145))]) dX10_metAll_18 rfl (by decide) rfl ?_
  refine gg_iincv (ls' := [(2, .int (iv 1)), (1, .int (iv (0 + (I 190 0)))), (0, .ref (gad (gSS ad) 145))]) dX10_metAll_19 1 rfl rfl (by decide) rfl ?_
  refine gg_goto (tgt := 4) dX10_metAll_22 (by decide) ?_
  refine gg_iload_n dX10_metAll_4 0 rfl ?_
  refine gg_bipush dX10_metAll_5 (by decide) ?_
  refine gg_icmp_ge_f (tgt := 25) dX10_metAll_7 (by decide) (by decide) (by decide) ?_
  refine gg_iload_n dX10_metAll_10 1 rfl ?_
  refine gg_aload_n dX10_metAll_11 2 rfl ?_
  refine gg_getR (k' := 190) rfl gf_RX10_39 dX10_metAll_12 sh_145 pl_145 (by decide) (by decide) rr_145_17 ?_
  refine gg_iload_n dX10_metAll_15 0 rfl ?_
  refine gg_ialdj 1 dX10_metAll_16 sh_190 pl_190 (by decide) rfl (by omega) ?_
  refine gg_iadd dX10_metAll_17 ?_
  refine gg_istore_n (ls' := [(1, .int (iv ((0 + (I 190 0)) + (I 190 1)))), (2, .int (iv 1)), (0, .ref (gad (gSS ad) 145))]) dX10_metAll_18 rfl (by decide) rfl ?_
  refine gg_iincv (ls' := [(2, .int (iv 2)), (1, .int (iv ((0 + (I 190 0)) + (I 190 1)))), (0, .ref (gad (gSS ad) 145))]) dX10_metAll_19 1 rfl rfl (by decide) rfl ?_
  refine gg_goto (tgt := 4) dX10_metAll_22 (by decide) ?_
  refine gg_iload_n dX10_metAll_4 0 rfl ?_
  refine gg_bipush dX10_metAll_5 (by decide) ?_
  refine gg_icmp_ge_f (tgt := 25) dX10_metAll_7 (by decide) (by decide) (by decide) ?_
  refine gg_iload_n dX10_metAll_10 1 rfl ?_
  refine gg_aload_n dX10_metAll_11 2 rfl ?_
  refine gg_getR (k' := 190) rfl gf_RX10_39 dX10_metAll_12 sh_145 pl_145 (by decide) (by decide) rr_145_17 ?_
  refine gg_iload_n dX10_metAll_15 0 rfl ?_
  refine gg_ialdj 2 dX10_metAll_16 sh_190 pl_190 (by decide) rfl (by omega) ?_
  refine gg_iadd dX10_metAll_17 ?_
  refine gg_istore_n (ls' := [(1, .int (iv (((0 + (I 190 0)) + (I 190 1)) + (I 190 2)))), (2, .int (iv 2)), (0, .ref (gad (gSS ad) 145))]) dX10_metAll_18 rfl (by decide) rfl ?_
  refine gg_iincv (ls' := [(2, .int (iv 3)), (1, .int (iv (((0 + (I 190 0)) + (I 190 1)) + (I 190 2)))), (0, .ref (gad (gSS ad) 145))]) dX10_metAll_19 1 rfl rfl (by decide) rfl ?_
  refine gg_goto (tgt := 4) dX10_metAll_22 (by decide) ?_
  refine gg_iload_n dX10_metAll_4 0 rfl ?_
  refine gg_bipush dX10_metAll_5 (by decide) ?_
  refine gg_icmp_ge_f (tgt := 25) dX10_metAll_7 (by decide) (by decide) (by decide) ?_
  refine gg_iload_n dX10_metAll_10 1 rfl ?_
  refine gg_aload_n dX10_metAll_11 2 rfl ?_
  refine gg_getR (k' := 190) rfl gf_RX10_39 dX10_metAll_12 sh_145 pl_145 (by decide) (by decide) rr_145_17 ?_
  refine gg_iload_n dX10_metAll_15 0 rfl ?_
  refine gg_ialdj 3 dX10_metAll_16 sh_190 pl_190 (by decide) rfl (by omega) ?_
  refine gg_iadd dX10_metAll_17 ?_
  refine gg_istore_n (ls' := [(1, .int (iv ((((0 + (I 190 0)) + (I 190 1)) + (I 190 2)) + (I 190 3)))), (2, .int (iv 3)), (0, .ref (gad (gSS ad) 145))]) dX10_metAll_18 rfl (by decide) rfl ?_
  refine gg_iincv (ls' := [(2, .int (iv 4)), (1, .int (iv ((((0 + (I 190 0)) + (I 190 1)) + (I 190 2)) + (I 190 3)))), (0, .ref (gad (gSS ad) 145))]) dX10_metAll_19 1 rfl rfl (by decide) rfl ?_
  refine gg_goto (tgt := 4) dX10_metAll_22 (by decide) ?_
  refine gg_iload_n dX10_metAll_4 0 rfl ?_
  refine gg_bipush dX10_metAll_5 (by decide) ?_
  refine gg_icmp_ge_f (tgt := 25) dX10_metAll_7 (by decide) (by decide) (by decide) ?_
  refine gg_iload_n dX10_metAll_10 1 rfl ?_
  refine gg_aload_n dX10_metAll_11 2 rfl ?_
  refine gg_getR (k' := 190) rfl gf_RX10_39 dX10_metAll_12 sh_145 pl_145 (by decide) (by decide) rr_145_17 ?_
  refine gg_iload_n dX10_metAll_15 0 rfl ?_
  refine gg_ialdj 4 dX10_metAll_16 sh_190 pl_190 (by decide) rfl (by omega) ?_
  refine gg_iadd dX10_metAll_17 ?_
  refine gg_istore_n (ls' := [(1, .int (iv (((((0 + (I 190 0)) + (I 190 1)) + (I 190 2)) + (I 190 3)) + (I 190 4)))), (2, .int (iv 4)), (0, .ref (gad (gSS ad) 145))]) dX10_metAll_18 rfl (by decide) rfl ?_
  refine gg_iincv (ls' := [(2, .int (iv 5)), (1, .int (iv (((((0 + (I 190 0)) + (I 190 1)) + (I 190 2)) + (I 190 3)) + (I 190 4)))), (0, .ref (gad (gSS ad) 145))]) dX10_metAll_19 1 rfl rfl (by decide) rfl ?_
  refine gg_goto (tgt := 4) dX10_metAll_22 (by decide) ?_
  refine gg_iload_n dX10_metAll_4 0 rfl ?_
  refine gg_bipush dX10_metAll_5 (by decide) ?_
  refine gg_icmp_ge_f (tgt := 25) dX10_metAll_7 (by decide) (by decide) (by decide) ?_
  refine gg_iload_n dX10_metAll_10 1 rfl ?_
  refine gg_aload_n dX10_metAll_11 2 rfl ?_
  refine gg_getR (k' := 190) rfl gf_RX10_39 dX10_metAll_12 sh_145 pl_145 (by decide) (by decide) rr_145_17 ?_
  refine gg_iload_n dX10_metAll_15 0 rfl ?_
  refine gg_ialdj 5 dX10_metAll_16 sh_190 pl_190 (by decide) rfl (by omega) ?_
  refine gg_iadd dX10_metAll_17 ?_
  refine gg_istore_n (ls' := [(1, .int (iv ((((((0 + (I 190 0)) + (I 190 1)) + (I 190 2)) + (I 190 3)) + (I 190 4)) + (I 190 5)))), (2, .int (iv 5)), (0, .ref (gad (gSS ad) 145))]) dX10_metAll_18 rfl (by decide) rfl ?_
  refine gg_iincv (ls' := [(2, .int (iv 6)), (1, .int (iv ((((((0 + (I 190 0)) + (I 190 1)) + (I 190 2)) + (I 190 3)) + (I 190 4)) + (I 190 5)))), (0, .ref (gad (gSS ad) 145))]) dX10_metAll_19 1 rfl rfl (by decide) rfl ?_
  refine gg_goto (tgt := 4) dX10_metAll_22 (by decide) ?_
  refine gg_iload_n dX10_metAll_4 0 rfl ?_
  refine gg_bipush dX10_metAll_5 (by decide) ?_
  refine gg_icmp_ge_f (tgt := 25) dX10_metAll_7 (by decide) (by decide) (by decide) ?_
  refine gg_iload_n dX10_metAll_10 1 rfl ?_
  refine gg_aload_n dX10_metAll_11 2 rfl ?_
  refine gg_getR (k' := 190) rfl gf_RX10_39 dX10_metAll_12 sh_145 pl_145 (by decide) (by decide) rr_145_17 ?_
  refine gg_iload_n dX10_metAll_15 0 rfl ?_
  refine gg_ialdj 6 dX10_metAll_16 sh_190 pl_190 (by decide) rfl (by omega) ?_
  refine gg_iadd dX10_metAll_17 ?_
  refine gg_istore_n (ls' := [(1, .int (iv (((((((0 + (I 190 0)) + (I 190 1)) + (I 190 2)) + (I 190 3)) + (I 190 4)) + (I 190 5)) + (I 190 6)))), (2, .int (iv 6)), (0, .ref (gad (gSS ad) 145))]) dX10_metAll_18 rfl (by decide) rfl ?_
  refine gg_iincv (ls' := [(2, .int (iv 7)), (1, .int (iv (((((((0 + (I 190 0)) + (I 190 1)) + (I 190 2)) + (I 190 3)) + (I 190 4)) + (I 190 5)) + (I 190 6)))), (0, .ref (gad (gSS ad) 145))]) dX10_metAll_19 1 rfl rfl (by decide) rfl ?_
  refine gg_goto (tgt := 4) dX10_metAll_22 (by decide) ?_
  refine gg_iload_n dX10_metAll_4 0 rfl ?_
  refine gg_bipush dX10_metAll_5 (by decide) ?_
  refine gg_icmp_ge_f (tgt := 25) dX10_metAll_7 (by decide) (by decide) (by decide) ?_
  refine gg_iload_n dX10_metAll_10 1 rfl ?_
  refine gg_aload_n dX10_metAll_11 2 rfl ?_
  refine gg_getR (k' := 190) rfl gf_RX10_39 dX10_metAll_12 sh_145 pl_145 (by decide) (by decide) rr_145_17 ?_
  refine gg_iload_n dX10_metAll_15 0 rfl ?_
  refine gg_ialdj 7 dX10_metAll_16 sh_190 pl_190 (by decide) rfl (by omega) ?_
  refine gg_iadd dX10_metAll_17 ?_
  refine gg_istore_n (ls' := [(1, .int (iv ((((((((0 + (I 190 0)) + (I 190 1)) + (I 190 2)) + (I 190 3)) + (I 190 4)) + (I 190 5)) + (I 190 6)) + (I 190 7)))), (2, .int (iv 7)), (0, .ref (gad (gSS ad) 145))]) dX10_metAll_18 rfl (by decide) rfl ?_
  refine gg_iincv (ls' := [(2, .int (iv 8)), (1, .int (iv ((((((((0 + (I 190 0)) + (I 190 1)) + (I 190 2)) + (I 190 3)) + (I 190 4)) + (I 190 5)) + (I 190 6)) + (I 190 7)))), (0, .ref (gad (gSS ad) 145))]) dX10_metAll_19 1 rfl rfl (by decide) rfl ?_
  refine gg_goto (tgt := 4) dX10_metAll_22 (by decide) ?_
  refine gg_iload_n dX10_metAll_4 0 rfl ?_
  refine gg_bipush dX10_metAll_5 (by decide) ?_
  refine gg_icmp_ge_t (tgt := 25) dX10_metAll_7 (by decide) (by decide) (by decide) ?_
  refine gg_iload_n dX10_metAll_25 1 rfl ?_
  refine gg_ireti dX10_metAll_26 rfl ⟨rfl, rfl⟩ ?_
  exact ⟨rfl, by omega⟩

set_option maxRecDepth 10000 in
theorem c_X10_met {l : Launch} {Γ : gC} {ad : Nat → Nat} {I : Nat → Nat → Int} {J : Nat → Nat → Int64} {d : Nat} {f n : Nat} {K : Nat → Nat} {N : Nat → Int64} {Z : Nat → Nat} (hf : f < 12) (hM : gMt I J f n K N Z) (hW : gWf n K N Z) {q : Nat} (hq : q ≤ 8) (hd : 205 ≤ d) : gKi l Γ gm_X10_met d [.ref (gad (gSS ad) 145), .int (iv (f : Int)), .int (iv (q : Int))] (gSS ad, I, J) (fun e μ => ∃ I', μ = (gSS ad, I', J) ∧ (∀ p, p ≠ 190 → I' p = I p) ∧ e = (if n = 0 then -3 else (gMo n K N Z (I 186) q : Int))) := by
  refine gKi_of gk_X10_met.1 (Nat.le_of_ble_eq_true rfl) ?_
  show gG l Γ gm_X10_met (d, 0, 0, 0, 0) 0 [(0, .ref (gad (gSS ad) 145)), (1, .int (iv (f : Int))), (2, .int (iv (q : Int)))] [] _ _
  have hn := hW.1
  refine gg_iload_n dX10_met_0 1 rfl ?_
  refine gg_callSi (own := RX10) (yt := gm_X10_isFormula) rfl gl_RX10_181 gk_X10_isFormula gr_X10_isFormula dX10_met_1 (c_X10_isFormula (d := d - 1) (by omega) (by omega)) rfl rfl (Nat.le_of_ble_eq_true rfl) (by show _ ≤ d; omega) ⟨Nat.le_refl _, Nat.le_refl _⟩ (fun e1 μ' hc => ?_)
  obtain ⟨rfl, ⟨rfl, hb2⟩ | ⟨rfl, hb2⟩⟩ := hc
  rotate_left
  · omega
  refine gg_if_eq_f (tgt := 17) dX10_met_4 (by decide) (by decide) (by decide) ?_
  refine gg_iload_n dX10_met_7 2 rfl ?_
  refine gg_iconst dX10_met_8 ?_
  refine gg_bipush dX10_met_9 (by decide) ?_
  refine gg_callSi (own := RX10) (yt := gm_X10_in) rfl gl_RX10_84 gk_X10_in gr_X10_in dX10_met_11 (c_X10_in (d := d - 1) (by omega)) rfl rfl (Nat.le_of_ble_eq_true rfl) (by show _ ≤ d; omega) ⟨Nat.le_refl _, Nat.le_refl _⟩ (fun e3 μ' hc => ?_)
  obtain ⟨rfl, ⟨rfl, hb4⟩ | ⟨rfl, hb4⟩⟩ := hc
  rotate_left
  · omega
  refine gg_if_ne_t (tgt := 20) dX10_met_14 (by decide) (by decide) (by decide) ?_
  refine gg_aload_n dX10_met_20 0 rfl ?_
  refine gg_getR (k' := 146) rfl gf_RX10_9 dX10_met_21 sh_145 pl_145 (by decide) (by decide) rr_145_0 ?_
  refine gg_iload_n dX10_met_24 1 rfl ?_
  refine gg_ialdj f dX10_met_25 sh_146 pl_146 (by decide) rfl hf ?_
  refine gg_toI (b := (n : Int)) hM.1 ?_
  refine gg_if_ne (tgt := 32) dX10_met_26 (by decide) (by omega) (fun hn0 => ?_) (fun hn0 => ?_)
  · refine gg_aload_n dX10_met_32 0 rfl ?_
    refine gg_iload_n dX10_met_33 1 rfl ?_
    refine gg_callVl (own := RX10) (yt := gm_X10_worthNow) rfl gl_RX10_254 gk_X10_worthNow gr_X10_worthNow dX10_met_34 (c_X10_worthNow (d := d - 1) hf hM hW (by omega) (by have := hW.1; omega)) sh_145 pl_145 (by decide) rfl rfl rfl (Nat.le_of_ble_eq_true rfl) (by show _ ≤ d; omega) ⟨Nat.le_refl _, Nat.le_refl _⟩ (fun e5 μ' hc => ?_)
    obtain ⟨I2, rfl, rfl, hI2, hq2⟩ := hc
    refine gg_lstore_n (ls' := [(3, .long (gWo n K N Z (I 186))), (0, .ref (gad (gSS ad) 145)), (1, .int (iv (f : Int))), (2, .int (iv (q : Int)))]) dX10_met_37 rfl (by decide) rfl ?_
    refine gg_iload_n dX10_met_38 3 rfl ?_
    refine gg_bipush dX10_met_39 (by decide) ?_
    refine gg_icmp_ne (tgt := 51) dX10_met_41 (by decide) (by omega) (fun hx => ?_) (fun hx => ?_)
    · refine gg_aload_n dX10_met_51 1 rfl ?_
      refine gg_getR (k' := 190) rfl gf_RX10_39 dX10_met_52 sh_145 pl_145 (by decide) (by decide) rr_145_17 ?_
      refine gg_iload_n dX10_met_55 3 rfl ?_
      refine gg_ialdj q dX10_met_56 sh_190 pl_190 (by decide) rfl (by omega) ?_
      refine gg_ireti dX10_met_57 rfl ⟨rfl, rfl⟩ ?_
      refine ⟨I2, rfl, hI2, ?_⟩
      rw [if_neg (by omega)]
      have h0 := hq2 0 (by omega)
      have h1 := hq2 1 (by omega)
      have h2 := hq2 2 (by omega)
      have h3 := hq2 3 (by omega)
      have h4 := hq2 4 (by omega)
      have h5 := hq2 5 (by omega)
      have h6 := hq2 6 (by omega)
      have h7 := hq2 7 (by omega)
      unfold gMo
      by_cases h8 : q = 8
      · simp only [h8, if_true]
        first | omega | (exfalso; omega)
      · simp only [h8, if_false]
        first | exact hq2 q (by omega) | (exfalso; omega)
    · refine gg_aload_n dX10_met_44 1 rfl ?_
      refine gg_callVi (own := RX10) (yt := gm_X10_metAll) rfl gl_RX10_257 gk_X10_metAll gr_X10_metAll dX10_met_45 (c_X10_metAll (d := d - 1)) sh_145 pl_145 (by decide) rfl rfl rfl (Nat.le_of_ble_eq_true rfl) (by show _ ≤ d; omega) ⟨Nat.le_refl _, Nat.le_refl _⟩ (fun e6 μ' hc => ?_)
      obtain ⟨rfl, rfl⟩ := hc
      refine gg_goto (tgt := 57) dX10_met_48 (by decide) ?_
      refine gg_ireti dX10_met_57 rfl ⟨rfl, rfl⟩ ?_
      refine ⟨I2, rfl, hI2, ?_⟩
      rw [if_neg (by omega)]
      have h0 := hq2 0 (by omega)
      have h1 := hq2 1 (by omega)
      have h2 := hq2 2 (by omega)
      have h3 := hq2 3 (by omega)
      have h4 := hq2 4 (by omega)
      have h5 := hq2 5 (by omega)
      have h6 := hq2 6 (by omega)
      have h7 := hq2 7 (by omega)
      unfold gMo
      by_cases h8 : q = 8
      · simp only [h8, if_true]
        first | omega | (exfalso; omega)
      · simp only [h8, if_false]
        first | exact hq2 q (by omega) | (exfalso; omega)
  · refine gg_bipush dX10_met_29 (by decide) ?_
    refine gg_ireti dX10_met_31 rfl ⟨rfl, rfl⟩ ?_
    exact ⟨I, rfl, fun _ _ => rfl, by rw [if_pos (by omega)]⟩

set_option maxRecDepth 10000 in
theorem c_X10_met_out {l : Launch} {Γ : gC} {ad : Nat → Nat} {I : Nat → Nat → Int} {J : Nat → Nat → Int64} {d : Nat} {i q : Int} (hi : -2147483648 ≤ i ∧ i ≤ 2147483647) (hq : -2147483648 ≤ q ∧ q ≤ 2147483647) (ho : ¬ (0 ≤ i ∧ i ≤ 11 ∧ 0 ≤ q ∧ q ≤ 8)) (hd : 3 ≤ d) : gKi l Γ gm_X10_met d [.ref (gad (gSS ad) 145), .int (iv i), .int (iv q)] (gSS ad, I, J) (fun e μ => μ = (gSS ad, I, J) ∧ e = -2) := by
  refine gKi_of gk_X10_met.1 (Nat.le_of_ble_eq_true rfl) ?_
  show gG l Γ gm_X10_met (d, 0, 0, 0, 0) 0 [(0, .ref (gad (gSS ad) 145)), (1, .int (iv i)), (2, .int (iv q))] [] _ _
  refine gg_iload_n dX10_met_0 1 rfl ?_
  refine gg_callSi (own := RX10) (yt := gm_X10_isFormula) rfl gl_RX10_181 gk_X10_isFormula gr_X10_isFormula dX10_met_1 (c_X10_isFormula (d := d - 1) (by omega) (by omega)) rfl rfl (Nat.le_of_ble_eq_true rfl) (by show _ ≤ d; omega) ⟨Nat.le_refl _, Nat.le_refl _⟩ (fun e1 μ' hc => ?_)
  obtain ⟨rfl, ⟨rfl, hb2⟩ | ⟨rfl, hb2⟩⟩ := hc
  · refine gg_if_eq_f (tgt := 17) dX10_met_4 (by decide) (by decide) (by decide) ?_
    refine gg_iload_n dX10_met_7 2 rfl ?_
    refine gg_iconst dX10_met_8 ?_
    refine gg_bipush dX10_met_9 (by decide) ?_
    refine gg_callSi (own := RX10) (yt := gm_X10_in) rfl gl_RX10_84 gk_X10_in gr_X10_in dX10_met_11 (c_X10_in (d := d - 1) (by omega)) rfl rfl (Nat.le_of_ble_eq_true rfl) (by show _ ≤ d; omega) ⟨Nat.le_refl _, Nat.le_refl _⟩ (fun e3 μ' hc => ?_)
    obtain ⟨rfl, ⟨rfl, hb4⟩ | ⟨rfl, hb4⟩⟩ := hc
    · refine gg_if_ne_t (tgt := 20) dX10_met_14 (by decide) (by decide) (by decide) ?_
      exfalso
      omega
    · refine gg_if_ne_f (tgt := 20) dX10_met_14 (by decide) (by decide) (by decide) ?_
      refine gg_bipush dX10_met_17 (by decide) ?_
      refine gg_ireti dX10_met_19 rfl ⟨rfl, rfl⟩ ?_
      exact ⟨rfl, rfl⟩
  · refine gg_if_eq_t (tgt := 17) dX10_met_4 (by decide) (by decide) (by decide) ?_
    refine gg_bipush dX10_met_17 (by decide) ?_
    refine gg_ireti dX10_met_19 rfl ⟨rfl, rfl⟩ ?_
    exact ⟨rfl, rfl⟩

set_option maxRecDepth 10000 in
theorem c_X10_purse {l : Launch} {Γ : gC} {ad : Nat → Nat} {I : Nat → Nat → Int} {J : Nat → Nat → Int64} {d : Nat} {f n : Nat} {K : Nat → Nat} {N : Nat → Int64} {Z : Nat → Nat} (hf : f < 12) (hM : gMt I J f n K N Z) (hW : gWf n K N Z) {q : Int} (hq : 0 ≤ q ∧ q ≤ 9999) (hd : 205 ≤ d) : gKl l Γ gm_X10_purse d [.ref (gad (gSS ad) 145), .int (iv (f : Int)), .int (iv q)] (gSS ad, I, J) (fun e μ => ∃ I', μ = (gSS ad, I', J) ∧ (∀ p, p ≠ 190 → I' p = I p) ∧ e = (if n = 0 then -1000003 else if (gMo n K N Z (I 186) 8 : Int) > q then -1000006 else gWo n K N Z (I 186))) := by
  refine gKl_of gk_X10_purse.1 (Nat.le_of_ble_eq_true rfl) ?_
  show gG l Γ gm_X10_purse (d, 0, 0, 0, 0) 0 [(0, .ref (gad (gSS ad) 145)), (1, .int (iv (f : Int))), (2, .int (iv q))] [] _ _
  have hn := hW.1
  refine gg_iload_n dX10_purse_0 1 rfl ?_
  refine gg_callSi (own := RX10) (yt := gm_X10_isFormula) rfl gl_RX10_181 gk_X10_isFormula gr_X10_isFormula dX10_purse_1 (c_X10_isFormula (d := d - 1) (by omega) (by omega)) rfl rfl (Nat.le_of_ble_eq_true rfl) (by show _ ≤ d; omega) ⟨Nat.le_refl _, Nat.le_refl _⟩ (fun e1 μ' hc => ?_)
  obtain ⟨rfl, ⟨rfl, hb2⟩ | ⟨rfl, hb2⟩⟩ := hc
  rotate_left
  · omega
  refine gg_if_eq_f (tgt := 18) dX10_purse_4 (by decide) (by decide) (by decide) ?_
  refine gg_iload_n dX10_purse_7 2 rfl ?_
  refine gg_iconst dX10_purse_8 ?_
  refine gg_sipush dX10_purse_9 (by decide) ?_
  refine gg_callSi (own := RX10) (yt := gm_X10_in) rfl gl_RX10_84 gk_X10_in gr_X10_in dX10_purse_12 (c_X10_in (d := d - 1) (by omega)) rfl rfl (Nat.le_of_ble_eq_true rfl) (by show _ ≤ d; omega) ⟨Nat.le_refl _, Nat.le_refl _⟩ (fun e3 μ' hc => ?_)
  obtain ⟨rfl, ⟨rfl, hb4⟩ | ⟨rfl, hb4⟩⟩ := hc
  rotate_left
  · omega
  refine gg_if_ne_t (tgt := 24) dX10_purse_15 (by decide) (by decide) (by decide) ?_
  refine gg_aload_n dX10_purse_24 0 rfl ?_
  refine gg_getR (k' := 146) rfl gf_RX10_9 dX10_purse_25 sh_145 pl_145 (by decide) (by decide) rr_145_0 ?_
  refine gg_iload_n dX10_purse_28 1 rfl ?_
  refine gg_ialdj f dX10_purse_29 sh_146 pl_146 (by decide) rfl hf ?_
  refine gg_toI (b := (n : Int)) hM.1 ?_
  refine gg_if_ne (tgt := 39) dX10_purse_30 (by decide) (by omega) (fun hn0 => ?_) (fun hn0 => ?_)
  · refine gg_aload_n dX10_purse_39 0 rfl ?_
    refine gg_iload_n dX10_purse_40 1 rfl ?_
    refine gg_callVl (own := RX10) (yt := gm_X10_worthNow) rfl gl_RX10_254 gk_X10_worthNow gr_X10_worthNow dX10_purse_41 (c_X10_worthNow (d := d - 1) hf hM hW (by omega) (by have := hW.1; omega)) sh_145 pl_145 (by decide) rfl rfl rfl (Nat.le_of_ble_eq_true rfl) (by show _ ≤ d; omega) ⟨Nat.le_refl _, Nat.le_refl _⟩ (fun e5 μ' hc => ?_)
    obtain ⟨I2, rfl, rfl, hI2, hq2⟩ := hc
    refine gg_lstore_n (ls' := [(3, .long (gWo n K N Z (I 186))), (0, .ref (gad (gSS ad) 145)), (1, .int (iv (f : Int))), (2, .int (iv q))]) dX10_purse_44 rfl (by decide) rfl ?_
    refine gg_aload_n dX10_purse_45 1 rfl ?_
    refine gg_callVi (own := RX10) (yt := gm_X10_metAll) rfl gl_RX10_257 gk_X10_metAll gr_X10_metAll dX10_purse_46 (c_X10_metAll (d := d - 1)) sh_145 pl_145 (by decide) rfl rfl rfl (Nat.le_of_ble_eq_true rfl) (by show _ ≤ d; omega) ⟨Nat.le_refl _, Nat.le_refl _⟩ (fun e6 μ' hc => ?_)
    obtain ⟨rfl, rfl⟩ := hc
    have hs : I2 190 0 + I2 190 1 + I2 190 2 + I2 190 3 + I2 190 4 + I2 190 5 + I2 190 6 + I2 190 7 = (gMo n K N Z (I 186) 8 : Int) := by
      have h0 := hq2 0 (by omega)
      have h1 := hq2 1 (by omega)
      have h2 := hq2 2 (by omega)
      have h3 := hq2 3 (by omega)
      have h4 := hq2 4 (by omega)
      have h5 := hq2 5 (by omega)
      have h6 := hq2 6 (by omega)
      have h7 := hq2 7 (by omega)
      unfold gMo
      simp only [if_true]
      omega
    have hle := gMo_le hW (I 186) (by omega)
    refine gg_toI (b := (gMo n K N Z (I 186) 8 : Int)) hs ?_
    refine gg_iload_n dX10_purse_49 3 rfl ?_
    refine gg_icmp_le (tgt := 61) dX10_purse_50 (by decide) (by omega) (fun hx => ?_) (fun hx => ?_)
    · refine gg_lload_n dX10_purse_61 0 rfl ?_
      refine gg_lretl dX10_purse_62 rfl ⟨rfl, rfl⟩ ?_
      exact ⟨I2, rfl, hI2, by rw [if_neg (by omega), if_neg (by omega)]⟩
    · refine gg_bipush dX10_purse_53 (by decide) ?_
      refine gg_callSl (own := RX10) (yt := gm_X10_asLong) rfl gl_RX10_250 gk_X10_asLong gr_X10_asLong dX10_purse_55 (c_X10_asLong (d := d - 1) (i := (-6))) rfl rfl (Nat.le_of_ble_eq_true rfl) (by show _ ≤ d; omega) ⟨Nat.le_refl _, Nat.le_refl _⟩ (fun e7 μ' hc => ?_)
      obtain ⟨rfl, rfl⟩ := hc
      refine gg_goto (tgt := 62) dX10_purse_58 (by decide) ?_
      refine gg_lretl dX10_purse_62 rfl ⟨rfl, rfl⟩ ?_
      exact ⟨I2, rfl, hI2, by rw [if_neg (by omega), if_pos (by omega)]; decide⟩
  · refine gg_bipush dX10_purse_33 (by decide) ?_
    refine gg_callSl (own := RX10) (yt := gm_X10_asLong) rfl gl_RX10_250 gk_X10_asLong gr_X10_asLong dX10_purse_35 (c_X10_asLong (d := d - 1) (i := (-3))) rfl rfl (Nat.le_of_ble_eq_true rfl) (by show _ ≤ d; omega) ⟨Nat.le_refl _, Nat.le_refl _⟩ (fun e8 μ' hc => ?_)
    obtain ⟨rfl, rfl⟩ := hc
    refine gg_lretl dX10_purse_38 rfl ⟨rfl, rfl⟩ ?_
    exact ⟨I, rfl, fun _ _ => rfl, by rw [if_pos (by omega)]; decide⟩

set_option maxRecDepth 10000 in
theorem c_X10_purse_out {l : Launch} {Γ : gC} {ad : Nat → Nat} {I : Nat → Nat → Int} {J : Nat → Nat → Int64} {d : Nat} {i q : Int} (hi : -2147483648 ≤ i ∧ i ≤ 2147483647) (hq : -2147483648 ≤ q ∧ q ≤ 2147483647) (ho : ¬ (0 ≤ i ∧ i ≤ 11 ∧ 0 ≤ q ∧ q ≤ 9999)) (hd : 3 ≤ d) : gKl l Γ gm_X10_purse d [.ref (gad (gSS ad) 145), .int (iv i), .int (iv q)] (gSS ad, I, J) (fun e μ => μ = (gSS ad, I, J) ∧ e = -1000002) := by
  refine gKl_of gk_X10_purse.1 (Nat.le_of_ble_eq_true rfl) ?_
  show gG l Γ gm_X10_purse (d, 0, 0, 0, 0) 0 [(0, .ref (gad (gSS ad) 145)), (1, .int (iv i)), (2, .int (iv q))] [] _ _
  refine gg_iload_n dX10_purse_0 1 rfl ?_
  refine gg_callSi (own := RX10) (yt := gm_X10_isFormula) rfl gl_RX10_181 gk_X10_isFormula gr_X10_isFormula dX10_purse_1 (c_X10_isFormula (d := d - 1) (by omega) (by omega)) rfl rfl (Nat.le_of_ble_eq_true rfl) (by show _ ≤ d; omega) ⟨Nat.le_refl _, Nat.le_refl _⟩ (fun e1 μ' hc => ?_)
  obtain ⟨rfl, ⟨rfl, hb2⟩ | ⟨rfl, hb2⟩⟩ := hc
  · refine gg_if_eq_f (tgt := 18) dX10_purse_4 (by decide) (by decide) (by decide) ?_
    refine gg_iload_n dX10_purse_7 2 rfl ?_
    refine gg_iconst dX10_purse_8 ?_
    refine gg_sipush dX10_purse_9 (by decide) ?_
    refine gg_callSi (own := RX10) (yt := gm_X10_in) rfl gl_RX10_84 gk_X10_in gr_X10_in dX10_purse_12 (c_X10_in (d := d - 1) (by omega)) rfl rfl (Nat.le_of_ble_eq_true rfl) (by show _ ≤ d; omega) ⟨Nat.le_refl _, Nat.le_refl _⟩ (fun e3 μ' hc => ?_)
    obtain ⟨rfl, ⟨rfl, hb4⟩ | ⟨rfl, hb4⟩⟩ := hc
    · refine gg_if_ne_t (tgt := 24) dX10_purse_15 (by decide) (by decide) (by decide) ?_
      exfalso
      omega
    · refine gg_if_ne_f (tgt := 24) dX10_purse_15 (by decide) (by decide) (by decide) ?_
      refine gg_bipush dX10_purse_18 (by decide) ?_
      refine gg_callSl (own := RX10) (yt := gm_X10_asLong) rfl gl_RX10_250 gk_X10_asLong gr_X10_asLong dX10_purse_20 (c_X10_asLong (d := d - 1) (i := (-2))) rfl rfl (Nat.le_of_ble_eq_true rfl) (by show _ ≤ d; omega) ⟨Nat.le_refl _, Nat.le_refl _⟩ (fun e5 μ' hc => ?_)
      obtain ⟨rfl, rfl⟩ := hc
      refine gg_lretl dX10_purse_23 rfl ⟨rfl, rfl⟩ ?_
      exact ⟨rfl, by decide⟩
  · refine gg_if_eq_t (tgt := 18) dX10_purse_4 (by decide) (by decide) (by decide) ?_
    refine gg_bipush dX10_purse_18 (by decide) ?_
    refine gg_callSl (own := RX10) (yt := gm_X10_asLong) rfl gl_RX10_250 gk_X10_asLong gr_X10_asLong dX10_purse_20 (c_X10_asLong (d := d - 1) (i := (-2))) rfl rfl (Nat.le_of_ble_eq_true rfl) (by show _ ≤ d; omega) ⟨Nat.le_refl _, Nat.le_refl _⟩ (fun e6 μ' hc => ?_)
    obtain ⟨rfl, rfl⟩ := hc
    refine gg_lretl dX10_purse_23 rfl ⟨rfl, rfl⟩ ?_
    exact ⟨rfl, by decide⟩

