/-! an image is kept and laid back -/
def gKp (p : Nat) : Prop := 41 ≤ p ∧ p < 137 ∧ 4 ≤ (p - 41) % 8
def gFp (p : Nat) : Prop := 41 ≤ p ∧ p < 137 ∧ (p - 41) % 8 < 4
set_option maxRecDepth 10000 in
theorem w_X9_image {l : Launch} {Γ : gC} {ad : Nat → Nat} {I0 : Nat → Nat → Int} {J0 : Nat → Nat → Int64} {d : Nat} (hR : ∀ f, f < 12 → ∃ (n : Nat) (K : Nat → Nat) (N : Nat → Int64) (Z : Nat → Nat), gWf n K N Z ∧ gAt I0 J0 (41 + 8 * f) n K N Z) {nf : Nat → Nat} (hnf : ∀ f, f < 12 → I0 (41 + 8 * f) 3 = (nf f : Int) ∧ nf f ≤ 200) (hd : 2 ≤ d) : ∀ (m : Nat) (i : Nat) (I : Nat → Nat → Int) (J : Nat → Nat → Int64), 12 - i < m → (i ≤ 12) → (∀ p, ¬ gKp p → I p = I0 p) → (∀ p, ¬ gKp p → J p = J0 p) → (∀ f, f < i → f < 12 → ∀ (n : Nat) (K : Nat → Nat) (N : Nat → Int64) (Z : Nat → Nat), gWf n K N Z → gAt I0 J0 (41 + 8 * f) n K N Z → gAt I J (45 + 8 * f) n K N Z) → gG l Γ gm_X9_image (d, 0, 0, 0, 0) 2 [(1, .int (iv (i : Int))), (0, .ref (gad (gSS ad) 0))] [] (gSS ad, I, J) (gDi (fun e μ => ∃ I' J', μ = (gSS ad, I', J') ∧ (∀ f, f < 12 → ∀ (n : Nat) (K : Nat → Nat) (N : Nat → Int64) (Z : Nat → Nat), gWf n K N Z → gAt I0 J0 (41 + 8 * f) n K N Z → gAt I' J' (45 + 8 * f) n K N Z) ∧ (∀ p, ¬ gKp p → p ≠ 4 → p ≠ 0 → I' p = I0 p) ∧ (∀ q, q ≠ 4 → I' 0 q = I0 0 q) ∧ (∀ p, ¬ gKp p → J' p = J0 p) ∧ I' 0 4 = 1 ∧ (∀ j, j < 8 → I' 4 j = I0 3 j) ∧ e = (gNE nf 12 : Int))) := by
  intro m
  induction m with
  | zero => intros; omega
  | succ m ih =>
    intro i I J hm hi hI hJ hD0
    refine gg_iload_n dX9_image_2 0 rfl ?_
    refine gg_bipush dX9_image_3 (by decide) ?_
    refine gg_icmp_ge (tgt := 29) dX9_image_5 (by decide) (by omega) (fun hx => ?_) (fun hx => ?_)
    · have he : i = 12 := by omega
      subst he
      have hD := fun f hf => hD0 f hf hf
      refine gg_aload_n dX9_image_29 1 rfl ?_
      refine gg_getR (k' := 3) rfl gf_RX9_18 dX9_image_30 sh_0 pl_0 (by decide) (by decide) rr_0_2 ?_
      refine gg_iconst dX9_image_33 ?_
      refine gg_aload_n dX9_image_34 1 rfl ?_
      refine gg_getR (k' := 4) rfl gf_RX9_22 dX9_image_35 sh_0 pl_0 (by decide) (by decide) rr_0_3 ?_
      refine gg_iconst dX9_image_38 ?_
      refine gg_bipush dX9_image_39 (by decide) ?_
      refine gg_copyi rfl gl_RX9_272 dX9_image_41 sh_3 pl_3 sh_4 pl_4 (by omega) (by decide) (Nat.le_of_ble_eq_true rfl) (by omega) ⟨Nat.le_refl _, Nat.le_refl _⟩ ?_
      refine gg_aload_n dX9_image_44 1 rfl ?_
      refine gg_iconst dX9_image_45 ?_
      refine gg_putI rfl gf_RX9_278 dX9_image_46 sh_0 pl_0 (by decide) (by decide) (by decide) gfit_1 ?_
      refine gg_aload_n dX9_image_49 1 rfl ?_
      refine gg_callVi (own := RX9) (yt := gm_X9_fullFormulas) rfl gl_RX9_282 gk_X9_fullFormulas gr_X9_fullFormulas dX9_image_50 (c_X9_fullFormulas (d := d - 1) (nf := nf) (fun f hf => by rw [show (gu (gur I 4 (va_cpy (I 3) (I 4) (0 : Int).toNat (0 : Int).toNat (8 : Int).toNat)) 0 4 1) (41 + 8 * f) 3 = I0 (41 + 8 * f) 3 by rw [gu_other (by omega), gur_other (by omega), hI _ (by unfold gKp; omega)]]; exact hnf f hf) (by omega)) sh_0 pl_0 (by decide) rfl rfl rfl (Nat.le_of_ble_eq_true rfl) (by show _ ≤ d; omega) ⟨Nat.le_refl _, Nat.le_refl _⟩ (fun e1 μ' hc => ?_)
      obtain ⟨rfl, rfl⟩ := hc
      refine gg_ireti dX9_image_53 rfl ⟨rfl, rfl⟩ ?_
      refine ⟨_, _, rfl, fun f hf n K N Z hW hA => gAt_same (hD f hf n K N Z hW hA) (by rw [gu_other (by omega), gur_other (by omega)]) (by rw [gu_other (by omega), gur_other (by omega)]) rfl (by rw [gu_other (by omega), gur_other (by omega)]), fun p h1 h2 h3 => ?_, fun q hq => ?_, hJ, gu_s, fun j hj => ?_, rfl⟩
      · rw [gu_other h3, gur_other h2]
        exact hI p h1
      · rw [gu_n (by omega), gur_other (by omega), hI 0 (by unfold gKp; omega)]
      · rw [gu_other (by omega), gur_self]
        simp [va_cpy, hj]
        rw [hI 3 (by unfold gKp; omega)]
    · have hi2 : i < 12 := by omega
      obtain ⟨n, K, N, Z, hW, hA0⟩ := hR i hi2
      have hS : gAt I J (41 + 8 * i) n K N Z := gAt_same hA0 (hI _ (by unfold gKp; omega)) (hI _ (by unfold gKp; omega)) (hJ _ (by unfold gKp; omega)) (hI _ (by unfold gKp; omega))
      refine gg_aload_n dX9_image_8 1 rfl ?_
      refine gg_getR (k' := 2) rfl gf_RX9_15 dX9_image_9 sh_0 pl_0 (by decide) (by decide) rr_0_1 ?_
      refine gg_iload_n dX9_image_12 0 rfl ?_
      refine gg_aaldj (t := 4) i (k' := (45 + 8 * i)) dX9_image_13 sh_2 (by decide) pl_2 (by decide) rfl hi2 (rr_2 hi2) ?_
      refine gg_aload_n dX9_image_14 1 rfl ?_
      refine gg_getR (k' := 1) rfl gf_RX9_11 dX9_image_15 sh_0 pl_0 (by decide) (by decide) rr_0_0 ?_
      refine gg_iload_n dX9_image_18 0 rfl ?_
      refine gg_aaldj (t := 4) i (k' := (41 + 8 * i)) dX9_image_19 sh_1 (by decide) pl_1 (by decide) rfl hi2 (rr_1 hi2) ?_
      refine gg_callVv (own := RX9) (yt := gm_X1_become) rfl gl_RX9_135 gk_X1_become gr_X1_become dX9_image_20 (c_X1_become (d := d - 1) (gF_ke i hi2) (gF_fo i hi2) hS hW.1 (by omega)) (gFsh (gF_ke i hi2)) (gFlt (gF_ke i hi2)) (by decide) rfl rfl rfl (Nat.le_of_ble_eq_true rfl) (by show _ ≤ d; omega) ⟨Nat.le_refl _, Nat.le_refl _⟩ (fun μ' hc => ?_)
      obtain ⟨I1, J1, rfl, hb1, hb2_, hb3, hb4_⟩ := hc
      have hb2 : ∀ p, p ≠ 45 + 8 * i → p ≠ 45 + 8 * i + 1 → p ≠ 45 + 8 * i + 3 → I1 p = I p := fun p u v w => funext (fun q => hb2_ p q u v w)
      have hb4 : ∀ p, p ≠ 45 + 8 * i + 2 → J1 p = J p := fun p u => funext (fun q => hb4_ p q u)
      refine gg_iincv (ls' := [(1, .int (iv ((i + 1 : Nat) : Int))), (0, .ref (gad (gSS ad) 0))]) dX9_image_23 0 rfl (by omega) (by decide) rfl ?_
      refine gg_goto (tgt := 2) dX9_image_26 (by decide) ?_
      refine ih (i + 1) I1 J1 (by omega) (by omega) (fun p hp => ?_) (fun p hp => ?_) (fun f hf hf12 n2 K2 N2 Z2 hW2 hA2 => ?_)
      · have hne : p ≠ 45 + 8 * i ∧ p ≠ 45 + 8 * i + 1 ∧ p ≠ 45 + 8 * i + 3 := by
          unfold gKp at hp
          omega
        rw [hb2 p hne.1 hne.2.1 hne.2.2]
        exact hI p hp
      · have hne : p ≠ 45 + 8 * i + 2 := by
          unfold gKp at hp
          omega
        rw [hb4 p hne]
        exact hJ p hp
      · by_cases hfi : f = i
        · subst hfi
          have hS2 : gAt I J (41 + 8 * f) n2 K2 N2 Z2 := gAt_same hA2 (hI _ (by unfold gKp; omega)) (hI _ (by unfold gKp; omega)) (hJ _ (by unfold gKp; omega)) (hI _ (by unfold gKp; omega))
          have e1 : n2 = n := by have := hS2.1; have := hS.1; omega
          subst e1
          refine ⟨hb1.1, fun j hj => ?_⟩
          have g1 := hb1.2 j hj
          have g2 := hS.2 j hj
          have g3 := hS2.2 j hj
          exact ⟨by rw [g1.1, ← g2.1, g3.1], by rw [g1.2.1, ← g2.2.1, g3.2.1], by rw [g1.2.2, ← g2.2.2, g3.2.2]⟩
        · exact gAt_same (hD0 f (by omega) hf12 n2 K2 N2 Z2 hW2 hA2) (hb2 _ (by omega) (by omega) (by omega)) (hb2 _ (by omega) (by omega) (by omega)) (hb4 _ (by omega)) (hb2 _ (by omega) (by omega) (by omega))

set_option maxRecDepth 10000 in
theorem c_X9_image {l : Launch} {Γ : gC} {ad : Nat → Nat} {I : Nat → Nat → Int} {J : Nat → Nat → Int64} {d : Nat} (hR : ∀ f, f < 12 → ∃ (n : Nat) (K : Nat → Nat) (N : Nat → Int64) (Z : Nat → Nat), gWf n K N Z ∧ gAt I J (41 + 8 * f) n K N Z) {nf : Nat → Nat} (hnf : ∀ f, f < 12 → I (41 + 8 * f) 3 = (nf f : Int) ∧ nf f ≤ 200) (hd : 2 ≤ d) : gKi l Γ gm_X9_image d [.ref (gad (gSS ad) 0)] (gSS ad, I, J) (fun e μ => ∃ I' J', μ = (gSS ad, I', J') ∧ (∀ f, f < 12 → ∀ (n : Nat) (K : Nat → Nat) (N : Nat → Int64) (Z : Nat → Nat), gWf n K N Z → gAt I J (41 + 8 * f) n K N Z → gAt I' J' (45 + 8 * f) n K N Z) ∧ (∀ p, ¬ gKp p → p ≠ 4 → p ≠ 0 → I' p = I p) ∧ (∀ q, q ≠ 4 → I' 0 q = I 0 q) ∧ (∀ p, ¬ gKp p → J' p = J p) ∧ I' 0 4 = 1 ∧ (∀ j, j < 8 → I' 4 j = I 3 j) ∧ e = (gNE nf 12 : Int)) := by
  refine gKi_of gk_X9_image.1 (Nat.le_of_ble_eq_true rfl) ?_
  show gG l Γ gm_X9_image (d, 0, 0, 0, 0) 0 [(0, .ref (gad (gSS ad) 0))] [] _ _
  refine gg_iconst dX9_image_0 ?_
  refine gg_istore_n (ls' := [(1, .int (iv 0)), (0, .ref (gad (gSS ad) 0))]) dX9_image_1 rfl (by decide) rfl ?_
  refine gg_sub [0, 1] rfl ?_
  exact w_X9_image hR hnf hd 13 0 I J (by omega) (by omega) (fun _ _ => rfl) (fun _ _ => rfl) (fun f hf => absurd hf (Nat.not_lt_zero _))

set_option maxRecDepth 10000 in
theorem w_X9_back {l : Launch} {Γ : gC} {ad : Nat → Nat} {I0 : Nat → Nat → Int} {J0 : Nat → Nat → Int64} {d : Nat} (hR : ∀ f, f < 12 → ∃ (n : Nat) (K : Nat → Nat) (N : Nat → Int64) (Z : Nat → Nat), gWf n K N Z ∧ gAt I0 J0 (45 + 8 * f) n K N Z) {nf : Nat → Nat} (hnf : ∀ f, f < 12 → I0 (45 + 8 * f) 3 = (nf f : Int) ∧ nf f ≤ 200) (hd : 2 ≤ d) : ∀ (m : Nat) (i : Nat) (I : Nat → Nat → Int) (J : Nat → Nat → Int64), 12 - i < m → (i ≤ 12) → (∀ p, ¬ gFp p → I p = I0 p) → (∀ p, ¬ gFp p → J p = J0 p) → (∀ f, f < i → f < 12 → ∀ (n : Nat) (K : Nat → Nat) (N : Nat → Int64) (Z : Nat → Nat), gWf n K N Z → gAt I0 J0 (45 + 8 * f) n K N Z → gAt I J (41 + 8 * f) n K N Z) → gG l Γ gm_X9_back (d, 0, 0, 0, 0) 12 [(1, .int (iv (i : Int))), (0, .ref (gad (gSS ad) 0))] [] (gSS ad, I, J) (gDi (fun e μ => ∃ I' J', μ = (gSS ad, I', J') ∧ (∀ f, f < 12 → ∀ (n : Nat) (K : Nat → Nat) (N : Nat → Int64) (Z : Nat → Nat), gWf n K N Z → gAt I0 J0 (45 + 8 * f) n K N Z → gAt I' J' (41 + 8 * f) n K N Z) ∧ (∀ p, ¬ gFp p → p ≠ 3 → p ≠ 0 → I' p = I0 p) ∧ (∀ q, q ≠ 4 → I' 0 q = I0 0 q) ∧ (∀ p, ¬ gFp p → J' p = J0 p) ∧ I' 0 4 = I0 0 4 ∧ (∀ j, j < 8 → I' 3 j = I0 4 j) ∧ e = (gNE nf 12 : Int))) := by
  intro m
  induction m with
  | zero => intros; omega
  | succ m ih =>
    intro i I J hm hi hI hJ hD0
    refine gg_iload_n dX9_back_12 0 rfl ?_
    refine gg_bipush dX9_back_13 (by decide) ?_
    refine gg_icmp_ge (tgt := 39) dX9_back_15 (by decide) (by omega) (fun hx => ?_) (fun hx => ?_)
    · have he : i = 12 := by omega
      subst he
      have hD := fun f hf => hD0 f hf hf
      refine gg_aload_n dX9_back_39 1 rfl ?_
      refine gg_getR (k' := 4) rfl gf_RX9_22 dX9_back_40 sh_0 pl_0 (by decide) (by decide) rr_0_3 ?_
      refine gg_iconst dX9_back_43 ?_
      refine gg_aload_n dX9_back_44 1 rfl ?_
      refine gg_getR (k' := 3) rfl gf_RX9_18 dX9_back_45 sh_0 pl_0 (by decide) (by decide) rr_0_2 ?_
      refine gg_iconst dX9_back_48 ?_
      refine gg_bipush dX9_back_49 (by decide) ?_
      refine gg_copyi rfl gl_RX9_272 dX9_back_51 sh_4 pl_4 sh_3 pl_3 (by omega) (by decide) (Nat.le_of_ble_eq_true rfl) (by omega) ⟨Nat.le_refl _, Nat.le_refl _⟩ ?_
      refine gg_aload_n dX9_back_54 1 rfl ?_
      have hnf2 : ∀ f, f < 12 → (gur I 3 (va_cpy (I 4) (I 3) (0 : Int).toNat (0 : Int).toNat (8 : Int).toNat)) (41 + 8 * f) 3 = (nf f : Int) ∧ nf f ≤ 200 := fun f hf => by
        refine ⟨?_, (hnf f hf).2⟩
        obtain ⟨n, K, N, Z, hW, hA0⟩ := hR f hf
        rw [gur_other (by omega), (hD f hf n K N Z hW hA0).1, ← hA0.1]
        exact (hnf f hf).1
      refine gg_callVi (own := RX9) (yt := gm_X9_fullFormulas) rfl gl_RX9_282 gk_X9_fullFormulas gr_X9_fullFormulas dX9_back_55 (c_X9_fullFormulas (d := d - 1) (nf := nf) hnf2 (by omega)) sh_0 pl_0 (by decide) rfl rfl rfl (Nat.le_of_ble_eq_true rfl) (by show _ ≤ d; omega) ⟨Nat.le_refl _, Nat.le_refl _⟩ (fun e1 μ' hc => ?_)
      obtain ⟨rfl, rfl⟩ := hc
      refine gg_ireti dX9_back_58 rfl ⟨rfl, rfl⟩ ?_
      refine ⟨_, _, rfl, fun f hf n K N Z hW hA => gAt_same (hD f hf n K N Z hW hA) (by rw [gur_other (by omega)]) (by rw [gur_other (by omega)]) rfl (by rw [gur_other (by omega)]), fun p h1 h2 h3 => ?_, fun q hq => ?_, hJ, ?_, fun j hj => ?_, rfl⟩
      · rw [gur_other h2]
        exact hI p h1
      · rw [gur_other (by omega), hI 0 (by unfold gFp; omega)]
      · rw [gur_other (by omega), hI 0 (by unfold gFp; omega)]
      · rw [gur_self]
        simp [va_cpy, hj]
        rw [hI 4 (by unfold gFp; omega)]
    · have hi2 : i < 12 := by omega
      obtain ⟨n, K, N, Z, hW, hA0⟩ := hR i hi2
      have hS : gAt I J (45 + 8 * i) n K N Z := gAt_same hA0 (hI _ (by unfold gFp; omega)) (hI _ (by unfold gFp; omega)) (hJ _ (by unfold gFp; omega)) (hI _ (by unfold gFp; omega))
      refine gg_aload_n dX9_back_18 1 rfl ?_
      refine gg_getR (k' := 1) rfl gf_RX9_11 dX9_back_19 sh_0 pl_0 (by decide) (by decide) rr_0_0 ?_
      refine gg_iload_n dX9_back_22 0 rfl ?_
      refine gg_aaldj (t := 4) i (k' := (41 + 8 * i)) dX9_back_23 sh_1 (by decide) pl_1 (by decide) rfl hi2 (rr_1 hi2) ?_
      refine gg_aload_n dX9_back_24 1 rfl ?_
      refine gg_getR (k' := 2) rfl gf_RX9_15 dX9_back_25 sh_0 pl_0 (by decide) (by decide) rr_0_1 ?_
      refine gg_iload_n dX9_back_28 0 rfl ?_
      refine gg_aaldj (t := 4) i (k' := (45 + 8 * i)) dX9_back_29 sh_2 (by decide) pl_2 (by decide) rfl hi2 (rr_2 hi2) ?_
      refine gg_callVv (own := RX9) (yt := gm_X1_become) rfl gl_RX9_135 gk_X1_become gr_X1_become dX9_back_30 (c_X1_become (d := d - 1) (gF_fo i hi2) (gF_ke i hi2) hS hW.1 (by omega)) (gFsh (gF_fo i hi2)) (gFlt (gF_fo i hi2)) (by decide) rfl rfl rfl (Nat.le_of_ble_eq_true rfl) (by show _ ≤ d; omega) ⟨Nat.le_refl _, Nat.le_refl _⟩ (fun μ' hc => ?_)
      obtain ⟨I1, J1, rfl, hb1, hb2_, hb3, hb4_⟩ := hc
      have hb2 : ∀ p, p ≠ 41 + 8 * i → p ≠ 41 + 8 * i + 1 → p ≠ 41 + 8 * i + 3 → I1 p = I p := fun p u v w => funext (fun q => hb2_ p q u v w)
      have hb4 : ∀ p, p ≠ 41 + 8 * i + 2 → J1 p = J p := fun p u => funext (fun q => hb4_ p q u)
      refine gg_iincv (ls' := [(1, .int (iv ((i + 1 : Nat) : Int))), (0, .ref (gad (gSS ad) 0))]) dX9_back_33 0 rfl (by omega) (by decide) rfl ?_
      refine gg_goto (tgt := 12) dX9_back_36 (by decide) ?_
      refine ih (i + 1) I1 J1 (by omega) (by omega) (fun p hp => ?_) (fun p hp => ?_) (fun f hf hf12 n2 K2 N2 Z2 hW2 hA2 => ?_)
      · have hne : p ≠ 41 + 8 * i ∧ p ≠ 41 + 8 * i + 1 ∧ p ≠ 41 + 8 * i + 3 := by
          unfold gFp at hp
          omega
        rw [hb2 p hne.1 hne.2.1 hne.2.2]
        exact hI p hp
      · have hne : p ≠ 41 + 8 * i + 2 := by
          unfold gFp at hp
          omega
        rw [hb4 p hne]
        exact hJ p hp
      · by_cases hfi : f = i
        · subst hfi
          have hS2 : gAt I J (45 + 8 * f) n2 K2 N2 Z2 := gAt_same hA2 (hI _ (by unfold gFp; omega)) (hI _ (by unfold gFp; omega)) (hJ _ (by unfold gFp; omega)) (hI _ (by unfold gFp; omega))
          have e1 : n2 = n := by have := hS2.1; have := hS.1; omega
          subst e1
          refine ⟨hb1.1, fun j hj => ?_⟩
          have g1 := hb1.2 j hj
          have g2 := hS.2 j hj
          have g3 := hS2.2 j hj
          exact ⟨by rw [g1.1, ← g2.1, g3.1], by rw [g1.2.1, ← g2.2.1, g3.2.1], by rw [g1.2.2, ← g2.2.2, g3.2.2]⟩
        · exact gAt_same (hD0 f (by omega) hf12 n2 K2 N2 Z2 hW2 hA2) (hb2 _ (by omega) (by omega) (by omega)) (hb2 _ (by omega) (by omega) (by omega)) (hb4 _ (by omega)) (hb2 _ (by omega) (by omega) (by omega))

set_option maxRecDepth 10000 in
theorem c_X9_back {l : Launch} {Γ : gC} {ad : Nat → Nat} {I : Nat → Nat → Int} {J : Nat → Nat → Int64} {d : Nat} (hR : ∀ f, f < 12 → ∃ (n : Nat) (K : Nat → Nat) (N : Nat → Int64) (Z : Nat → Nat), gWf n K N Z ∧ gAt I J (45 + 8 * f) n K N Z) {nf : Nat → Nat} (hnf : ∀ f, f < 12 → I (45 + 8 * f) 3 = (nf f : Int) ∧ nf f ≤ 200) (hk : I 0 4 = 1) (hd : 2 ≤ d) : gKi l Γ gm_X9_back d [.ref (gad (gSS ad) 0)] (gSS ad, I, J) (fun e μ => ∃ I' J', μ = (gSS ad, I', J') ∧ (∀ f, f < 12 → ∀ (n : Nat) (K : Nat → Nat) (N : Nat → Int64) (Z : Nat → Nat), gWf n K N Z → gAt I J (45 + 8 * f) n K N Z → gAt I' J' (41 + 8 * f) n K N Z) ∧ (∀ p, ¬ gFp p → p ≠ 3 → p ≠ 0 → I' p = I p) ∧ (∀ q, q ≠ 4 → I' 0 q = I 0 q) ∧ (∀ p, ¬ gFp p → J' p = J p) ∧ I' 0 4 = I 0 4 ∧ (∀ j, j < 8 → I' 3 j = I 4 j) ∧ e = (gNE nf 12 : Int)) := by
  refine gKi_of gk_X9_back.1 (Nat.le_of_ble_eq_true rfl) ?_
  show gG l Γ gm_X9_back (d, 0, 0, 0, 0) 0 [(0, .ref (gad (gSS ad) 0))] [] _ _
  refine gg_aload_n dX9_back_0 0 rfl ?_
  refine gg_getI rfl gf_RX9_278 dX9_back_1 sh_0 pl_0 (by decide) (by decide) ?_
  refine gg_toI (b := 1) hk ?_
  refine gg_if_ne_t (tgt := 10) dX9_back_4 (by decide) (by decide) (by decide) ?_
  refine gg_iconst dX9_back_10 ?_
  refine gg_istore_n (ls' := [(1, .int (iv 0)), (0, .ref (gad (gSS ad) 0))]) dX9_back_11 rfl (by decide) rfl ?_
  refine gg_sub [0, 1] rfl ?_
  exact w_X9_back hR hnf hd 13 0 I J (by omega) (by omega) (fun _ _ => rfl) (fun _ _ => rfl) (fun f hf => absurd hf (Nat.not_lt_zero _))

set_option maxRecDepth 10000 in
theorem c_X9_back_0 {l : Launch} {Γ : gC} {ad : Nat → Nat} {I : Nat → Nat → Int} {J : Nat → Nat → Int64} {d : Nat} (hk : I 0 4 = 0) (hd : 1 ≤ d) : gKi l Γ gm_X9_back d [.ref (gad (gSS ad) 0)] (gSS ad, I, J) (fun e μ => μ = (gSS ad, I, J) ∧ e = -3) := by
  refine gKi_of gk_X9_back.1 (Nat.le_of_ble_eq_true rfl) ?_
  show gG l Γ gm_X9_back (d, 0, 0, 0, 0) 0 [(0, .ref (gad (gSS ad) 0))] [] _ _
  refine gg_aload_n dX9_back_0 0 rfl ?_
  refine gg_getI rfl gf_RX9_278 dX9_back_1 sh_0 pl_0 (by decide) (by decide) ?_
  refine gg_toI (b := 0) hk ?_
  refine gg_if_ne_f (tgt := 10) dX9_back_4 (by decide) (by decide) (by decide) ?_
  refine gg_bipush dX9_back_7 (by decide) ?_
  refine gg_ireti dX9_back_9 rfl ⟨rfl, rfl⟩ ?_
  exact ⟨rfl, rfl⟩

