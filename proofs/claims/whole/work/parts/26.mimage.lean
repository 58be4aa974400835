/-! the reference's image, back -/
theorem va_cpy0z {α : Type} {f g : Nat → α} {n j : Nat} (h : j < n) : va_cpy f g (0 : Int).toNat (0 : Int).toNat n j = f j := va_cpy0 h
set_option maxRecDepth 10000 in
theorem w_X10_image {l : Launch} {Γ : gC} {ad : Nat → Nat} {I0 : Nat → Nat → Int} {J0 : Nat → Nat → Int64} {d : Nat} {nf : Nat → Nat} (hnf : ∀ f, f < 12 → I0 146 f = (nf f : Int) ∧ nf f ≤ 200) (hd : 1 ≤ d) : ∀ (m : Nat) (i : Nat) (I : Nat → Nat → Int) (J : Nat → Nat → Int64), 12 - i < m → (i ≤ 12) → (∀ p, ¬ (199 ≤ p ∧ p < 211) → ¬ (212 ≤ p ∧ p < 224) → I p = I0 p) → (∀ p, ¬ (225 ≤ p ∧ p < 237) → J p = J0 p) → (∀ f, f < i → ∀ j, j < 200 → I (199 + f) j = I0 (148 + f) j ∧ I (212 + f) j = I0 (174 + f) j ∧ J (225 + f) j = J0 (161 + f) j) → gG l Γ gm_X10_image (d, 0, 0, 0, 0) 32 [(1, .int (iv (i : Int))), (0, .ref (gad (gSS ad) 145))] [] (gSS ad, I, J) (gDi (fun e μ => ∃ I' J', μ = (gSS ad, I', J') ∧ (∀ f, f < 12 → ∀ j, j < 200 → I' (199 + f) j = I0 (148 + f) j ∧ I' (212 + f) j = I0 (174 + f) j ∧ J' (225 + f) j = J0 (161 + f) j) ∧ (∀ p, ¬ (199 ≤ p ∧ p < 211) → ¬ (212 ≤ p ∧ p < 224) → p ≠ 145 → I' p = I0 p) ∧ (∀ p, ¬ (225 ≤ p ∧ p < 237) → J' p = J0 p) ∧ I' 145 27 = 1 ∧ (∀ q, q ≠ 27 → I' 145 q = I0 145 q) ∧ e = (gNE nf 12 : Int))) := by
  intro m
  induction m with
  | zero => intros; omega
  | succ m ih =>
    intro i I J hm hi hI hJ hD
    refine gg_iload_n dX10_image_32 0 rfl ?_
    refine gg_bipush dX10_image_33 (by decide) ?_
    refine gg_icmp_ge (tgt := 104) dX10_image_35 (by decide) (by omega) (fun hx => ?_) (fun hx => ?_)
    · have he : i = 12 := by omega
      subst he
      refine gg_aload_n dX10_image_104 1 rfl ?_
      refine gg_iconst dX10_image_105 ?_
      refine gg_putI rfl gf_RX10_363 dX10_image_106 sh_145 pl_145 (by decide) (by decide) (by decide) gfit_1 ?_
      refine gg_aload_n dX10_image_109 1 rfl ?_
      refine gg_callVi (own := RX10) (yt := gm_X10_notEmpty) rfl gl_RX10_366 gk_X10_notEmpty gr_X10_notEmpty dX10_image_110 (c_X10_notEmpty (d := d - 1) (nf := nf) (fun f hf => by rw [gu_other (show 146 ≠ 145 by omega), hI 146 (by omega) (by omega)]; exact hnf f hf)) sh_145 pl_145 (by decide) rfl rfl rfl (Nat.le_of_ble_eq_true rfl) (by show _ ≤ d; omega) ⟨Nat.le_refl _, Nat.le_refl _⟩ (fun e1 μ' hc => ?_)
      obtain ⟨rfl, rfl⟩ := hc
      refine gg_ireti dX10_image_113 rfl ⟨rfl, rfl⟩ ?_
      refine ⟨_, _, rfl, fun f hf j hj => ?_, fun p h1 h2 h3 => ?_, hJ, gu_s, fun q hq => ?_, rfl⟩
      · rw [gu_other (by omega), gu_other (by omega)]
        exact hD f hf j hj
      · rw [gu_other h3]
        exact hI p h1 h2
      · rw [gu_n (by omega), hI 145 (by omega) (by omega)]
    · have hi2 : i < 12 := by omega
      refine gg_aload_n dX10_image_38 1 rfl ?_
      refine gg_getR (k' := 147) rfl gf_RX10_15 dX10_image_39 sh_145 pl_145 (by decide) (by decide) rr_145_1 ?_
      refine gg_iload_n dX10_image_42 0 rfl ?_
      refine gg_aaldj (t := 6) i (k' := (148 + i)) dX10_image_43 sh_147 (by decide) pl_147 (by decide) rfl hi2 (rr_147 hi2) ?_
      refine gg_iconst dX10_image_44 ?_
      refine gg_aload_n dX10_image_45 1 rfl ?_
      refine gg_getR (k' := 198) rfl gf_RX10_63 dX10_image_46 sh_145 pl_145 (by decide) (by decide) rr_145_30 ?_
      refine gg_iload_n dX10_image_49 0 rfl ?_
      refine gg_aaldj (t := 6) i (k' := (199 + i)) dX10_image_50 sh_198 (by decide) pl_198 (by decide) rfl hi2 (rr_198 hi2) ?_
      refine gg_iconst dX10_image_51 ?_
      refine gg_sipush dX10_image_52 (by decide) ?_
      refine gg_copyi rfl gl_RX10_357 dX10_image_55 (rs_147 hi2) (rl_147 hi2) (rs_198 hi2) (rl_198 hi2) (by omega) (by decide) (Nat.le_of_ble_eq_true rfl) (by omega) ⟨Nat.le_refl _, Nat.le_refl _⟩ ?_
      refine gg_aload_n dX10_image_58 1 rfl ?_
      refine gg_getR (k' := 173) rfl gf_RX10_23 dX10_image_59 sh_145 pl_145 (by decide) (by decide) rr_145_3 ?_
      refine gg_iload_n dX10_image_62 0 rfl ?_
      refine gg_aaldj (t := 6) i (k' := (174 + i)) dX10_image_63 sh_173 (by decide) pl_173 (by decide) rfl hi2 (rr_173 hi2) ?_
      refine gg_iconst dX10_image_64 ?_
      refine gg_aload_n dX10_image_65 1 rfl ?_
      refine gg_getR (k' := 211) rfl gf_RX10_66 dX10_image_66 sh_145 pl_145 (by decide) (by decide) rr_145_31 ?_
      refine gg_iload_n dX10_image_69 0 rfl ?_
      refine gg_aaldj (t := 6) i (k' := (212 + i)) dX10_image_70 sh_211 (by decide) pl_211 (by decide) rfl hi2 (rr_211 hi2) ?_
      refine gg_iconst dX10_image_71 ?_
      refine gg_sipush dX10_image_72 (by decide) ?_
      refine gg_copyi rfl gl_RX10_357 dX10_image_75 (rs_173 hi2) (rl_173 hi2) (rs_211 hi2) (rl_211 hi2) (by omega) (by decide) (Nat.le_of_ble_eq_true rfl) (by omega) ⟨Nat.le_refl _, Nat.le_refl _⟩ ?_
      refine gg_memI (fun I1 hI1 => ?_)
      refine gg_aload_n dX10_image_78 1 rfl ?_
      refine gg_getR (k' := 160) rfl gf_RX10_20 dX10_image_79 sh_145 pl_145 (by decide) (by decide) rr_145_2 ?_
      refine gg_iload_n dX10_image_82 0 rfl ?_
      refine gg_aaldj (t := 7) i (k' := (161 + i)) dX10_image_83 sh_160 (by decide) pl_160 (by decide) rfl hi2 (rr_160 hi2) ?_
      refine gg_iconst dX10_image_84 ?_
      refine gg_aload_n dX10_image_85 1 rfl ?_
      refine gg_getR (k' := 224) rfl gf_RX10_69 dX10_image_86 sh_145 pl_145 (by decide) (by decide) rr_145_32 ?_
      refine gg_iload_n dX10_image_89 0 rfl ?_
      refine gg_aaldj (t := 7) i (k' := (225 + i)) dX10_image_90 sh_224 (by decide) pl_224 (by decide) rfl hi2 (rr_224 hi2) ?_
      refine gg_iconst dX10_image_91 ?_
      refine gg_sipush dX10_image_92 (by decide) ?_
      refine gg_copyl rfl gl_RX10_357 dX10_image_95 (rs_160 hi2) (rl_160 hi2) (rs_224 hi2) (rl_224 hi2) (by omega) (by decide) (Nat.le_of_ble_eq_true rfl) (by omega) ⟨Nat.le_refl _, Nat.le_refl _⟩ ?_
      refine gg_memJ (fun J1 hJ1 => ?_)
      refine gg_iincv (ls' := [(1, .int (iv ((i + 1 : Nat) : Int))), (0, .ref (gad (gSS ad) 145))]) dX10_image_98 0 rfl (by omega) (by decide) rfl ?_
      refine gg_goto (tgt := 32) dX10_image_101 (by decide) ?_
      have hp : (0 : Int).toNat = 0 := rfl
      have hp2 : (200 : Int).toNat = 200 := rfl
      refine ih (i + 1) I1 J1 (by omega) (by omega) (fun p h1 h2 => ?_) (fun p h1 => ?_) (fun f hf j hj => ?_)
      · rw [hI1, gur_other (by omega), gur_other (by omega)]
        exact hI p h1 h2
      · rw [hJ1, gvr_other (by omega)]
        exact hJ p h1
      · rw [hI1, hJ1, hp, hp2]
        by_cases hfi : f = i
        · subst hfi
          rw [gur_other (show 199 + f ≠ 212 + f by omega), gur_self, gur_self, gvr_self, va_cpy0 hj, va_cpy0 hj, va_cpy0 hj]
          exact ⟨by rw [hI (148 + f) (by omega) (by omega)], by rw [gur_other (show 174 + f ≠ 199 + f by omega), hI (174 + f) (by omega) (by omega)], by rw [hJ (161 + f) (by omega)]⟩
        · rw [gur_other (show 199 + f ≠ 212 + i by omega), gur_other (show 199 + f ≠ 199 + i by omega), gur_other (show 212 + f ≠ 212 + i by omega), gur_other (show 212 + f ≠ 199 + i by omega), gvr_other (show 225 + f ≠ 225 + i by omega)]
          exact hD f (by omega) j hj

set_option maxRecDepth 10000 in
theorem c_X10_image {l : Launch} {Γ : gC} {ad : Nat → Nat} {I : Nat → Nat → Int} {J : Nat → Nat → Int64} {d : Nat} {nf : Nat → Nat} (hnf : ∀ f, f < 12 → I 146 f = (nf f : Int) ∧ nf f ≤ 200) (hd : 1 ≤ d) : gKi l Γ gm_X10_image d [.ref (gad (gSS ad) 145)] (gSS ad, I, J) (fun e μ => ∃ I' J', μ = (gSS ad, I', J') ∧ (∀ f, f < 12 → ∀ (n : Nat) (K : Nat → Nat) (N : Nat → Int64) (Z : Nat → Nat), gWf n K N Z → gMt I J f n K N Z → gMi I' J' f n K N Z) ∧ (∀ j, j < 8 → I' 197 j = I 186 j) ∧ (∀ p, ¬ (199 ≤ p ∧ p < 211) → ¬ (212 ≤ p ∧ p < 224) → p ≠ 145 → p ≠ 196 → p ≠ 197 → I' p = I p) ∧ (∀ p, ¬ (225 ≤ p ∧ p < 237) → J' p = J p) ∧ I' 145 27 = 1 ∧ (∀ q, q ≠ 27 → I' 145 q = I 145 q) ∧ e = (gNE nf 12 : Int)) := by
  refine gKi_of gk_X10_image.1 (Nat.le_of_ble_eq_true rfl) ?_
  show gG l Γ gm_X10_image (d, 0, 0, 0, 0) 0 [(0, .ref (gad (gSS ad) 145))] [] _ _
  refine gg_aload_n dX10_image_0 0 rfl ?_
  refine gg_getR (k' := 146) rfl gf_RX10_9 dX10_image_1 sh_145 pl_145 (by decide) (by decide) rr_145_0 ?_
  refine gg_iconst dX10_image_4 ?_
  refine gg_aload_n dX10_image_5 0 rfl ?_
  refine gg_getR (k' := 196) rfl gf_RX10_57 dX10_image_6 sh_145 pl_145 (by decide) (by decide) rr_145_28 ?_
  refine gg_iconst dX10_image_9 ?_
  refine gg_bipush dX10_image_10 (by decide) ?_
  refine gg_copyi rfl gl_RX10_357 dX10_image_12 sh_146 pl_146 sh_196 pl_196 (by omega) (by decide) (Nat.le_of_ble_eq_true rfl) (by omega) ⟨Nat.le_refl _, Nat.le_refl _⟩ ?_
  refine gg_aload_n dX10_image_15 0 rfl ?_
  refine gg_getR (k' := 186) rfl gf_RX10_26 dX10_image_16 sh_145 pl_145 (by decide) (by decide) rr_145_4 ?_
  refine gg_iconst dX10_image_19 ?_
  refine gg_aload_n dX10_image_20 0 rfl ?_
  refine gg_getR (k' := 197) rfl gf_RX10_60 dX10_image_21 sh_145 pl_145 (by decide) (by decide) rr_145_29 ?_
  refine gg_iconst dX10_image_24 ?_
  refine gg_bipush dX10_image_25 (by decide) ?_
  refine gg_copyi rfl gl_RX10_357 dX10_image_27 sh_186 pl_186 sh_197 pl_197 (by omega) (by decide) (Nat.le_of_ble_eq_true rfl) (by omega) ⟨Nat.le_refl _, Nat.le_refl _⟩ ?_
  refine gg_iconst dX10_image_30 ?_
  refine gg_istore_n (ls' := [(1, .int (iv 0)), (0, .ref (gad (gSS ad) 145))]) dX10_image_31 rfl (by decide) rfl ?_
  refine gg_sub [0, 1] rfl ?_
  refine gG_post (w_X10_image (nf := nf) (fun f hf => by rw [gur_other (by omega), gur_other (by omega)]; exact hnf f hf) hd 13 0 _ J (by omega) (by omega) (fun _ _ _ => rfl) (fun _ _ => rfl) (fun f hf => absurd hf (Nat.not_lt_zero _))) (fun r μ h => ?_)
  obtain ⟨e, rfl, I', J', rfl, h1, h2, h3, h4, h5, h6⟩ := h
  refine ⟨e, rfl, I', J', rfl, fun f hf n K N Z hW hM => ⟨?_, fun j hj => ?_⟩, fun j hj => ?_, fun p p1 p2 p3 p4 p5 => ?_, h3, ?_, fun q hq => ?_, h6⟩
  · rw [h2 196 (by omega) (by omega) (by omega), gur_other (by omega), gur_self, va_cpy0z (show f < (12 : Int).toNat from hf)]
    exact hM.1
  · have z := h1 f hf j (by have := hW.1; omega)
    have y := hM.2 j hj
    rw [z.1, z.2.1, z.2.2, gur_other (by omega), gur_other (by omega), gur_other (by omega), gur_other (by omega)]
    exact ⟨y.1, y.2.1, y.2.2⟩
  · rw [h2 197 (by omega) (by omega) (by omega), gur_self, va_cpy0z (show j < (8 : Int).toNat from hj), gur_other (by omega)]
  · rw [h2 p p1 p2 p3, gur_other p5, gur_other p4]
  · exact h4
  · rw [h5 q hq, gur_other (by omega), gur_other (by omega)]

set_option maxRecDepth 10000 in
theorem w_X10_back {l : Launch} {Γ : gC} {ad : Nat → Nat} {I0 : Nat → Nat → Int} {J0 : Nat → Nat → Int64} {d : Nat} {nf : Nat → Nat} (hnf : ∀ f, f < 12 → I0 146 f = (nf f : Int) ∧ nf f ≤ 200) (hd : 1 ≤ d) : ∀ (m : Nat) (i : Nat) (I : Nat → Nat → Int) (J : Nat → Nat → Int64), 12 - i < m → (i ≤ 12) → (∀ p, ¬ (148 ≤ p ∧ p < 160) → ¬ (174 ≤ p ∧ p < 186) → I p = I0 p) → (∀ p, ¬ (161 ≤ p ∧ p < 173) → J p = J0 p) → (∀ f, f < i → ∀ j, j < 200 → I (148 + f) j = I0 (199 + f) j ∧ I (174 + f) j = I0 (212 + f) j ∧ J (161 + f) j = J0 (225 + f) j) → gG l Γ gm_X10_back (d, 0, 0, 0, 0) 42 [(1, .int (iv (i : Int))), (0, .ref (gad (gSS ad) 145))] [] (gSS ad, I, J) (gDi (fun e μ => ∃ I' J', μ = (gSS ad, I', J') ∧ (∀ f, f < 12 → ∀ j, j < 200 → I' (148 + f) j = I0 (199 + f) j ∧ I' (174 + f) j = I0 (212 + f) j ∧ J' (161 + f) j = J0 (225 + f) j) ∧ (∀ p, ¬ (148 ≤ p ∧ p < 160) → ¬ (174 ≤ p ∧ p < 186) → p ≠ 145 → I' p = I0 p) ∧ (∀ p, ¬ (161 ≤ p ∧ p < 173) → J' p = J0 p) ∧ I' 145 27 = I0 145 27 ∧ (∀ q, q ≠ 27 → I' 145 q = I0 145 q) ∧ e = (gNE nf 12 : Int))) := by
  intro m
  induction m with
  | zero => intros; omega
  | succ m ih =>
    intro i I J hm hi hI hJ hD
    refine gg_iload_n dX10_back_42 0 rfl ?_
    refine gg_bipush dX10_back_43 (by decide) ?_
    refine gg_icmp_ge (tgt := 114) dX10_back_45 (by decide) (by omega) (fun hx => ?_) (fun hx => ?_)
    · have he : i = 12 := by omega
      subst he
      refine gg_aload_n dX10_back_114 1 rfl ?_
      refine gg_callVi (own := RX10) (yt := gm_X10_notEmpty) rfl gl_RX10_366 gk_X10_notEmpty gr_X10_notEmpty dX10_back_115 (c_X10_notEmpty (d := d - 1) (nf := nf) (fun f hf => by rw [hI 146 (by omega) (by omega)]; exact hnf f hf)) sh_145 pl_145 (by decide) rfl rfl rfl (Nat.le_of_ble_eq_true rfl) (by show _ ≤ d; omega) ⟨Nat.le_refl _, Nat.le_refl _⟩ (fun e1 μ' hc => ?_)
      obtain ⟨rfl, rfl⟩ := hc
      refine gg_ireti dX10_back_118 rfl ⟨rfl, rfl⟩ ?_
      exact ⟨_, _, rfl, hD, fun p h1 h2 h3 => hI p h1 h2, hJ, by rw [hI 145 (by omega) (by omega)], fun q hq => by rw [hI 145 (by omega) (by omega)], rfl⟩
    · have hi2 : i < 12 := by omega
      refine gg_aload_n dX10_back_48 1 rfl ?_
      refine gg_getR (k' := 198) rfl gf_RX10_63 dX10_back_49 sh_145 pl_145 (by decide) (by decide) rr_145_30 ?_
      refine gg_iload_n dX10_back_52 0 rfl ?_
      refine gg_aaldj (t := 6) i (k' := (199 + i)) dX10_back_53 sh_198 (by decide) pl_198 (by decide) rfl hi2 (rr_198 hi2) ?_
      refine gg_iconst dX10_back_54 ?_
      refine gg_aload_n dX10_back_55 1 rfl ?_
      refine gg_getR (k' := 147) rfl gf_RX10_15 dX10_back_56 sh_145 pl_145 (by decide) (by decide) rr_145_1 ?_
      refine gg_iload_n dX10_back_59 0 rfl ?_
      refine gg_aaldj (t := 6) i (k' := (148 + i)) dX10_back_60 sh_147 (by decide) pl_147 (by decide) rfl hi2 (rr_147 hi2) ?_
      refine gg_iconst dX10_back_61 ?_
      refine gg_sipush dX10_back_62 (by decide) ?_
      refine gg_copyi rfl gl_RX10_357 dX10_back_65 (rs_198 hi2) (rl_198 hi2) (rs_147 hi2) (rl_147 hi2) (by omega) (by decide) (Nat.le_of_ble_eq_true rfl) (by omega) ⟨Nat.le_refl _, Nat.le_refl _⟩ ?_
      refine gg_aload_n dX10_back_68 1 rfl ?_
      refine gg_getR (k' := 211) rfl gf_RX10_66 dX10_back_69 sh_145 pl_145 (by decide) (by decide) rr_145_31 ?_
      refine gg_iload_n dX10_back_72 0 rfl ?_
      refine gg_aaldj (t := 6) i (k' := (212 + i)) dX10_back_73 sh_211 (by decide) pl_211 (by decide) rfl hi2 (rr_211 hi2) ?_
      refine gg_iconst dX10_back_74 ?_
      refine gg_aload_n dX10_back_75 1 rfl ?_
      refine gg_getR (k' := 173) rfl gf_RX10_23 dX10_back_76 sh_145 pl_145 (by decide) (by decide) rr_145_3 ?_
      refine gg_iload_n dX10_back_79 0 rfl ?_
      refine gg_aaldj (t := 6) i (k' := (174 + i)) dX10_back_80 sh_173 (by decide) pl_173 (by decide) rfl hi2 (rr_173 hi2) ?_
      refine gg_iconst dX10_back_81 ?_
      refine gg_sipush dX10_back_82 (by decide) ?_
      refine gg_copyi rfl gl_RX10_357 dX10_back_85 (rs_211 hi2) (rl_211 hi2) (rs_173 hi2) (rl_173 hi2) (by omega) (by decide) (Nat.le_of_ble_eq_true rfl) (by omega) ⟨Nat.le_refl _, Nat.le_refl _⟩ ?_
      refine gg_memI (fun I1 hI1 => ?_)
      refine gg_aload_n dX10_back_88 1 rfl ?_
      refine gg_getR (k' := 224) rfl gf_RX10_69 dX10_back_89 sh_145 pl_145 (by decide) (by decide) rr_145_32 ?_
      refine gg_iload_n dX10_back_92 0 rfl ?_
      refine gg_aaldj (t := 7) i (k' := (225 + i)) dX10_back_93 sh_224 (by decide) pl_224 (by decide) rfl hi2 (rr_224 hi2) ?_
      refine gg_iconst dX10_back_94 ?_
      refine gg_aload_n dX10_back_95 1 rfl ?_
      refine gg_getR (k' := 160) rfl gf_RX10_20 dX10_back_96 sh_145 pl_145 (by decide) (by decide) rr_145_2 ?_
      refine gg_iload_n dX10_back_99 0 rfl ?_
      refine gg_aaldj (t := 7) i (k' := (161 + i)) dX10_back_100 sh_160 (by decide) pl_160 (by decide) rfl hi2 (rr_160 hi2) ?_
      refine gg_iconst dX10_back_101 ?_
      refine gg_sipush dX10_back_102 (by decide) ?_
      refine gg_copyl rfl gl_RX10_357 dX10_back_105 (rs_224 hi2) (rl_224 hi2) (rs_160 hi2) (rl_160 hi2) (by omega) (by decide) (Nat.le_of_ble_eq_true rfl) (by omega) ⟨Nat.le_refl _, Nat.le_refl _⟩ ?_
      refine gg_memJ (fun J1 hJ1 => ?_)
      refine gg_iincv (ls' := [(1, .int (iv ((i + 1 : Nat) : Int))), (0, .ref (gad (gSS ad) 145))]) dX10_back_108 0 rfl (by omega) (by decide) rfl ?_
      refine gg_goto (tgt := 42) dX10_back_111 (by decide) ?_
      have hp : (0 : Int).toNat = 0 := rfl
      have hp2 : (200 : Int).toNat = 200 := rfl
      refine ih (i + 1) I1 J1 (by omega) (by omega) (fun p h1 h2 => ?_) (fun p h1 => ?_) (fun f hf j hj => ?_)
      · rw [hI1, gur_other (by omega), gur_other (by omega)]
        exact hI p h1 h2
      · rw [hJ1, gvr_other (by omega)]
        exact hJ p h1
      · rw [hI1, hJ1, hp, hp2]
        by_cases hfi : f = i
        · subst hfi
          rw [gur_other (show 148 + f ≠ 174 + f by omega), gur_self, gur_self, gvr_self, va_cpy0 hj, va_cpy0 hj, va_cpy0 hj]
          exact ⟨by rw [hI (199 + f) (by omega) (by omega)], by rw [gur_other (show 212 + f ≠ 148 + f by omega), hI (212 + f) (by omega) (by omega)], by rw [hJ (225 + f) (by omega)]⟩
        · rw [gur_other (show 148 + f ≠ 174 + i by omega), gur_other (show 148 + f ≠ 148 + i by omega), gur_other (show 174 + f ≠ 174 + i by omega), gur_other (show 174 + f ≠ 148 + i by omega), gvr_other (show 161 + f ≠ 161 + i by omega)]
          exact hD f (by omega) j hj

set_option maxRecDepth 10000 in
theorem c_X10_back {l : Launch} {Γ : gC} {ad : Nat → Nat} {I : Nat → Nat → Int} {J : Nat → Nat → Int64} {d : Nat} {nf : Nat → Nat} (hnf : ∀ f, f < 12 → I 196 f = (nf f : Int) ∧ nf f ≤ 200) (hk : I 145 27 = 1) (hd : 1 ≤ d) : gKi l Γ gm_X10_back d [.ref (gad (gSS ad) 145)] (gSS ad, I, J) (fun e μ => ∃ I' J', μ = (gSS ad, I', J') ∧ (∀ f, f < 12 → ∀ (n : Nat) (K : Nat → Nat) (N : Nat → Int64) (Z : Nat → Nat), gWf n K N Z → gMi I J f n K N Z → gMt I' J' f n K N Z) ∧ (∀ j, j < 8 → I' 186 j = I 197 j) ∧ (∀ p, ¬ (148 ≤ p ∧ p < 160) → ¬ (174 ≤ p ∧ p < 186) → p ≠ 145 → p ≠ 146 → p ≠ 186 → I' p = I p) ∧ (∀ p, ¬ (161 ≤ p ∧ p < 173) → J' p = J p) ∧ I' 145 27 = 1 ∧ (∀ q, q ≠ 27 → I' 145 q = I 145 q) ∧ e = (gNE nf 12 : Int)) := by
  refine gKi_of gk_X10_back.1 (Nat.le_of_ble_eq_true rfl) ?_
  show gG l Γ gm_X10_back (d, 0, 0, 0, 0) 0 [(0, .ref (gad (gSS ad) 145))] [] _ _
  refine gg_aload_n dX10_back_0 0 rfl ?_
  refine gg_getI rfl gf_RX10_363 dX10_back_1 sh_145 pl_145 (by decide) (by decide) ?_
  refine gg_toI (b := 1) hk ?_
  refine gg_if_ne_t (tgt := 10) dX10_back_4 (by decide) (by decide) (by decide) ?_
  refine gg_aload_n dX10_back_10 0 rfl ?_
  refine gg_getR (k' := 196) rfl gf_RX10_57 dX10_back_11 sh_145 pl_145 (by decide) (by decide) rr_145_28 ?_
  refine gg_iconst dX10_back_14 ?_
  refine gg_aload_n dX10_back_15 0 rfl ?_
  refine gg_getR (k' := 146) rfl gf_RX10_9 dX10_back_16 sh_145 pl_145 (by decide) (by decide) rr_145_0 ?_
  refine gg_iconst dX10_back_19 ?_
  refine gg_bipush dX10_back_20 (by decide) ?_
  refine gg_copyi rfl gl_RX10_357 dX10_back_22 sh_196 pl_196 sh_146 pl_146 (by omega) (by decide) (Nat.le_of_ble_eq_true rfl) (by omega) ⟨Nat.le_refl _, Nat.le_refl _⟩ ?_
  refine gg_aload_n dX10_back_25 0 rfl ?_
  refine gg_getR (k' := 197) rfl gf_RX10_60 dX10_back_26 sh_145 pl_145 (by decide) (by decide) rr_145_29 ?_
  refine gg_iconst dX10_back_29 ?_
  refine gg_aload_n dX10_back_30 0 rfl ?_
  refine gg_getR (k' := 186) rfl gf_RX10_26 dX10_back_31 sh_145 pl_145 (by decide) (by decide) rr_145_4 ?_
  refine gg_iconst dX10_back_34 ?_
  refine gg_bipush dX10_back_35 (by decide) ?_
  refine gg_copyi rfl gl_RX10_357 dX10_back_37 sh_197 pl_197 sh_186 pl_186 (by omega) (by decide) (Nat.le_of_ble_eq_true rfl) (by omega) ⟨Nat.le_refl _, Nat.le_refl _⟩ ?_
  refine gg_iconst dX10_back_40 ?_
  refine gg_istore_n (ls' := [(1, .int (iv 0)), (0, .ref (gad (gSS ad) 145))]) dX10_back_41 rfl (by decide) rfl ?_
  refine gg_sub [0, 1] rfl ?_
  refine gG_post (w_X10_back (nf := nf) (fun f hf => by rw [gur_other (by omega), gur_self, va_cpy0z (show f < (12 : Int).toNat from hf)]; exact hnf f hf) hd 13 0 _ J (by omega) (by omega) (fun _ _ _ => rfl) (fun _ _ => rfl) (fun f hf => absurd hf (Nat.not_lt_zero _))) (fun r μ h => ?_)
  obtain ⟨e, rfl, I', J', rfl, h1, h2, h3, h4, h5, h6⟩ := h
  refine ⟨e, rfl, I', J', rfl, fun f hf n K N Z hW hM => ⟨?_, fun j hj => ?_⟩, fun j hj => ?_, fun p p1 p2 p3 p4 p5 => ?_, h3, ?_, fun q hq => ?_, h6⟩
  · rw [h2 146 (by omega) (by omega) (by omega), gur_other (by omega), gur_self, va_cpy0z (show f < (12 : Int).toNat from hf)]
    exact hM.1
  · have z := h1 f hf j (by have := hW.1; omega)
    have y := hM.2 j hj
    rw [z.1, z.2.1, z.2.2, gur_other (by omega), gur_other (by omega), gur_other (by omega), gur_other (by omega)]
    exact ⟨y.1, y.2.1, y.2.2⟩
  · rw [h2 186 (by omega) (by omega) (by omega), gur_self, va_cpy0z (show j < (8 : Int).toNat from hj), gur_other (by omega)]
  · rw [h2 p p1 p2 p3, gur_other p5, gur_other p4]
  · rw [h4, gur_other (by omega), gur_other (by omega)]
    exact hk
  · rw [h5 q hq, gur_other (by omega), gur_other (by omega)]

set_option maxRecDepth 10000 in
theorem c_X10_back_0 {l : Launch} {Γ : gC} {ad : Nat → Nat} {I : Nat → Nat → Int} {J : Nat → Nat → Int64} {d : Nat} (hk : I 145 27 = 0) (hd : 1 ≤ d) : gKi l Γ gm_X10_back d [.ref (gad (gSS ad) 145)] (gSS ad, I, J) (fun e μ => μ = (gSS ad, I, J) ∧ e = -3) := by
  refine gKi_of gk_X10_back.1 (Nat.le_of_ble_eq_true rfl) ?_
  show gG l Γ gm_X10_back (d, 0, 0, 0, 0) 0 [(0, .ref (gad (gSS ad) 145))] [] _ _
  refine gg_aload_n dX10_back_0 0 rfl ?_
  refine gg_getI rfl gf_RX10_363 dX10_back_1 sh_145 pl_145 (by decide) (by decide) ?_
  refine gg_toI (b := 0) hk ?_
  refine gg_if_ne_f (tgt := 10) dX10_back_4 (by decide) (by decide) (by decide) ?_
  refine gg_bipush dX10_back_7 (by decide) ?_
  refine gg_ireti dX10_back_9 rfl ⟨rfl, rfl⟩ ?_
  exact ⟨rfl, rfl⟩

