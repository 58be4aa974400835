/-! the reference's text -/
theorem r_X10_one {l : Launch} {Γ : gC} {ad : Nat → Nat} {T : Nat → Int} {n : Nat} : ∀ (u : Nat) (op : Int) (d : Nat), op + u = 5 → 0 ≤ op → 8 * u + 12 ≤ d → gCm l Γ ad gm_X10_one d op T n (gOn T n u) := by
  intro u
  induction u with
  | zero =>
    intro op d hop h0 hd I J B q hT hR hM h15 hq hl
    show gKv l Γ gm_X10_one d _ _ (fun μ => ∃ I1 J1, μ = (gSS ad, I1, J1) ∧ gKm I J I1 J1 ∧ gQs I1 J1 B op T n (gLf T n q))
    unfold gLf
    by_cases h3 : gtC T n q = 3
    · rw [if_pos h3]
      exact c_X10_one_3 (by omega) hT hR hM h15 hq hl h3
    · rw [if_neg h3]
      by_cases h2 : gtC T n q = 2
      · rw [if_pos h2]
        exact c_X10_one_2 (by omega) hT hR hM h15 hq hl h2
      · rw [if_neg h2]
        by_cases h1 : gtC T n q = 1
        · exact c_X10_one_wx (by omega) hT hR hM h15 hq hl h1
        · by_cases h40 : gtC T n q = 40
          · exact c_X10_one_40x (by omega) hT hR hM h15 hq hl h40 (by omega)
          · by_cases h45 : gtC T n q = 45
            · exact c_X10_one_45x (by omega) hT hR hM h15 hq hl h45 (by omega)
            · by_cases h91 : gtC T n q = 91
              · exact c_X10_one_91x (by omega) hT hR hM h15 hq hl h91 (by omega)
              · exact c_X10_one_o (by omega) hT hR hM h15 hq hl h1 h2 h3 h40 h45 h91
  | succ u ih =>
    intro op d hop h0 hd I J B q hT hR hM h15 hq hl
    have hbo := gBnd_on T n u
    have hch : gCm l Γ ad gm_X10_choice (d - 1) (op + 1) T n (gChF T n (gSm T n (gOn T n u))) :=
      c_X10_choice (by omega) (gBnd_sm hbo) (c_X10_sum (by omega) hbo (c_X10_term (by omega) hbo (c_X10_pow (by omega) hbo (ih (op + 1) _ (by omega) (by omega) (by omega)))))
    show gKv l Γ gm_X10_one d _ _ (fun μ => ∃ I1 J1, μ = (gSS ad, I1, J1) ∧ gKm I J I1 J1 ∧ gQs I1 J1 B op T n (if gtC T n q = 45 then gNe T n (gOn T n u) q else if gtC T n q = 40 then gEn T n (gOn T n u) 41 q else if gtC T n q = 91 then gSqr T n (gOn T n u) q else gLf T n q))
    by_cases h45 : gtC T n q = 45
    · rw [if_pos h45]
      exact c_X10_one_45 (by omega) hT hR hM h15 hq hl h45 (by omega) (ih (op + 1) (d - 1) (by omega) (by omega) (by omega))
    · rw [if_neg h45]
      by_cases h40 : gtC T n q = 40
      · rw [if_pos h40]
        exact c_X10_one_40 (by omega) hT hR hM h15 hq hl h40 (by omega) (gBnd_ch (gBnd_sm hbo)) hch
      · rw [if_neg h40]
        by_cases h91 : gtC T n q = 91
        · rw [if_pos h91]
          exact c_X10_one_91 (by omega) hT hR hM h15 hq hl h91 (by omega) (gBnd_ch (gBnd_sm hbo)) hch
        · rw [if_neg h91]
          unfold gLf
          by_cases h3 : gtC T n q = 3
          · rw [if_pos h3]
            exact c_X10_one_3 (by omega) hT hR hM h15 hq hl h3
          · rw [if_neg h3]
            by_cases h2 : gtC T n q = 2
            · rw [if_pos h2]
              exact c_X10_one_2 (by omega) hT hR hM h15 hq hl h2
            · rw [if_neg h2]
              by_cases h1 : gtC T n q = 1
              · exact c_X10_one_wx (by omega) hT hR hM h15 hq hl h1
              · exact c_X10_one_o (by omega) hT hR hM h15 hq hl h1 h2 h3 h40 h45 h91
theorem giv_any (a : Int) : ∃ z, iv a = iv z ∧ -2147483648 ≤ z ∧ z ≤ 2147483647 := by
  have h1 := Int32.le_toInt (iv a)
  have h2 := Int32.toInt_lt (iv a)
  exact ⟨(iv a).toInt, (iv_of _).symm, by omega, by omega⟩
theorem gg_toIv {l : Launch} {Γ : gC} {mt : gY} {B : gB} {pc : Nat} {ls : List (Nat × Value)} {st : List Value} {μ : gM} {Q : Option Value → gM → Prop} {a b : Int} (h : iv a = iv b) (kk : gG l Γ mt B pc ls (.int (iv b) :: st) μ Q) : gG l Γ mt B pc ls (.int (iv a) :: st) μ Q := by
  rw [h]
  exact kk
theorem gMd_u {I : Nat → Nat → Int} {J : Nat → Nat → Int64} {B : gLn} {q : Nat} {x : Int} (h : gMd I J B) (h5 : q ≠ 5) (h6 : q ≠ 6) : gMd (gu I 145 q x) J B := ⟨(gu_n (by omega)).trans h.1, h.2.1, (gu_n (by omega)).trans h.2.2.1, gMe_I h.2.2.2 (gu_other (by omega))⟩
set_option maxRecDepth 10000 in
set_option maxRecDepth 10000 in
theorem a_X10_text {l : Launch} {Γ : gC} {ad : Nat → Nat} {I : Nat → Nat → Int} {J : Nat → Nat → Int64} {d : Nat} {f : Nat} {p : Nat} (h16 : I 145 16 = 1) (h12 : I 145 12 = (p : Int)) : gG l Γ gm_X10_text (d, 0, 0, 0, 0) 37 [(0, .ref (gad (gSS ad) 145)), (1, .int (iv (f : Int)))] [] (gSS ad, I, J) (gDi (fun e μ => μ = (gSS ad, gu (gu I 145 16 1) 145 10 0, J) ∧ e = -100 - (p : Int))) := by
  refine gg_aload_n dX10_text_37 0 rfl ?_
  refine gg_dup dX10_text_38 rfl ?_
  refine gg_getI rfl gf_RX10_120 dX10_text_39 sh_145 pl_145 (by decide) (by decide) ?_
  refine gg_toI (b := 1) h16 ?_
  refine gg_aload_n dX10_text_42 0 rfl ?_
  refine gg_getI rfl gf_RX10_132 dX10_text_43 sh_145 pl_145 (by decide) (by decide) ?_
  obtain ⟨z, hz, hzr⟩ := giv_any (I 145 13)
  refine gg_toIv hz ?_
  refine gg_if_eq (tgt := 53) dX10_text_46 (by decide) (by omega) (fun hb => ?_) (fun hb => ?_)
  · refine gg_iconst dX10_text_53 ?_
    refine gg_ior dX10_text_54 ?_
    refine gg_toI (b := 1) (by decide) ?_
    refine gg_putI rfl gf_RX10_120 dX10_text_55 sh_145 pl_145 (by decide) (by decide) (by decide) gfit_1 ?_
    refine gg_aload_n dX10_text_58 0 rfl ?_
    refine gg_iconst dX10_text_59 ?_
    refine gg_putI rfl gf_RX10_117 dX10_text_60 sh_145 pl_145 (by decide) (by decide) (by decide) (gfit_i _) ?_
    refine gg_aload_n dX10_text_63 0 rfl ?_
    refine gg_getI rfl gf_RX10_120 dX10_text_64 sh_145 pl_145 (by decide) (by decide) ?_
    refine gg_toI (b := 1) ((gu_n (by omega)).trans gu_s) ?_
    refine gg_if_eq_f (tgt := 80) dX10_text_67 (by decide) (by decide) (by decide) ?_
    refine gg_bipush dX10_text_70 (by decide) ?_
    refine gg_aload_n dX10_text_72 0 rfl ?_
    refine gg_getI rfl gf_RX10_129 dX10_text_73 sh_145 pl_145 (by decide) (by decide) ?_
    refine gg_toI (b := (p : Int)) ((gu_n (by omega)).trans ((gu_n (by omega)).trans h12)) ?_
    refine gg_isub dX10_text_76 ?_
    refine gg_goto (tgt := 85) dX10_text_77 (by decide) ?_
    refine gg_ireti dX10_text_85 rfl ⟨rfl, rfl⟩ ?_
    exact ⟨rfl, rfl⟩
  · refine gg_iconst dX10_text_49 ?_
    refine gg_goto (tgt := 54) dX10_text_50 (by decide) ?_
    refine gg_ior dX10_text_54 ?_
    refine gg_toI (b := 1) (by decide) ?_
    refine gg_putI rfl gf_RX10_120 dX10_text_55 sh_145 pl_145 (by decide) (by decide) (by decide) gfit_1 ?_
    refine gg_aload_n dX10_text_58 0 rfl ?_
    refine gg_iconst dX10_text_59 ?_
    refine gg_putI rfl gf_RX10_117 dX10_text_60 sh_145 pl_145 (by decide) (by decide) (by decide) (gfit_i _) ?_
    refine gg_aload_n dX10_text_63 0 rfl ?_
    refine gg_getI rfl gf_RX10_120 dX10_text_64 sh_145 pl_145 (by decide) (by decide) ?_
    refine gg_toI (b := 1) ((gu_n (by omega)).trans gu_s) ?_
    refine gg_if_eq_f (tgt := 80) dX10_text_67 (by decide) (by decide) (by decide) ?_
    refine gg_bipush dX10_text_70 (by decide) ?_
    refine gg_aload_n dX10_text_72 0 rfl ?_
    refine gg_getI rfl gf_RX10_129 dX10_text_73 sh_145 pl_145 (by decide) (by decide) ?_
    refine gg_toI (b := (p : Int)) ((gu_n (by omega)).trans ((gu_n (by omega)).trans h12)) ?_
    refine gg_isub dX10_text_76 ?_
    refine gg_goto (tgt := 85) dX10_text_77 (by decide) ?_
    refine gg_ireti dX10_text_85 rfl ⟨rfl, rfl⟩ ?_
    exact ⟨rfl, rfl⟩

set_option maxRecDepth 10000 in
set_option maxRecDepth 10000 in
theorem b_X10_text {l : Launch} {Γ : gC} {ad : Nat → Nat} {I : Nat → Nat → Int} {J : Nat → Nat → Int64} {d : Nat} {f : Nat} {p : Nat} {y : Int} (h16 : I 145 16 = 0) (h13 : I 145 13 = y) (hy : 1 ≤ y ∧ y ≤ 3) (h12 : I 145 12 = (p : Int)) : gG l Γ gm_X10_text (d, 0, 0, 0, 0) 37 [(0, .ref (gad (gSS ad) 145)), (1, .int (iv (f : Int)))] [] (gSS ad, I, J) (gDi (fun e μ => μ = (gSS ad, gu (gu I 145 16 1) 145 10 0, J) ∧ e = -100 - (p : Int))) := by
  refine gg_aload_n dX10_text_37 0 rfl ?_
  refine gg_dup dX10_text_38 rfl ?_
  refine gg_getI rfl gf_RX10_120 dX10_text_39 sh_145 pl_145 (by decide) (by decide) ?_
  refine gg_toI (b := 0) h16 ?_
  refine gg_aload_n dX10_text_42 0 rfl ?_
  refine gg_getI rfl gf_RX10_132 dX10_text_43 sh_145 pl_145 (by decide) (by decide) ?_
  refine gg_toI (b := y) h13 ?_
  refine gg_if_eq_f (tgt := 53) dX10_text_46 (by decide) (by omega) (by omega) ?_
  refine gg_iconst dX10_text_49 ?_
  refine gg_goto (tgt := 54) dX10_text_50 (by decide) ?_
  refine gg_ior dX10_text_54 ?_
  refine gg_toI (b := 1) (by decide) ?_
  refine gg_putI rfl gf_RX10_120 dX10_text_55 sh_145 pl_145 (by decide) (by decide) (by decide) gfit_1 ?_
  refine gg_aload_n dX10_text_58 0 rfl ?_
  refine gg_iconst dX10_text_59 ?_
  refine gg_putI rfl gf_RX10_117 dX10_text_60 sh_145 pl_145 (by decide) (by decide) (by decide) (gfit_i _) ?_
  refine gg_aload_n dX10_text_63 0 rfl ?_
  refine gg_getI rfl gf_RX10_120 dX10_text_64 sh_145 pl_145 (by decide) (by decide) ?_
  refine gg_toI (b := 1) ((gu_n (by omega)).trans gu_s) ?_
  refine gg_if_eq_f (tgt := 80) dX10_text_67 (by decide) (by decide) (by decide) ?_
  refine gg_bipush dX10_text_70 (by decide) ?_
  refine gg_aload_n dX10_text_72 0 rfl ?_
  refine gg_getI rfl gf_RX10_129 dX10_text_73 sh_145 pl_145 (by decide) (by decide) ?_
  refine gg_toI (b := (p : Int)) ((gu_n (by omega)).trans ((gu_n (by omega)).trans h12)) ?_
  refine gg_isub dX10_text_76 ?_
  refine gg_goto (tgt := 85) dX10_text_77 (by decide) ?_
  refine gg_ireti dX10_text_85 rfl ⟨rfl, rfl⟩ ?_
  exact ⟨rfl, rfl⟩

set_option maxRecDepth 10000 in
set_option maxRecDepth 10000 in
theorem d_X10_text {l : Launch} {Γ : gC} {ad : Nat → Nat} {I : Nat → Nat → Int} {J : Nat → Nat → Int64} {d : Nat} {f : Nat} {tl : gLn} (hf : f < 12) (hd : 3 ≤ d) (h16 : I 145 16 = 0) (h13 : I 145 13 = 0) (hM : gMd I J tl) (hfo : gFo tl 1) (hnv : gNvs tl) : gG l Γ gm_X10_text (d, 0, 0, 0, 0) 37 [(0, .ref (gad (gSS ad) 145)), (1, .int (iv (f : Int)))] [] (gSS ad, I, J) (gDi (fun e μ => ∃ I1 J1, μ = (gSS ad, I1, J1) ∧ gMt I1 J1 f tl.length (gRk tl) (gRn tl) (gZl tl) ∧ (∀ p, p ≠ 145 → p ≠ 146 → p ≠ 148 + f → p ≠ 174 + f → I1 p = I p) ∧ (∀ q, q ≠ f → I1 146 q = I 146 q) ∧ (∀ k, k ≠ 10 → k ≠ 16 → I1 145 k = I 145 k) ∧ I1 145 10 = 0 ∧ (∀ p, p ≠ 161 + f → J1 p = J p) ∧ e = (tl.length : Int))) := by
  refine gg_aload_n dX10_text_37 0 rfl ?_
  refine gg_dup dX10_text_38 rfl ?_
  refine gg_getI rfl gf_RX10_120 dX10_text_39 sh_145 pl_145 (by decide) (by decide) ?_
  refine gg_toI (b := 0) h16 ?_
  refine gg_aload_n dX10_text_42 0 rfl ?_
  refine gg_getI rfl gf_RX10_132 dX10_text_43 sh_145 pl_145 (by decide) (by decide) ?_
  refine gg_toI (b := 0) h13 ?_
  refine gg_if_eq_t (tgt := 53) dX10_text_46 (by decide) (by decide) (by decide) ?_
  refine gg_iconst dX10_text_53 ?_
  refine gg_ior dX10_text_54 ?_
  refine gg_toI (b := 0) (by decide) ?_
  refine gg_putI rfl gf_RX10_120 dX10_text_55 sh_145 pl_145 (by decide) (by decide) (by decide) gfit_0 ?_
  refine gg_aload_n dX10_text_58 0 rfl ?_
  refine gg_iconst dX10_text_59 ?_
  refine gg_putI rfl gf_RX10_117 dX10_text_60 sh_145 pl_145 (by decide) (by decide) (by decide) (gfit_i _) ?_
  refine gg_aload_n dX10_text_63 0 rfl ?_
  refine gg_getI rfl gf_RX10_120 dX10_text_64 sh_145 pl_145 (by decide) (by decide) ?_
  refine gg_toI (b := 0) ((gu_n (by omega)).trans gu_s) ?_
  refine gg_if_eq_t (tgt := 80) dX10_text_67 (by decide) (by decide) (by decide) ?_
  refine gg_aload_n dX10_text_80 0 rfl ?_
  refine gg_iload_n dX10_text_81 1 rfl ?_
  refine gg_callVi (own := RX10) (yt := gm_X10_handOver) rfl gl_RX10_186 gk_X10_handOver gr_X10_handOver dX10_text_82 (c_X10_handOver (d := d - 1) hf (gMd_u (gMd_u hM (by omega) (by omega)) (by omega) (by omega)) hfo hnv (by omega)) sh_145 pl_145 (by decide) rfl rfl rfl (Nat.le_of_ble_eq_true rfl) (by show _ ≤ d; omega) ⟨Nat.le_refl _, Nat.le_refl _⟩ (fun e1 μ' hc => ?_)
  obtain ⟨I3, J3, rfl, hMt, f1, f2, f3, rfl⟩ := hc
  refine gg_ireti dX10_text_85 rfl ⟨rfl, rfl⟩ ?_
  exact ⟨I3, J3, rfl, hMt, fun p a b c e => (f1 p b c e).trans ((gu_other a).trans (gu_other a)), fun q hq => (f2 q hq).trans (by rw [gu_other (by omega), gu_other (by omega)]), fun k a b => by rw [f1 145 (by omega) (by omega) (by omega), gu_n (by omega), gu_n (by omega)], by rw [f1 145 (by omega) (by omega) (by omega)]; exact gu_s, f3, rfl⟩

