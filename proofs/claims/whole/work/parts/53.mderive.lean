set_option maxRecDepth 10000 in
theorem c_X10_deriveProduct {l : Launch} {Γ : gC} {ad : Nat → Nat} {f n : Nat} {K : Nat → Nat} {N : Nat → Int64} {Z : Nat → Nat} {fi se d : Nat} {nm : Int} (hf : f < 12) (hW : gWf n K N Z) (hfi : fi < n) (hse : se < n) (hd : 3 ≤ d) (H1 : gMdo l Γ ad gm_X10_derive (d - 1) [.ref (gad (gSS ad) 145), .int (iv (f : Int)), .int (iv (fi : Int)), .int (iv nm)] f n K N Z ((gDv0 n nm K N Z) fi)) (H2 : gMdo l Γ ad gm_X10_derive (d - 1) [.ref (gad (gSS ad) 145), .int (iv (f : Int)), .int (iv (se : Int)), .int (iv nm)] f n K N Z ((gDv0 n nm K N Z) se)) : gMdo l Γ ad gm_X10_deriveProduct d [.ref (gad (gSS ad) 145), .int (iv (f : Int)), .int (iv (fi : Int)), .int (iv (se : Int)), .int (iv nm)] f n K N Z (gdP ((gSt1 K N Z) fi) ((gDv0 n nm K N Z) fi) ((gSt1 K N Z) se) ((gDv0 n nm K N Z) se)) := by
  intro I J B hM hx
  refine gKv_of gk_X10_deriveProduct.1 (Nat.le_of_ble_eq_true rfl) ?_
  show gG l Γ gm_X10_deriveProduct (d, 0, 0, 0, 0) 0 [(0, .ref (gad (gSS ad) 145)), (1, .int (iv (f : Int))), (2, .int (iv (fi : Int))), (3, .int (iv (se : Int))), (4, .int (iv nm))] [] _ _
  refine gg_aload_n dX10_deriveProduct_0 0 rfl ?_
  refine gg_iconst dX10_deriveProduct_1 ?_
  refine gg_lconstv (x := 0) dX10_deriveProduct_2 rfl ?_
  refine gg_callVv (own := RX10) (yt := gm_X10_put) rfl gl_RX10_102 gk_X10_put gr_X10_put dX10_deriveProduct_3 (c_X10_put (d := d - 1) (k := 3) (x := 0) hx) sh_145 pl_145 (by decide) rfl rfl rfl (Nat.le_of_ble_eq_true rfl) (by show _ ≤ d; omega) ⟨Nat.le_refl _, Nat.le_refl _⟩ (fun μ' hc => ?_)
  obtain ⟨I1, J1, rfl, m1, fa1, fb1, fc1⟩ := hc
  refine gg_aload_n dX10_deriveProduct_6 0 rfl ?_
  refine gg_iconst dX10_deriveProduct_7 ?_
  refine gg_lconstv (x := 0) dX10_deriveProduct_8 rfl ?_
  refine gg_callVv (own := RX10) (yt := gm_X10_put) rfl gl_RX10_102 gk_X10_put gr_X10_put dX10_deriveProduct_9 (c_X10_put (d := d - 1) (k := 4) (x := 0) m1) sh_145 pl_145 (by decide) rfl rfl rfl (Nat.le_of_ble_eq_true rfl) (by show _ ≤ d; omega) ⟨Nat.le_refl _, Nat.le_refl _⟩ (fun μ' hc => ?_)
  obtain ⟨I3, J3, rfl, m3, fa3, fb3, fc3⟩ := hc
  refine gg_aload_n dX10_deriveProduct_12 0 rfl ?_
  refine gg_iload_n dX10_deriveProduct_13 1 rfl ?_
  refine gg_iload_n dX10_deriveProduct_14 2 rfl ?_
  refine gg_iload dX10_deriveProduct_15 4 rfl ?_
  refine gg_callVv (own := RX10) (yt := gm_X10_derive) rfl gl_RX10_222 gk_X10_derive gr_X10_derive dX10_deriveProduct_17 (H1 I3 J3 _ (gMt_d hf hM (fun p h1 h2 => (fa3 p h1 h2).trans ((fa1 p h1 h2).trans (rfl))) (fun p h1 => (fc3 p h1).trans ((fc1 p h1).trans (rfl)))) m3) sh_145 pl_145 (by decide) rfl rfl rfl (Nat.le_of_ble_eq_true rfl) (by show _ ≤ d; omega) ⟨Nat.le_refl _, Nat.le_refl _⟩ (fun μ' hc => ?_)
  obtain ⟨I5, J5, rfl, m5, fa5, fb5, fc5⟩ := hc
  refine gg_aload_n dX10_deriveProduct_20 0 rfl ?_
  refine gg_iload_n dX10_deriveProduct_21 1 rfl ?_
  refine gg_iload_n dX10_deriveProduct_22 3 rfl ?_
  refine gg_callVv (own := RX10) (yt := gm_X10_again) rfl gl_RX10_230 gk_X10_again gr_X10_again dX10_deriveProduct_23 (c_X10_again (d := d - 1) hf (gMt_d hf hM (fun p h1 h2 => (fa5 p h1 h2).trans ((fa3 p h1 h2).trans ((fa1 p h1 h2).trans (rfl)))) (fun p h1 => (fc5 p h1).trans ((fc3 p h1).trans ((fc1 p h1).trans (rfl))))) hW (s := se) hse m5 (by omega)) sh_145 pl_145 (by decide) rfl rfl rfl (Nat.le_of_ble_eq_true rfl) (by show _ ≤ d; omega) ⟨Nat.le_refl _, Nat.le_refl _⟩ (fun μ' hc => ?_)
  obtain ⟨I7, J7, rfl, m7, fa7, fb7, fc7⟩ := hc
  refine gg_aload_n dX10_deriveProduct_26 0 rfl ?_
  refine gg_iconst dX10_deriveProduct_27 ?_
  refine gg_lconstv (x := 0) dX10_deriveProduct_28 rfl ?_
  refine gg_callVv (own := RX10) (yt := gm_X10_put) rfl gl_RX10_102 gk_X10_put gr_X10_put dX10_deriveProduct_29 (c_X10_put (d := d - 1) (k := 4) (x := 0) m7) sh_145 pl_145 (by decide) rfl rfl rfl (Nat.le_of_ble_eq_true rfl) (by show _ ≤ d; omega) ⟨Nat.le_refl _, Nat.le_refl _⟩ (fun μ' hc => ?_)
  obtain ⟨I9, J9, rfl, m9, fa9, fb9, fc9⟩ := hc
  refine gg_aload_n dX10_deriveProduct_32 0 rfl ?_
  refine gg_iload_n dX10_deriveProduct_33 1 rfl ?_
  refine gg_iload_n dX10_deriveProduct_34 2 rfl ?_
  refine gg_callVv (own := RX10) (yt := gm_X10_again) rfl gl_RX10_230 gk_X10_again gr_X10_again dX10_deriveProduct_35 (c_X10_again (d := d - 1) hf (gMt_d hf hM (fun p h1 h2 => (fa9 p h1 h2).trans ((fa7 p h1 h2).trans ((fa5 p h1 h2).trans ((fa3 p h1 h2).trans ((fa1 p h1 h2).trans (rfl)))))) (fun p h1 => (fc9 p h1).trans ((fc7 p h1).trans ((fc5 p h1).trans ((fc3 p h1).trans ((fc1 p h1).trans (rfl))))))) hW (s := fi) hfi m9 (by omega)) sh_145 pl_145 (by decide) rfl rfl rfl (Nat.le_of_ble_eq_true rfl) (by show _ ≤ d; omega) ⟨Nat.le_refl _, Nat.le_refl _⟩ (fun μ' hc => ?_)
  obtain ⟨I11, J11, rfl, m11, fa11, fb11, fc11⟩ := hc
  refine gg_aload_n dX10_deriveProduct_38 0 rfl ?_
  refine gg_iload_n dX10_deriveProduct_39 1 rfl ?_
  refine gg_iload_n dX10_deriveProduct_40 3 rfl ?_
  refine gg_iload dX10_deriveProduct_41 4 rfl ?_
  refine gg_callVv (own := RX10) (yt := gm_X10_derive) rfl gl_RX10_222 gk_X10_derive gr_X10_derive dX10_deriveProduct_43 (H2 I11 J11 _ (gMt_d hf hM (fun p h1 h2 => (fa11 p h1 h2).trans ((fa9 p h1 h2).trans ((fa7 p h1 h2).trans ((fa5 p h1 h2).trans ((fa3 p h1 h2).trans ((fa1 p h1 h2).trans (rfl))))))) (fun p h1 => (fc11 p h1).trans ((fc9 p h1).trans ((fc7 p h1).trans ((fc5 p h1).trans ((fc3 p h1).trans ((fc1 p h1).trans (rfl)))))))) m11) sh_145 pl_145 (by decide) rfl rfl rfl (Nat.le_of_ble_eq_true rfl) (by show _ ≤ d; omega) ⟨Nat.le_refl _, Nat.le_refl _⟩ (fun μ' hc => ?_)
  obtain ⟨I13, J13, rfl, m13, fa13, fb13, fc13⟩ := hc
  refine gg_vretv dX10_deriveProduct_46 rfl ⟨rfl, rfl⟩ ?_
  exact ⟨I13, J13, rfl, (by simpa [gdP, gSt1] using m13), fun p h1 h2 => (fa13 p h1 h2).trans ((fa11 p h1 h2).trans ((fa9 p h1 h2).trans ((fa7 p h1 h2).trans ((fa5 p h1 h2).trans ((fa3 p h1 h2).trans ((fa1 p h1 h2).trans (rfl))))))), fun q h1 h2 => (fb13 q h1 h2).trans ((fb11 q h1 h2).trans ((fb9 q h1 h2).trans ((fb7 q h1 h2).trans ((fb5 q h1 h2).trans ((fb3 q h1 h2).trans ((fb1 q h1 h2).trans (rfl))))))), fun p h1 => (fc13 p h1).trans ((fc11 p h1).trans ((fc9 p h1).trans ((fc7 p h1).trans ((fc5 p h1).trans ((fc3 p h1).trans ((fc1 p h1).trans (rfl)))))))⟩

set_option maxRecDepth 10000 in
set_option maxHeartbeats 1000000 in
theorem r_X10_derive {l : Launch} {Γ : gC} {ad : Nat → Nat} {f n : Nat} {K : Nat → Nat} {N : Nat → Int64} {Z : Nat → Nat} {nm : Int} (hf : f < 12) (hW : gWf n K N Z) : ∀ (m i : Nat), i < n → Z i ≤ m → ∀ d, 2 * m + 4 ≤ d → gMdo l Γ ad gm_X10_derive d [.ref (gad (gSS ad) 145), .int (iv (f : Int)), .int (iv (i : Int)), .int (iv nm)] f n K N Z ((gDv0 n nm K N Z) i) := by
  intro m
  induction m with
  | zero => intro i hi hz; have := (hW.2.2 i hi).2.1; omega
  | succ m ih =>
    intro i hi hzm d hd I J B hM hx
    obtain ⟨hK, hZ1, hZ2, he0, he1, he2, he3, hc1, hc2, hc3, -⟩ := hW.2.2 i hi
    have hpw := (hW.2.2 i hi).2.2.2.2.2.2.2.2.2.2.2.1
    have hn := hW.1
    refine gKv_of gk_X10_derive.1 (Nat.le_of_ble_eq_true rfl) ?_
    show gG l Γ gm_X10_derive (d, 0, 0, 0, 0) 0 [(0, .ref (gad (gSS ad) 145)), (1, .int (iv (f : Int))), (2, .int (iv (i : Int))), (3, .int (iv nm))] [] _ _
    refine gg_aload_n dX10_derive_0 0 rfl ?_
    have hov : I 145 6 = 0 ∨ (200 < B.length ∧ I 145 6 = 1) := hx.imp (fun h => h.2.2.1) (fun h => ⟨h.1, h.2.1⟩)
    obtain ⟨ov, hove⟩ : ∃ ov : Int, I 145 6 = ov := ⟨_, rfl⟩
    rw [hove] at hov
    refine gg_getI rfl gf_RX10_94 dX10_derive_1 sh_145 pl_145 (by decide) (by decide) ?_
    refine gg_toI (b := ov) hove ?_
    refine gg_if_eq (tgt := 8) dX10_derive_4 (by decide) (by omega) (fun hb => ?_) (fun hb => ?_)
    · refine gg_iload_n dX10_derive_8 2 rfl ?_
      refine gg_iconst dX10_derive_9 ?_
      refine gg_iadd dX10_derive_10 ?_
      refine gg_toI (b := ((i + 1 : Nat) : Int)) (by omega) ?_
      refine gg_istore (ls' := [(4, .int (iv ((i + 1 : Nat) : Int))), (0, .ref (gad (gSS ad) 145)), (1, .int (iv (f : Int))), (2, .int (iv (i : Int))), (3, .int (iv nm))]) dX10_derive_11 (by decide) rfl ?_
      refine gg_aload_n dX10_derive_13 1 rfl ?_
      refine gg_getR (k' := 147) rfl gf_RX10_15 dX10_derive_14 sh_145 pl_145 (by decide) (by decide) rr_145_1 ?_
      refine gg_iload_n dX10_derive_17 2 rfl ?_
      refine gg_aaldj (t := 6) f (k' := (148 + f)) dX10_derive_18 sh_147 (by decide) pl_147 (by decide) rfl hf (rr_147 hf) ?_
      refine gg_iload_n dX10_derive_19 3 rfl ?_
      refine gg_ialdj i dX10_derive_20 (rs_147 hf) (rl_147 hf) (by decide) rfl (by omega) ?_
      refine gg_toI (b := (K i : Int)) (hM.2 i hi).1 ?_
      obtain hk | hk | hk | hk | hk | hk | hk | hk := (by omega : K i = 0 ∨ K i = 1 ∨ K i = 2 ∨ K i = 3 ∨ K i = 4 ∨ K i = 5 ∨ K i = 6 ∨ K i = 7)
      · refine gg_toI (b := 0) (by omega) ?_
        refine gg_tsw (off := 47) (tgt := 68) dX10_derive_21 (by decide) (by decide) rfl (by decide) ?_
        have hz := he0 (by rw [hk]; decide)
        refine gg_aload_n dX10_derive_68 1 rfl ?_
        refine gg_iconst dX10_derive_69 ?_
        refine gg_lconstv (x := 0) dX10_derive_70 rfl ?_
        refine gg_callVv (own := RX10) (yt := gm_X10_put) rfl gl_RX10_102 gk_X10_put gr_X10_put dX10_derive_71 (c_X10_put (d := d - 1) (k := 0) (x := 0) hx) sh_145 pl_145 (by decide) rfl rfl rfl (Nat.le_of_ble_eq_true rfl) (by show _ ≤ d; omega) ⟨Nat.le_refl _, Nat.le_refl _⟩ (fun μ' hc => ?_)
        obtain ⟨I1, J1, rfl, m1, fa1, fb1, fc1⟩ := hc
        refine gg_goto (tgt := 296) dX10_derive_74 (by decide) ?_
        refine gg_vretv dX10_derive_296 rfl ⟨rfl, rfl⟩ ?_
        refine ⟨I1, J1, rfl, ?_, fun p h1 h2 => (fa1 p h1 h2).trans (rfl), fun q h1 h2 => (fb1 q h1 h2).trans (rfl), fun p h1 => (fc1 p h1).trans (rfl)⟩
        rw [gDv0_is n nm K N Z i hi]
        unfold gdrF
        simp only [hk]
        simpa [gSt1] using m1
      · refine gg_toI (b := 1) (by omega) ?_
        refine gg_tsw (off := 56) (tgt := 77) dX10_derive_21 (by decide) (by decide) rfl (by decide) ?_
        have hz := he0 (by rw [hk]; decide)
        refine gg_aload_n dX10_derive_77 1 rfl ?_
        refine gg_iconst dX10_derive_78 ?_
        refine gg_aload_n dX10_derive_79 1 rfl ?_
        refine gg_getR (k' := 160) rfl gf_RX10_20 dX10_derive_80 sh_145 pl_145 (by decide) (by decide) rr_145_2 ?_
        refine gg_iload_n dX10_derive_83 2 rfl ?_
        refine gg_aaldj (t := 7) f (k' := (161 + f)) dX10_derive_84 sh_160 (by decide) pl_160 (by decide) rfl hf (rr_160 hf) ?_
        refine gg_iload_n dX10_derive_85 3 rfl ?_
        refine gg_laldj i dX10_derive_86 (rs_160 hf) (rl_160 hf) (by decide) rfl (by omega) ?_
        refine gg_toL (b := N i) (hM.2 i hi).2.1 ?_
        refine gg_iload_n dX10_derive_87 4 rfl ?_
        refine gg_i2l dX10_derive_88 ?_
        refine gg_lcmp_ne (tgt := 97) dX10_derive_89 dX10_derive_90 (by decide) (fun hq => ?_) (fun hq => ?_)
        · refine gg_lconstv (x := 0) dX10_derive_97 rfl ?_
          refine gg_callVv (own := RX10) (yt := gm_X10_put) rfl gl_RX10_102 gk_X10_put gr_X10_put dX10_derive_98 (c_X10_put (d := d - 1) (k := 0) (x := 0) hx) sh_145 pl_145 (by decide) rfl rfl rfl (Nat.le_of_ble_eq_true rfl) (by show _ ≤ d; omega) ⟨Nat.le_refl _, Nat.le_refl _⟩ (fun μ' hc => ?_)
          obtain ⟨I3, J3, rfl, m3, fa3, fb3, fc3⟩ := hc
          refine gg_goto (tgt := 296) dX10_derive_101 (by decide) ?_
          refine gg_vretv dX10_derive_296 rfl ⟨rfl, rfl⟩ ?_
          refine ⟨I3, J3, rfl, ?_, fun p h1 h2 => (fa3 p h1 h2).trans (rfl), fun q h1 h2 => (fb3 q h1 h2).trans (rfl), fun p h1 => (fc3 p h1).trans (rfl)⟩
          rw [gDv0_is n nm K N Z i hi]
          unfold gdrF
          simp only [hk]
          rw [if_neg hq]
          simpa [gSt1] using m3
        · refine gg_lconstv (x := 1) dX10_derive_93 rfl ?_
          refine gg_goto (tgt := 98) dX10_derive_94 (by decide) ?_
          refine gg_callVv (own := RX10) (yt := gm_X10_put) rfl gl_RX10_102 gk_X10_put gr_X10_put dX10_derive_98 (c_X10_put (d := d - 1) (k := 0) (x := 1) hx) sh_145 pl_145 (by decide) rfl rfl rfl (Nat.le_of_ble_eq_true rfl) (by show _ ≤ d; omega) ⟨Nat.le_refl _, Nat.le_refl _⟩ (fun μ' hc => ?_)
          obtain ⟨I5, J5, rfl, m5, fa5, fb5, fc5⟩ := hc
          refine gg_goto (tgt := 296) dX10_derive_101 (by decide) ?_
          refine gg_vretv dX10_derive_296 rfl ⟨rfl, rfl⟩ ?_
          refine ⟨I5, J5, rfl, ?_, fun p h1 h2 => (fa5 p h1 h2).trans (rfl), fun q h1 h2 => (fb5 q h1 h2).trans (rfl), fun p h1 => (fc5 p h1).trans (rfl)⟩
          rw [gDv0_is n nm K N Z i hi]
          unfold gdrF
          simp only [hk]
          rw [if_pos hq]
          simpa [gSt1] using m5
      · refine gg_toI (b := 2) (by omega) ?_
        refine gg_tsw (off := 83) (tgt := 104) dX10_derive_21 (by decide) (by decide) rfl (by decide) ?_
        have q1 := hc1 (by rw [hk]; decide)
        have hz := he1 (by rw [hk]; decide)
        refine gg_aload_n dX10_derive_104 1 rfl ?_
        refine gg_iconst dX10_derive_105 ?_
        refine gg_lconstv (x := 0) dX10_derive_106 rfl ?_
        refine gg_callVv (own := RX10) (yt := gm_X10_put) rfl gl_RX10_102 gk_X10_put gr_X10_put dX10_derive_107 (c_X10_put (d := d - 1) (k := 2) (x := 0) hx) sh_145 pl_145 (by decide) rfl rfl rfl (Nat.le_of_ble_eq_true rfl) (by show _ ≤ d; omega) ⟨Nat.le_refl _, Nat.le_refl _⟩ (fun μ' hc => ?_)
        obtain ⟨I7, J7, rfl, m7, fa7, fb7, fc7⟩ := hc
        refine gg_aload_n dX10_derive_110 1 rfl ?_
        refine gg_iload_n dX10_derive_111 2 rfl ?_
        refine gg_iload dX10_derive_112 0 rfl ?_
        refine gg_iload_n dX10_derive_114 4 rfl ?_
        refine gg_callVv (own := RX10) (yt := gm_X10_derive) rfl gl_RX10_222 gk_X10_derive gr_X10_derive dX10_derive_115 (ih (i + 1) q1 (by omega) (d - 1) (by omega) I7 J7 _ (gMt_d hf hM (fun p h1 h2 => (fa7 p h1 h2).trans (rfl)) (fun p h1 => (fc7 p h1).trans (rfl))) m7) sh_145 pl_145 (by decide) rfl rfl rfl (Nat.le_of_ble_eq_true rfl) (by show _ ≤ d; omega) ⟨Nat.le_refl _, Nat.le_refl _⟩ (fun μ' hc => ?_)
        obtain ⟨I9, J9, rfl, m9, fa9, fb9, fc9⟩ := hc
        refine gg_goto (tgt := 296) dX10_derive_118 (by decide) ?_
        refine gg_vretv dX10_derive_296 rfl ⟨rfl, rfl⟩ ?_
        refine ⟨I9, J9, rfl, ?_, fun p h1 h2 => (fa9 p h1 h2).trans ((fa7 p h1 h2).trans (rfl)), fun q h1 h2 => (fb9 q h1 h2).trans ((fb7 q h1 h2).trans (rfl)), fun p h1 => (fc9 p h1).trans ((fc7 p h1).trans (rfl))⟩
        rw [gDv0_is n nm K N Z i hi]
        unfold gdrF
        simp only [hk]
        simpa [gSt1] using m9
      · refine gg_toI (b := 3) (by omega) ?_
        refine gg_tsw (off := 100) (tgt := 121) dX10_derive_21 (by decide) (by decide) rfl (by decide) ?_
        have q1 := hc1 (by rw [hk]; decide)
        have q2 := hc2 (by rw [hk]; decide)
        have hz := he2 (by rw [hk]; decide)
        refine gg_aload_n dX10_derive_121 1 rfl ?_
        refine gg_iconst dX10_derive_122 ?_
        refine gg_lconstv (x := 0) dX10_derive_123 rfl ?_
        refine gg_callVv (own := RX10) (yt := gm_X10_put) rfl gl_RX10_102 gk_X10_put gr_X10_put dX10_derive_124 (c_X10_put (d := d - 1) (k := 3) (x := 0) hx) sh_145 pl_145 (by decide) rfl rfl rfl (Nat.le_of_ble_eq_true rfl) (by show _ ≤ d; omega) ⟨Nat.le_refl _, Nat.le_refl _⟩ (fun μ' hc => ?_)
        obtain ⟨I11, J11, rfl, m11, fa11, fb11, fc11⟩ := hc
        refine gg_aload_n dX10_derive_127 1 rfl ?_
        refine gg_iload_n dX10_derive_128 2 rfl ?_
        refine gg_iload dX10_derive_129 0 rfl ?_
        refine gg_iload_n dX10_derive_131 4 rfl ?_
        refine gg_callVv (own := RX10) (yt := gm_X10_derive) rfl gl_RX10_222 gk_X10_derive gr_X10_derive dX10_derive_132 (ih (i + 1) q1 (by omega) (d - 1) (by omega) I11 J11 _ (gMt_d hf hM (fun p h1 h2 => (fa11 p h1 h2).trans (rfl)) (fun p h1 => (fc11 p h1).trans (rfl))) m11) sh_145 pl_145 (by decide) rfl rfl rfl (Nat.le_of_ble_eq_true rfl) (by show _ ≤ d; omega) ⟨Nat.le_refl _, Nat.le_refl _⟩ (fun μ' hc => ?_)
        obtain ⟨I13, J13, rfl, m13, fa13, fb13, fc13⟩ := hc
        refine gg_aload_n dX10_derive_135 1 rfl ?_
        refine gg_iload_n dX10_derive_136 2 rfl ?_
        refine gg_aload_n dX10_derive_137 1 rfl ?_
        refine gg_iload_n dX10_derive_138 2 rfl ?_
        refine gg_iload_n dX10_derive_139 3 rfl ?_
        refine gg_callVi (own := RX10) (yt := gm_X10_second) rfl gl_RX10_109 gk_X10_second gr_X10_second dX10_derive_140 (c_X10_second (d := d - 1) hf (gMt_d hf hM (fun p h1 h2 => (fa13 p h1 h2).trans ((fa11 p h1 h2).trans (rfl))) (fun p h1 => (fc13 p h1).trans ((fc11 p h1).trans (rfl)))) hW (i := i) q1) sh_145 pl_145 (by decide) rfl rfl rfl (Nat.le_of_ble_eq_true rfl) (by show _ ≤ d; omega) ⟨Nat.le_refl _, Nat.le_refl _⟩ (fun e15 μ' hc => ?_)
        obtain ⟨rfl, rfl⟩ := hc
        refine gg_iload_n dX10_derive_143 4 rfl ?_
        refine gg_callVv (own := RX10) (yt := gm_X10_derive) rfl gl_RX10_222 gk_X10_derive gr_X10_derive dX10_derive_144 (ih (gPt Z i 1) q2 (by omega) (d - 1) (by omega) I13 J13 _ (gMt_d hf hM (fun p h1 h2 => (fa13 p h1 h2).trans ((fa11 p h1 h2).trans (rfl))) (fun p h1 => (fc13 p h1).trans ((fc11 p h1).trans (rfl)))) m13) sh_145 pl_145 (by decide) rfl rfl rfl (Nat.le_of_ble_eq_true rfl) (by show _ ≤ d; omega) ⟨Nat.le_refl _, Nat.le_refl _⟩ (fun μ' hc => ?_)
        obtain ⟨I16, J16, rfl, m16, fa16, fb16, fc16⟩ := hc
        refine gg_goto (tgt := 296) dX10_derive_147 (by decide) ?_
        refine gg_vretv dX10_derive_296 rfl ⟨rfl, rfl⟩ ?_
        refine ⟨I16, J16, rfl, ?_, fun p h1 h2 => (fa16 p h1 h2).trans ((fa13 p h1 h2).trans ((fa11 p h1 h2).trans (rfl))), fun q h1 h2 => (fb16 q h1 h2).trans ((fb13 q h1 h2).trans ((fb11 q h1 h2).trans (rfl))), fun p h1 => (fc16 p h1).trans ((fc13 p h1).trans ((fc11 p h1).trans (rfl)))⟩
        rw [gDv0_is n nm K N Z i hi]
        unfold gdrF
        simp only [hk]
        simpa [gSt1] using m16
      · refine gg_toI (b := 4) (by omega) ?_
        refine gg_tsw (off := 129) (tgt := 150) dX10_derive_21 (by decide) (by decide) rfl (by decide) ?_
        have q1 := hc1 (by rw [hk]; decide)
        have q2 := hc2 (by rw [hk]; decide)
        have hz := he2 (by rw [hk]; decide)
        refine gg_aload_n dX10_derive_150 1 rfl ?_
        refine gg_iload_n dX10_derive_151 2 rfl ?_
        refine gg_iload dX10_derive_152 0 rfl ?_
        refine gg_aload_n dX10_derive_154 1 rfl ?_
        refine gg_iload_n dX10_derive_155 2 rfl ?_
        refine gg_iload_n dX10_derive_156 3 rfl ?_
        refine gg_callVi (own := RX10) (yt := gm_X10_second) rfl gl_RX10_109 gk_X10_second gr_X10_second dX10_derive_157 (c_X10_second (d := d - 1) hf hM hW (i := i) q1) sh_145 pl_145 (by decide) rfl rfl rfl (Nat.le_of_ble_eq_true rfl) (by show _ ≤ d; omega) ⟨Nat.le_refl _, Nat.le_refl _⟩ (fun e18 μ' hc => ?_)
        obtain ⟨rfl, rfl⟩ := hc
        refine gg_iload_n dX10_derive_160 4 rfl ?_
        refine gg_callVv (own := RX10) (yt := gm_X10_deriveProduct) rfl gl_RX10_226 gk_X10_deriveProduct gr_X10_deriveProduct dX10_derive_161 ((c_X10_deriveProduct (d := d - 1) hf hW (fi := i + 1) (se := gPt Z i 1) q1 q2 (by omega) (ih (i + 1) q1 (by omega) (d - 1 - 1) (by omega)) (ih (gPt Z i 1) q2 (by omega) (d - 1 - 1) (by omega))) I J _ hM hx) sh_145 pl_145 (by decide) rfl rfl rfl (Nat.le_of_ble_eq_true rfl) (by show _ ≤ d; omega) ⟨Nat.le_refl _, Nat.le_refl _⟩ (fun μ' hc => ?_)
        obtain ⟨I19, J19, rfl, m19, fa19, fb19, fc19⟩ := hc
        refine gg_goto (tgt := 296) dX10_derive_164 (by decide) ?_
        refine gg_vretv dX10_derive_296 rfl ⟨rfl, rfl⟩ ?_
        refine ⟨I19, J19, rfl, ?_, fun p h1 h2 => (fa19 p h1 h2).trans (rfl), fun q h1 h2 => (fb19 q h1 h2).trans (rfl), fun p h1 => (fc19 p h1).trans (rfl)⟩
        rw [gDv0_is n nm K N Z i hi]
        unfold gdrF
        simp only [hk]
        exact m19
      · refine gg_toI (b := 5) (by omega) ?_
        refine gg_tsw (off := 159) (tgt := 180) dX10_derive_21 (by decide) (by decide) rfl (by decide) ?_
        have q1 := hc1 (by rw [hk]; decide)
        have hz := he1 (by rw [hk]; decide)
        obtain ⟨m0, hm0, hNm⟩ := hpw hk
        refine gg_aload_n dX10_derive_180 1 rfl ?_
        refine gg_getR (k' := 160) rfl gf_RX10_20 dX10_derive_181 sh_145 pl_145 (by decide) (by decide) rr_145_2 ?_
        refine gg_iload_n dX10_derive_184 2 rfl ?_
        refine gg_aaldj (t := 7) f (k' := (161 + f)) dX10_derive_185 sh_160 (by decide) pl_160 (by decide) rfl hf (rr_160 hf) ?_
        refine gg_iload_n dX10_derive_186 3 rfl ?_
        refine gg_laldj i dX10_derive_187 (rs_160 hf) (rl_160 hf) (by decide) rfl (by omega) ?_
        refine gg_toL (b := Int64.ofNat m0) (by rw [(hM.2 i hi).2.1]; exact hNm) ?_
        refine gg_lconstv (x := 0) dX10_derive_188 rfl ?_
        refine gg_lcmp_ne (tgt := 200) dX10_derive_189 dX10_derive_190 (by decide) (fun h0 => ?_) (fun h0 => ?_)
        · refine gg_aload_n dX10_derive_200 1 rfl ?_
          refine gg_iconst dX10_derive_201 ?_
          refine gg_lconstv (x := 0) dX10_derive_202 rfl ?_
          refine gg_callVv (own := RX10) (yt := gm_X10_put) rfl gl_RX10_102 gk_X10_put gr_X10_put dX10_derive_203 (c_X10_put (d := d - 1) (k := 4) (x := 0) hx) sh_145 pl_145 (by decide) rfl rfl rfl (Nat.le_of_ble_eq_true rfl) (by show _ ≤ d; omega) ⟨Nat.le_refl _, Nat.le_refl _⟩ (fun μ' hc => ?_)
          obtain ⟨I21, J21, rfl, m21, fa21, fb21, fc21⟩ := hc
          refine gg_aload_n dX10_derive_206 1 rfl ?_
          refine gg_iconst dX10_derive_207 ?_
          refine gg_lconstv (x := 0) dX10_derive_208 rfl ?_
          refine gg_callVv (own := RX10) (yt := gm_X10_put) rfl gl_RX10_102 gk_X10_put gr_X10_put dX10_derive_209 (c_X10_put (d := d - 1) (k := 4) (x := 0) m21) sh_145 pl_145 (by decide) rfl rfl rfl (Nat.le_of_ble_eq_true rfl) (by show _ ≤ d; omega) ⟨Nat.le_refl _, Nat.le_refl _⟩ (fun μ' hc => ?_)
          obtain ⟨I23, J23, rfl, m23, fa23, fb23, fc23⟩ := hc
          refine gg_aload_n dX10_derive_212 1 rfl ?_
          refine gg_iconst dX10_derive_213 ?_
          refine gg_aload_n dX10_derive_214 1 rfl ?_
          refine gg_getR (k' := 160) rfl gf_RX10_20 dX10_derive_215 sh_145 pl_145 (by decide) (by decide) rr_145_2 ?_
          refine gg_iload_n dX10_derive_218 2 rfl ?_
          refine gg_aaldj (t := 7) f (k' := (161 + f)) dX10_derive_219 sh_160 (by decide) pl_160 (by decide) rfl hf (rr_160 hf) ?_
          refine gg_iload_n dX10_derive_220 3 rfl ?_
          refine gg_laldj i dX10_derive_221 (rs_160 hf) (rl_160 hf) (by decide) rfl (by omega) ?_
          refine gg_toL (b := Int64.ofNat m0) (by rw [((gMt_d hf hM (fun p h1 h2 => (fa23 p h1 h2).trans ((fa21 p h1 h2).trans (rfl))) (fun p h1 => (fc23 p h1).trans ((fc21 p h1).trans (rfl)))).2 i hi).2.1]; exact hNm) ?_
          refine gg_callVv (own := RX10) (yt := gm_X10_put) rfl gl_RX10_102 gk_X10_put gr_X10_put dX10_derive_222 (c_X10_put (d := d - 1) (k := 0) (x := (Int64.ofNat m0)) m23) sh_145 pl_145 (by decide) rfl rfl rfl (Nat.le_of_ble_eq_true rfl) (by show _ ≤ d; omega) ⟨Nat.le_refl _, Nat.le_refl _⟩ (fun μ' hc => ?_)
          obtain ⟨I25, J25, rfl, m25, fa25, fb25, fc25⟩ := hc
          refine gg_aload_n dX10_derive_225 1 rfl ?_
          refine gg_iconst dX10_derive_226 ?_
          refine gg_aload_n dX10_derive_227 1 rfl ?_
          refine gg_getR (k' := 160) rfl gf_RX10_20 dX10_derive_228 sh_145 pl_145 (by decide) (by decide) rr_145_2 ?_
          refine gg_iload_n dX10_derive_231 2 rfl ?_
          refine gg_aaldj (t := 7) f (k' := (161 + f)) dX10_derive_232 sh_160 (by decide) pl_160 (by decide) rfl hf (rr_160 hf) ?_
          refine gg_iload_n dX10_derive_233 3 rfl ?_
          refine gg_laldj i dX10_derive_234 (rs_160 hf) (rl_160 hf) (by decide) rfl (by omega) ?_
          refine gg_toL (b := Int64.ofNat m0) (by rw [((gMt_d hf hM (fun p h1 h2 => (fa25 p h1 h2).trans ((fa23 p h1 h2).trans ((fa21 p h1 h2).trans (rfl)))) (fun p h1 => (fc25 p h1).trans ((fc23 p h1).trans ((fc21 p h1).trans (rfl))))).2 i hi).2.1]; exact hNm) ?_
          refine gg_lconstv (x := 1) dX10_derive_235 rfl ?_
          refine gg_lsub dX10_derive_236 ?_
          refine gg_callVv (own := RX10) (yt := gm_X10_put) rfl gl_RX10_102 gk_X10_put gr_X10_put dX10_derive_237 (c_X10_put (d := d - 1) (k := 5) (x := ((Int64.ofNat m0) - 1)) m25) sh_145 pl_145 (by decide) rfl rfl rfl (Nat.le_of_ble_eq_true rfl) (by show _ ≤ d; omega) ⟨Nat.le_refl _, Nat.le_refl _⟩ (fun μ' hc => ?_)
          obtain ⟨I27, J27, rfl, m27, fa27, fb27, fc27⟩ := hc
          refine gg_aload_n dX10_derive_240 1 rfl ?_
          refine gg_iload_n dX10_derive_241 2 rfl ?_
          refine gg_iload dX10_derive_242 0 rfl ?_
          refine gg_callVv (own := RX10) (yt := gm_X10_again) rfl gl_RX10_230 gk_X10_again gr_X10_again dX10_derive_244 (c_X10_again (d := d - 1) hf (gMt_d hf hM (fun p h1 h2 => (fa27 p h1 h2).trans ((fa25 p h1 h2).trans ((fa23 p h1 h2).trans ((fa21 p h1 h2).trans (rfl))))) (fun p h1 => (fc27 p h1).trans ((fc25 p h1).trans ((fc23 p h1).trans ((fc21 p h1).trans (rfl)))))) hW (s := (((i + 1 : Nat) : Int)).toNat) q1 m27 (by omega)) sh_145 pl_145 (by decide) rfl rfl rfl (Nat.le_of_ble_eq_true rfl) (by show _ ≤ d; omega) ⟨Nat.le_refl _, Nat.le_refl _⟩ (fun μ' hc => ?_)
          obtain ⟨I29, J29, rfl, m29, fa29, fb29, fc29⟩ := hc
          refine gg_aload_n dX10_derive_247 1 rfl ?_
          refine gg_iload_n dX10_derive_248 2 rfl ?_
          refine gg_iload dX10_derive_249 0 rfl ?_
          refine gg_iload_n dX10_derive_251 4 rfl ?_
          refine gg_callVv (own := RX10) (yt := gm_X10_derive) rfl gl_RX10_222 gk_X10_derive gr_X10_derive dX10_derive_252 (ih (i + 1) q1 (by omega) (d - 1) (by omega) I29 J29 _ (gMt_d hf hM (fun p h1 h2 => (fa29 p h1 h2).trans ((fa27 p h1 h2).trans ((fa25 p h1 h2).trans ((fa23 p h1 h2).trans ((fa21 p h1 h2).trans (rfl)))))) (fun p h1 => (fc29 p h1).trans ((fc27 p h1).trans ((fc25 p h1).trans ((fc23 p h1).trans ((fc21 p h1).trans (rfl))))))) m29) sh_145 pl_145 (by decide) rfl rfl rfl (Nat.le_of_ble_eq_true rfl) (by show _ ≤ d; omega) ⟨Nat.le_refl _, Nat.le_refl _⟩ (fun μ' hc => ?_)
          obtain ⟨I31, J31, rfl, m31, fa31, fb31, fc31⟩ := hc
          refine gg_goto (tgt := 296) dX10_derive_255 (by decide) ?_
          refine gg_vretv dX10_derive_296 rfl ⟨rfl, rfl⟩ ?_
          refine ⟨I31, J31, rfl, ?_, fun p h1 h2 => (fa31 p h1 h2).trans ((fa29 p h1 h2).trans ((fa27 p h1 h2).trans ((fa25 p h1 h2).trans ((fa23 p h1 h2).trans ((fa21 p h1 h2).trans (rfl)))))), fun q h1 h2 => (fb31 q h1 h2).trans ((fb29 q h1 h2).trans ((fb27 q h1 h2).trans ((fb25 q h1 h2).trans ((fb23 q h1 h2).trans ((fb21 q h1 h2).trans (rfl)))))), fun p h1 => (fc31 p h1).trans ((fc29 p h1).trans ((fc27 p h1).trans ((fc25 p h1).trans ((fc23 p h1).trans ((fc21 p h1).trans (rfl))))))⟩
          rw [gDv0_is n nm K N Z i hi]
          unfold gdrF
          simp only [hk]
          rw [hNm]
          unfold gdW
          rw [if_neg h0]
          simpa [gSt1] using m31
        · refine gg_aload_n dX10_derive_193 1 rfl ?_
          refine gg_iconst dX10_derive_194 ?_
          refine gg_lconstv (x := 0) dX10_derive_195 rfl ?_
          refine gg_callVv (own := RX10) (yt := gm_X10_put) rfl gl_RX10_102 gk_X10_put gr_X10_put dX10_derive_196 (c_X10_put (d := d - 1) (k := 0) (x := 0) hx) sh_145 pl_145 (by decide) rfl rfl rfl (Nat.le_of_ble_eq_true rfl) (by show _ ≤ d; omega) ⟨Nat.le_refl _, Nat.le_refl _⟩ (fun μ' hc => ?_)
          obtain ⟨I33, J33, rfl, m33, fa33, fb33, fc33⟩ := hc
          refine gg_vretv dX10_derive_199 rfl ⟨rfl, rfl⟩ ?_
          refine ⟨I33, J33, rfl, ?_, fun p h1 h2 => (fa33 p h1 h2).trans (rfl), fun q h1 h2 => (fb33 q h1 h2).trans (rfl), fun p h1 => (fc33 p h1).trans (rfl)⟩
          rw [gDv0_is n nm K N Z i hi]
          unfold gdrF
          simp only [hk]
          rw [hNm]
          unfold gdW
          rw [if_pos h0]
          simpa [gSt1] using m33
      · refine gg_toI (b := 6) (by omega) ?_
        refine gg_tsw (off := 237) (tgt := 258) dX10_derive_21 (by decide) (by decide) rfl (by decide) ?_
        have q1 := hc1 (by rw [hk]; decide)
        have q2 := hc2 (by rw [hk]; decide)
        have q3 := hc3 (by rw [hk]; decide)
        have hz := he3 (by rw [hk]; decide)
        refine gg_aload_n dX10_derive_258 1 rfl ?_
        refine gg_bipush dX10_derive_259 (by decide) ?_
        refine gg_lconstv (x := 0) dX10_derive_261 rfl ?_
        refine gg_callVv (own := RX10) (yt := gm_X10_put) rfl gl_RX10_102 gk_X10_put gr_X10_put dX10_derive_262 (c_X10_put (d := d - 1) (k := 6) (x := 0) hx) sh_145 pl_145 (by decide) rfl rfl rfl (Nat.le_of_ble_eq_true rfl) (by show _ ≤ d; omega) ⟨Nat.le_refl _, Nat.le_refl _⟩ (fun μ' hc => ?_)
        obtain ⟨I35, J35, rfl, m35, fa35, fb35, fc35⟩ := hc
        refine gg_aload_n dX10_derive_265 1 rfl ?_
        refine gg_iload_n dX10_derive_266 2 rfl ?_
        refine gg_iload dX10_derive_267 0 rfl ?_
        refine gg_callVv (own := RX10) (yt := gm_X10_again) rfl gl_RX10_230 gk_X10_again gr_X10_again dX10_derive_269 (c_X10_again (d := d - 1) hf (gMt_d hf hM (fun p h1 h2 => (fa35 p h1 h2).trans (rfl)) (fun p h1 => (fc35 p h1).trans (rfl))) hW (s := (((i + 1 : Nat) : Int)).toNat) q1 m35 (by omega)) sh_145 pl_145 (by decide) rfl rfl rfl (Nat.le_of_ble_eq_true rfl) (by show _ ≤ d; omega) ⟨Nat.le_refl _, Nat.le_refl _⟩ (fun μ' hc => ?_)
        obtain ⟨I37, J37, rfl, m37, fa37, fb37, fc37⟩ := hc
        refine gg_aload_n dX10_derive_272 1 rfl ?_
        refine gg_iload_n dX10_derive_273 2 rfl ?_
        refine gg_aload_n dX10_derive_274 1 rfl ?_
        refine gg_iload_n dX10_derive_275 2 rfl ?_
        refine gg_iload_n dX10_derive_276 3 rfl ?_
        refine gg_callVi (own := RX10) (yt := gm_X10_second) rfl gl_RX10_109 gk_X10_second gr_X10_second dX10_derive_277 (c_X10_second (d := d - 1) hf (gMt_d hf hM (fun p h1 h2 => (fa37 p h1 h2).trans ((fa35 p h1 h2).trans (rfl))) (fun p h1 => (fc37 p h1).trans ((fc35 p h1).trans (rfl)))) hW (i := i) q1) sh_145 pl_145 (by decide) rfl rfl rfl (Nat.le_of_ble_eq_true rfl) (by show _ ≤ d; omega) ⟨Nat.le_refl _, Nat.le_refl _⟩ (fun e39 μ' hc => ?_)
        obtain ⟨rfl, rfl⟩ := hc
        refine gg_iload_n dX10_derive_280 4 rfl ?_
        refine gg_callVv (own := RX10) (yt := gm_X10_derive) rfl gl_RX10_222 gk_X10_derive gr_X10_derive dX10_derive_281 (ih (gPt Z i 1) q2 (by omega) (d - 1) (by omega) I37 J37 _ (gMt_d hf hM (fun p h1 h2 => (fa37 p h1 h2).trans ((fa35 p h1 h2).trans (rfl))) (fun p h1 => (fc37 p h1).trans ((fc35 p h1).trans (rfl)))) m37) sh_145 pl_145 (by decide) rfl rfl rfl (Nat.le_of_ble_eq_true rfl) (by show _ ≤ d; omega) ⟨Nat.le_refl _, Nat.le_refl _⟩ (fun μ' hc => ?_)
        obtain ⟨I40, J40, rfl, m40, fa40, fb40, fc40⟩ := hc
        refine gg_aload_n dX10_derive_284 1 rfl ?_
        refine gg_iload_n dX10_derive_285 2 rfl ?_
        refine gg_aload_n dX10_derive_286 1 rfl ?_
        refine gg_iload_n dX10_derive_287 2 rfl ?_
        refine gg_iload_n dX10_derive_288 3 rfl ?_
        refine gg_callVi (own := RX10) (yt := gm_X10_third) rfl gl_RX10_233 gk_X10_third gr_X10_third dX10_derive_289 (c_X10_third (d := d - 1) hf (gMt_d hf hM (fun p h1 h2 => (fa40 p h1 h2).trans ((fa37 p h1 h2).trans ((fa35 p h1 h2).trans (rfl)))) (fun p h1 => (fc40 p h1).trans ((fc37 p h1).trans ((fc35 p h1).trans (rfl))))) hW (i := i) q1 q2 (by omega)) sh_145 pl_145 (by decide) rfl rfl rfl (Nat.le_of_ble_eq_true rfl) (by show _ ≤ d; omega) ⟨Nat.le_refl _, Nat.le_refl _⟩ (fun e42 μ' hc => ?_)
        obtain ⟨rfl, rfl⟩ := hc
        refine gg_iload_n dX10_derive_292 4 rfl ?_
        refine gg_callVv (own := RX10) (yt := gm_X10_derive) rfl gl_RX10_222 gk_X10_derive gr_X10_derive dX10_derive_293 (ih (gPt Z i 2) q3 (by omega) (d - 1) (by omega) I40 J40 _ (gMt_d hf hM (fun p h1 h2 => (fa40 p h1 h2).trans ((fa37 p h1 h2).trans ((fa35 p h1 h2).trans (rfl)))) (fun p h1 => (fc40 p h1).trans ((fc37 p h1).trans ((fc35 p h1).trans (rfl))))) m40) sh_145 pl_145 (by decide) rfl rfl rfl (Nat.le_of_ble_eq_true rfl) (by show _ ≤ d; omega) ⟨Nat.le_refl _, Nat.le_refl _⟩ (fun μ' hc => ?_)
        obtain ⟨I43, J43, rfl, m43, fa43, fb43, fc43⟩ := hc
        refine gg_vretv dX10_derive_296 rfl ⟨rfl, rfl⟩ ?_
        refine ⟨I43, J43, rfl, ?_, fun p h1 h2 => (fa43 p h1 h2).trans ((fa40 p h1 h2).trans ((fa37 p h1 h2).trans ((fa35 p h1 h2).trans (rfl)))), fun q h1 h2 => (fb43 q h1 h2).trans ((fb40 q h1 h2).trans ((fb37 q h1 h2).trans ((fb35 q h1 h2).trans (rfl)))), fun p h1 => (fc43 p h1).trans ((fc40 p h1).trans ((fc37 p h1).trans ((fc35 p h1).trans (rfl))))⟩
        rw [gDv0_is n nm K N Z i hi]
        unfold gdrF
        simp only [hk]
        simpa [gSt1] using m43
      · refine gg_toI (b := 7) (by omega) ?_
        refine gg_tsw (off := 146) (tgt := 167) dX10_derive_21 (by decide) (by decide) rfl (by decide) ?_
        have q1 := hc1 (by rw [hk]; decide)
        have hz := he1 (by rw [hk]; decide)
        refine gg_aload_n dX10_derive_167 1 rfl ?_
        refine gg_iload_n dX10_derive_168 2 rfl ?_
        refine gg_iload dX10_derive_169 0 rfl ?_
        refine gg_iload dX10_derive_171 0 rfl ?_
        refine gg_iload_n dX10_derive_173 4 rfl ?_
        refine gg_callVv (own := RX10) (yt := gm_X10_deriveProduct) rfl gl_RX10_226 gk_X10_deriveProduct gr_X10_deriveProduct dX10_derive_174 ((c_X10_deriveProduct (d := d - 1) hf hW (fi := i + 1) (se := i + 1) q1 q1 (by omega) (ih (i + 1) q1 (by omega) (d - 1 - 1) (by omega)) (ih (i + 1) q1 (by omega) (d - 1 - 1) (by omega))) I J _ hM hx) sh_145 pl_145 (by decide) rfl rfl rfl (Nat.le_of_ble_eq_true rfl) (by show _ ≤ d; omega) ⟨Nat.le_refl _, Nat.le_refl _⟩ (fun μ' hc => ?_)
        obtain ⟨I45, J45, rfl, m45, fa45, fb45, fc45⟩ := hc
        refine gg_goto (tgt := 296) dX10_derive_177 (by decide) ?_
        refine gg_vretv dX10_derive_296 rfl ⟨rfl, rfl⟩ ?_
        refine ⟨I45, J45, rfl, ?_, fun p h1 h2 => (fa45 p h1 h2).trans (rfl), fun q h1 h2 => (fb45 q h1 h2).trans (rfl), fun p h1 => (fc45 p h1).trans (rfl)⟩
        rw [gDv0_is n nm K N Z i hi]
        unfold gdrF
        simp only [hk]
        exact m45
    · have h200 : 200 < B.length := by rcases hov with h | h <;> omega
      refine gg_vretv dX10_derive_7 rfl ⟨rfl, rfl⟩ ?_
      exact ⟨I, J, rfl, gMx_ext hx h200, fun p h1 h2 => rfl, fun q h1 h2 => rfl, fun p h1 => rfl⟩

