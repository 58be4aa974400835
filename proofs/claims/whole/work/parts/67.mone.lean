/-! the reference: one -/
set_option maxRecDepth 10000 in
theorem c_X10_opens_5 {l : Launch} {Γ : gC} {ad : Nat → Nat} {I : Nat → Nat → Int} {J : Nat → Nat → Int64} {d : Nat} (h15 : I 145 15 = 5) : gKi l Γ gm_X10_opens d [.ref (gad (gSS ad) 145)] (gSS ad, I, J) (fun e μ => μ = (gSS ad, gu I 145 16 1, J) ∧ e = 0) := by
  refine gKi_of gk_X10_opens.1 (Nat.le_of_ble_eq_true rfl) ?_
  show gG l Γ gm_X10_opens (d, 0, 0, 0, 0) 0 [(0, .ref (gad (gSS ad) 145))] [] _ _
  refine gg_aload_n dX10_opens_0 0 rfl ?_
  refine gg_getI rfl gf_RX10_171 dX10_opens_1 sh_145 pl_145 (by decide) (by decide) ?_
  refine gg_toI (b := 5) h15 ?_
  refine gg_iconst dX10_opens_4 ?_
  refine gg_icmp_ne_f (tgt := 13) dX10_opens_5 (by decide) (by decide) (by decide) ?_
  refine gg_aload_n dX10_opens_8 0 rfl ?_
  refine gg_iconst dX10_opens_9 ?_
  refine gg_putI rfl gf_RX10_120 dX10_opens_10 sh_145 pl_145 (by decide) (by decide) (by decide) gfit_1 ?_
  refine gg_aload_n dX10_opens_13 0 rfl ?_
  refine gg_getI rfl gf_RX10_120 dX10_opens_14 sh_145 pl_145 (by decide) (by decide) ?_
  refine gg_toI (b := 1) gu_s ?_
  refine gg_if_eq_f (tgt := 22) dX10_opens_17 (by decide) (by decide) (by decide) ?_
  refine gg_iconst dX10_opens_20 ?_
  refine gg_iretz dX10_opens_21 rfl (by decide) ⟨rfl, rfl⟩ ?_
  exact ⟨rfl, rfl⟩

set_option maxRecDepth 10000 in
theorem c_X10_opens_k {l : Launch} {Γ : gC} {ad : Nat → Nat} {I : Nat → Nat → Int} {J : Nat → Nat → Int64} {d : Nat} {T : Nat → Int} {n : Nat} {q : Nat} {k : Int} (h15 : I 145 15 = k) (hk : 0 ≤ k ∧ k < 5) (hT : gTq I T n) (hR : gRq I T n q) (h1 : gtC T n q ≠ 1) (hq : q ≤ n) (hd : 5 ≤ d) : gKi l Γ gm_X10_opens d [.ref (gad (gSS ad) 145)] (gSS ad, I, J) (fun e μ => ∃ I1, μ = (gSS ad, I1, J) ∧ gKm I J I1 J ∧ (∀ B, gMd I J B → gMd I1 J B) ∧ gRq I1 T n (gtE T n q) ∧ I1 145 15 = k + 1 ∧ e = 1) := by
  refine gKi_of gk_X10_opens.1 (Nat.le_of_ble_eq_true rfl) ?_
  show gG l Γ gm_X10_opens (d, 0, 0, 0, 0) 0 [(0, .ref (gad (gSS ad) 145))] [] _ _
  refine gg_aload_n dX10_opens_0 0 rfl ?_
  refine gg_getI rfl gf_RX10_171 dX10_opens_1 sh_145 pl_145 (by decide) (by decide) ?_
  refine gg_toI (b := k) h15 ?_
  refine gg_iconst dX10_opens_4 ?_
  refine gg_icmp_ne_t (tgt := 13) dX10_opens_5 (by decide) (by omega) (by omega) ?_
  refine gg_aload_n dX10_opens_13 0 rfl ?_
  refine gg_getI rfl gf_RX10_120 dX10_opens_14 sh_145 pl_145 (by decide) (by decide) ?_
  refine gg_toI (b := 0) (hR.2.2.1 h1).1 ?_
  refine gg_if_eq_t (tgt := 22) dX10_opens_17 (by decide) (by decide) (by decide) ?_
  refine gg_aload_n dX10_opens_22 0 rfl ?_
  refine gg_dup dX10_opens_23 rfl ?_
  refine gg_getI rfl gf_RX10_171 dX10_opens_24 sh_145 pl_145 (by decide) (by decide) ?_
  refine gg_toI (b := k) h15 ?_
  refine gg_iconst dX10_opens_27 ?_
  refine gg_iadd dX10_opens_28 ?_
  refine gg_putI rfl gf_RX10_171 dX10_opens_29 sh_145 pl_145 (by decide) (by decide) (by decide) (gfit_i _) ?_
  refine gg_memI (fun I2 hI2 => ?_)
  have hk2 : gKm I J I2 J := by rw [hI2]; exact gKm_15
  have hT2 := gTq_k hT hk2
  have hR2 : gRq I2 T n q := by rw [hI2]; exact gRq_15 hR
  have hE := gtE_le T hq
  refine gg_aload_n dX10_opens_32 0 rfl ?_
  refine gg_callVv (own := RX10) (yt := gm_X10_next) rfl gl_RX10_148 gk_X10_next gr_X10_next dX10_opens_33 (c_X10_next (d := d - 1) (q := gtE T n q) hT2 (hR2.2.2.1 h1).2 (hR2.2.2.1 h1).1 (by omega) (by omega)) sh_145 pl_145 (by decide) rfl rfl rfl (Nat.le_of_ble_eq_true rfl) (by show _ ≤ d; omega) ⟨Nat.le_refl _, Nat.le_refl _⟩ (fun μ' hc => ?_)
  obtain ⟨I3, rfl, hF3, hR3⟩ := hc
  refine gg_iconst dX10_opens_36 ?_
  refine gg_iretz dX10_opens_37 rfl (by decide) ⟨rfl, rfl⟩ ?_
  exact ⟨I3, rfl, gKm_t hk2 (gKm_45 hF3), fun B hB => gMd_f (by rw [hI2]; exact gMd_15 hB) hF3, hR3, (hF3.2 15 (by omega) (by omega) (by omega) (by omega) (by omega)).trans (by rw [hI2, gu_s]), rfl⟩

set_option maxRecDepth 10000 in
theorem c_X10_one_3 {l : Launch} {Γ : gC} {ad : Nat → Nat} {I : Nat → Nat → Int} {J : Nat → Nat → Int64} {d : Nat} {T : Nat → Int} {n : Nat} {op : Int} {B : gLn} {q : Nat} (hd : 6 ≤ d) (hT : gTq I T n) (hR : gRq I T n q) (hM : gMd I J B) (h15 : I 145 15 = op) (hq : q ≤ n) (hl : 2 * B.length ≤ 3 * q) (hC : gtC T n q = 3) : gKv l Γ gm_X10_one d [.ref (gad (gSS ad) 145)] (gSS ad, I, J) (fun μ => ∃ I1 J1, μ = (gSS ad, I1, J1) ∧ gKm I J I1 J1 ∧ gQs I1 J1 B op T n (.inr ([(0, gi2l (gtV T n q))], gtE T n q))) := by
  refine gKv_of gk_X10_one.1 (Nat.le_of_ble_eq_true rfl) ?_
  show gG l Γ gm_X10_one (d, 0, 0, 0, 0) 0 [(0, .ref (gad (gSS ad) 145))] [] _ _
  have hn := hT.1
  have hE := gtE_le T hq
  refine gg_aload_n dX10_one_0 0 rfl ?_
  refine gg_getI rfl gf_RX10_120 dX10_one_1 sh_145 pl_145 (by decide) (by decide) ?_
  refine gg_toI (b := 0) (hR.2.2.1 (by omega)).1 ?_
  refine gg_if_eq_t (tgt := 8) dX10_one_4 (by decide) (by decide) (by decide) ?_
  refine gg_aload_n dX10_one_8 0 rfl ?_
  refine gg_getI rfl gf_RX10_132 dX10_one_9 sh_145 pl_145 (by decide) (by decide) ?_
  refine gg_toI (b := 2) (hR.2.2.2.2.2.1 hC).1 ?_
  refine gg_iconst dX10_one_12 ?_
  refine gg_icmp_eq_f (tgt := 24) dX10_one_13 (by decide) (by decide) (by decide) ?_
  refine gg_aload_n dX10_one_16 0 rfl ?_
  refine gg_getI rfl gf_RX10_132 dX10_one_17 sh_145 pl_145 (by decide) (by decide) ?_
  refine gg_toI (b := 2) (hR.2.2.2.2.2.1 hC).1 ?_
  refine gg_iconst dX10_one_20 ?_
  refine gg_icmp_ne_f (tgt := 51) dX10_one_21 (by decide) (by decide) (by decide) ?_
  refine gg_aload_n dX10_one_24 0 rfl ?_
  refine gg_aload_n dX10_one_25 0 rfl ?_
  refine gg_getI rfl gf_RX10_132 dX10_one_26 sh_145 pl_145 (by decide) (by decide) ?_
  refine gg_toI (b := 2) (hR.2.2.2.2.2.1 hC).1 ?_
  refine gg_iconst dX10_one_29 ?_
  refine gg_icmp_ne_t (tgt := 37) dX10_one_30 (by decide) (by decide) (by decide) ?_
  refine gg_iconst dX10_one_37 ?_
  refine gg_aload_n dX10_one_38 0 rfl ?_
  refine gg_getI rfl gf_RX10_135 dX10_one_39 sh_145 pl_145 (by decide) (by decide) ?_
  refine gg_toI (b := (gtV T n q)) (hR.2.2.2.2.2.1 hC).2 ?_
  refine gg_i2l dX10_one_42 ?_
  refine gg_callVv (own := RX10) (yt := gm_X10_put) rfl gl_RX10_102 gk_X10_put gr_X10_put dX10_one_43 (c_X10_put_a (d := d - 1) (k := 0) (x := gi2l (gtV T n q)) hM (by omega)) sh_145 pl_145 (by decide) rfl rfl rfl (Nat.le_of_ble_eq_true rfl) (by show _ ≤ d; omega) ⟨Nat.le_refl _, Nat.le_refl _⟩ (fun μ' hc => ?_)
  obtain ⟨I6, J6, rfl, hX6, f6a, f6b, f6c⟩ := hc
  have hM6 := gMx_d hX6 (by simp only [List.length_append, List.length_cons, List.length_nil]; omega)
  have hkk6 := gKm_p f6a f6b f6c
  have hT6 := gTq_k hT hkk6
  have hR6 := gRq_p hR f6b
  have h156 := (f6b 15 (by omega) (by omega)).trans h15
  have hK6 := gKm_t (gKm_r I J) hkk6
  refine gg_aload_n dX10_one_46 0 rfl ?_
  refine gg_callVv (own := RX10) (yt := gm_X10_next) rfl gl_RX10_148 gk_X10_next gr_X10_next dX10_one_47 (c_X10_next (d := d - 1) (q := gtE T n q) hT6 (hR6.2.2.1 (by omega)).2 (hR6.2.2.1 (by omega)).1 (by omega) (by omega)) sh_145 pl_145 (by decide) rfl rfl rfl (Nat.le_of_ble_eq_true rfl) (by show _ ≤ d; omega) ⟨Nat.le_refl _, Nat.le_refl _⟩ (fun μ' hc => ?_)
  obtain ⟨I7, rfl, hF7, hR7⟩ := hc
  refine gg_vretv dX10_one_50 rfl ⟨rfl, rfl⟩ ?_
  exact ⟨I7, J6, rfl, gKm_t hK6 (gKm_45 hF7), gMd_f hM6 hF7, hR7, (hF7.2 15 (by omega) (by omega) (by omega) (by omega) (by omega)).trans h156⟩

set_option maxRecDepth 10000 in
theorem c_X10_one_2 {l : Launch} {Γ : gC} {ad : Nat → Nat} {I : Nat → Nat → Int} {J : Nat → Nat → Int64} {d : Nat} {T : Nat → Int} {n : Nat} {op : Int} {B : gLn} {q : Nat} (hd : 6 ≤ d) (hT : gTq I T n) (hR : gRq I T n q) (hM : gMd I J B) (h15 : I 145 15 = op) (hq : q ≤ n) (hl : 2 * B.length ≤ 3 * q) (hC : gtC T n q = 2) : gKv l Γ gm_X10_one d [.ref (gad (gSS ad) 145)] (gSS ad, I, J) (fun μ => ∃ I1 J1, μ = (gSS ad, I1, J1) ∧ gKm I J I1 J1 ∧ gQs I1 J1 B op T n (.inr ([(1, gi2l (gtV T n q))], gtE T n q))) := by
  refine gKv_of gk_X10_one.1 (Nat.le_of_ble_eq_true rfl) ?_
  show gG l Γ gm_X10_one (d, 0, 0, 0, 0) 0 [(0, .ref (gad (gSS ad) 145))] [] _ _
  have hn := hT.1
  have hE := gtE_le T hq
  refine gg_aload_n dX10_one_0 0 rfl ?_
  refine gg_getI rfl gf_RX10_120 dX10_one_1 sh_145 pl_145 (by decide) (by decide) ?_
  refine gg_toI (b := 0) (hR.2.2.1 (by omega)).1 ?_
  refine gg_if_eq_t (tgt := 8) dX10_one_4 (by decide) (by decide) (by decide) ?_
  refine gg_aload_n dX10_one_8 0 rfl ?_
  refine gg_getI rfl gf_RX10_132 dX10_one_9 sh_145 pl_145 (by decide) (by decide) ?_
  refine gg_toI (b := 1) (hR.2.2.2.2.1 hC).1 ?_
  refine gg_iconst dX10_one_12 ?_
  refine gg_icmp_eq_t (tgt := 24) dX10_one_13 (by decide) (by decide) (by decide) ?_
  refine gg_aload_n dX10_one_24 0 rfl ?_
  refine gg_aload_n dX10_one_25 0 rfl ?_
  refine gg_getI rfl gf_RX10_132 dX10_one_26 sh_145 pl_145 (by decide) (by decide) ?_
  refine gg_toI (b := 1) (hR.2.2.2.2.1 hC).1 ?_
  refine gg_iconst dX10_one_29 ?_
  refine gg_icmp_ne_f (tgt := 37) dX10_one_30 (by decide) (by decide) (by decide) ?_
  refine gg_iconst dX10_one_33 ?_
  refine gg_goto (tgt := 38) dX10_one_34 (by decide) ?_
  refine gg_aload_n dX10_one_38 0 rfl ?_
  refine gg_getI rfl gf_RX10_135 dX10_one_39 sh_145 pl_145 (by decide) (by decide) ?_
  refine gg_toI (b := (gtV T n q)) (hR.2.2.2.2.1 hC).2 ?_
  refine gg_i2l dX10_one_42 ?_
  refine gg_callVv (own := RX10) (yt := gm_X10_put) rfl gl_RX10_102 gk_X10_put gr_X10_put dX10_one_43 (c_X10_put_a (d := d - 1) (k := 1) (x := gi2l (gtV T n q)) hM (by omega)) sh_145 pl_145 (by decide) rfl rfl rfl (Nat.le_of_ble_eq_true rfl) (by show _ ≤ d; omega) ⟨Nat.le_refl _, Nat.le_refl _⟩ (fun μ' hc => ?_)
  obtain ⟨I6, J6, rfl, hX6, f6a, f6b, f6c⟩ := hc
  have hM6 := gMx_d hX6 (by simp only [List.length_append, List.length_cons, List.length_nil]; omega)
  have hkk6 := gKm_p f6a f6b f6c
  have hT6 := gTq_k hT hkk6
  have hR6 := gRq_p hR f6b
  have h156 := (f6b 15 (by omega) (by omega)).trans h15
  have hK6 := gKm_t (gKm_r I J) hkk6
  refine gg_aload_n dX10_one_46 0 rfl ?_
  refine gg_callVv (own := RX10) (yt := gm_X10_next) rfl gl_RX10_148 gk_X10_next gr_X10_next dX10_one_47 (c_X10_next (d := d - 1) (q := gtE T n q) hT6 (hR6.2.2.1 (by omega)).2 (hR6.2.2.1 (by omega)).1 (by omega) (by omega)) sh_145 pl_145 (by decide) rfl rfl rfl (Nat.le_of_ble_eq_true rfl) (by show _ ≤ d; omega) ⟨Nat.le_refl _, Nat.le_refl _⟩ (fun μ' hc => ?_)
  obtain ⟨I7, rfl, hF7, hR7⟩ := hc
  refine gg_vretv dX10_one_50 rfl ⟨rfl, rfl⟩ ?_
  exact ⟨I7, J6, rfl, gKm_t hK6 (gKm_45 hF7), gMd_f hM6 hF7, hR7, (hF7.2 15 (by omega) (by omega) (by omega) (by omega) (by omega)).trans h156⟩

set_option maxRecDepth 10000 in
theorem c_X10_one_o {l : Launch} {Γ : gC} {ad : Nat → Nat} {I : Nat → Nat → Int} {J : Nat → Nat → Int64} {d : Nat} {T : Nat → Int} {n : Nat} {op : Int} {B : gLn} {q : Nat} (hd : 6 ≤ d) (hT : gTq I T n) (hR : gRq I T n q) (hM : gMd I J B) (h15 : I 145 15 = op) (hq : q ≤ n) (hl : 2 * B.length ≤ 3 * q) (h1 : gtC T n q ≠ 1) (h2 : gtC T n q ≠ 2) (h3 : gtC T n q ≠ 3) (h40 : gtC T n q ≠ 40) (h45 : gtC T n q ≠ 45) (h91 : gtC T n q ≠ 91) : gKv l Γ gm_X10_one d [.ref (gad (gSS ad) 145)] (gSS ad, I, J) (fun μ => ∃ I1 J1, μ = (gSS ad, I1, J1) ∧ gKm I J I1 J1 ∧ gQs I1 J1 B op T n (.inl (gtP T n q))) := by
  refine gKv_of gk_X10_one.1 (Nat.le_of_ble_eq_true rfl) ?_
  show gG l Γ gm_X10_one (d, 0, 0, 0, 0) 0 [(0, .ref (gad (gSS ad) 145))] [] _ _
  have hn := hT.1
  have hE := gtE_le T hq
  refine gg_aload_n dX10_one_0 0 rfl ?_
  refine gg_getI rfl gf_RX10_120 dX10_one_1 sh_145 pl_145 (by decide) (by decide) ?_
  refine gg_toI (b := 0) (hR.2.2.1 (by omega)).1 ?_
  refine gg_if_eq_t (tgt := 8) dX10_one_4 (by decide) (by decide) (by decide) ?_
  refine gg_aload_n dX10_one_8 0 rfl ?_
  refine gg_getI rfl gf_RX10_132 dX10_one_9 sh_145 pl_145 (by decide) (by decide) ?_
  obtain ⟨y, hy, hyy⟩ := gRq_t hR (by omega)
  refine gg_toI (b := y) hy ?_
  refine gg_iconst dX10_one_12 ?_
  refine gg_icmp_eq_f (tgt := 24) dX10_one_13 (by decide) (by omega) (by omega) ?_
  refine gg_aload_n dX10_one_16 0 rfl ?_
  refine gg_getI rfl gf_RX10_132 dX10_one_17 sh_145 pl_145 (by decide) (by decide) ?_
  refine gg_toI (b := y) hy ?_
  refine gg_iconst dX10_one_20 ?_
  refine gg_icmp_ne_t (tgt := 51) dX10_one_21 (by decide) (by omega) (by omega) ?_
  refine gg_aload_n dX10_one_51 0 rfl ?_
  refine gg_bipush dX10_one_52 (by decide) ?_
  refine gg_callVi (own := RX10) (yt := gm_X10_isSign) rfl gl_RX10_145 gk_X10_isSign gr_X10_isSign dX10_one_54 (c_X10_isSign (d := d - 1) (c := 45) hR (by omega)) sh_145 pl_145 (by decide) rfl rfl rfl (Nat.le_of_ble_eq_true rfl) (by show _ ≤ d; omega) ⟨Nat.le_refl _, Nat.le_refl _⟩ (fun e1 μ' hc => ?_)
  obtain ⟨rfl, ⟨rfl, hs45⟩ | ⟨rfl, hs45⟩⟩ := hc
  · omega
  refine gg_if_ne_f (tgt := 84) dX10_one_57 (by decide) (by decide) (by decide) ?_
  refine gg_aload_n dX10_one_60 0 rfl ?_
  refine gg_bipush dX10_one_61 (by decide) ?_
  refine gg_callVi (own := RX10) (yt := gm_X10_isSign) rfl gl_RX10_145 gk_X10_isSign gr_X10_isSign dX10_one_63 (c_X10_isSign (d := d - 1) (c := 40) hR (by omega)) sh_145 pl_145 (by decide) rfl rfl rfl (Nat.le_of_ble_eq_true rfl) (by show _ ≤ d; omega) ⟨Nat.le_refl _, Nat.le_refl _⟩ (fun e2 μ' hc => ?_)
  obtain ⟨rfl, ⟨rfl, hs40⟩ | ⟨rfl, hs40⟩⟩ := hc
  · omega
  refine gg_if_ne_f (tgt := 84) dX10_one_66 (by decide) (by decide) (by decide) ?_
  refine gg_aload_n dX10_one_69 0 rfl ?_
  refine gg_bipush dX10_one_70 (by decide) ?_
  refine gg_callVi (own := RX10) (yt := gm_X10_isSign) rfl gl_RX10_145 gk_X10_isSign gr_X10_isSign dX10_one_72 (c_X10_isSign (d := d - 1) (c := 91) hR (by omega)) sh_145 pl_145 (by decide) rfl rfl rfl (Nat.le_of_ble_eq_true rfl) (by show _ ≤ d; omega) ⟨Nat.le_refl _, Nat.le_refl _⟩ (fun e3 μ' hc => ?_)
  obtain ⟨rfl, ⟨rfl, hs91⟩ | ⟨rfl, hs91⟩⟩ := hc
  · omega
  refine gg_if_ne_f (tgt := 84) dX10_one_75 (by decide) (by decide) (by decide) ?_
  refine gg_aload_n dX10_one_78 0 rfl ?_
  refine gg_iconst dX10_one_79 ?_
  refine gg_putI rfl gf_RX10_120 dX10_one_80 sh_145 pl_145 (by decide) (by decide) (by decide) gfit_1 ?_
  refine gg_vretv dX10_one_83 rfl ⟨rfl, rfl⟩ ?_
  exact ⟨_, J, rfl, gKm_45 (gF45_u (by omega)), gu_s, (gu_n (by omega)).trans hR.1⟩

set_option maxRecDepth 10000 in
theorem c_X10_one_wx {l : Launch} {Γ : gC} {ad : Nat → Nat} {I : Nat → Nat → Int} {J : Nat → Nat → Int64} {d : Nat} {T : Nat → Int} {n : Nat} {op : Int} {B : gLn} {q : Nat} (hd : 6 ≤ d) (hT : gTq I T n) (hR : gRq I T n q) (hM : gMd I J B) (h15 : I 145 15 = op) (hq : q ≤ n) (hl : 2 * B.length ≤ 3 * q) (h1 : gtC T n q = 1) : gKv l Γ gm_X10_one d [.ref (gad (gSS ad) 145)] (gSS ad, I, J) (fun μ => ∃ I1 J1, μ = (gSS ad, I1, J1) ∧ gKm I J I1 J1 ∧ gQs I1 J1 B op T n (.inl (gtP T n q))) := by
  refine gKv_of gk_X10_one.1 (Nat.le_of_ble_eq_true rfl) ?_
  show gG l Γ gm_X10_one (d, 0, 0, 0, 0) 0 [(0, .ref (gad (gSS ad) 145))] [] _ _
  have hn := hT.1
  have hE := gtE_le T hq
  refine gg_aload_n dX10_one_0 0 rfl ?_
  refine gg_getI rfl gf_RX10_120 dX10_one_1 sh_145 pl_145 (by decide) (by decide) ?_
  refine gg_toI (b := 1) (hR.2.1 h1) ?_
  refine gg_if_eq_f (tgt := 8) dX10_one_4 (by decide) (by decide) (by decide) ?_
  refine gg_vretv dX10_one_7 rfl ⟨rfl, rfl⟩ ?_
  exact ⟨I, J, rfl, gKm_r I J, hR.2.1 h1, hR.1⟩

set_option maxRecDepth 10000 in
theorem c_X10_one_40x {l : Launch} {Γ : gC} {ad : Nat → Nat} {I : Nat → Nat → Int} {J : Nat → Nat → Int64} {d : Nat} {T : Nat → Int} {n : Nat} {op : Int} {B : gLn} {q : Nat} (hd : 6 ≤ d) (hT : gTq I T n) (hR : gRq I T n q) (hM : gMd I J B) (h15 : I 145 15 = op) (hq : q ≤ n) (hl : 2 * B.length ≤ 3 * q) (hC : gtC T n q = 40) (h5 : op = 5) : gKv l Γ gm_X10_one d [.ref (gad (gSS ad) 145)] (gSS ad, I, J) (fun μ => ∃ I1 J1, μ = (gSS ad, I1, J1) ∧ gKm I J I1 J1 ∧ gQs I1 J1 B op T n (.inl (gtP T n q))) := by
  refine gKv_of gk_X10_one.1 (Nat.le_of_ble_eq_true rfl) ?_
  show gG l Γ gm_X10_one (d, 0, 0, 0, 0) 0 [(0, .ref (gad (gSS ad) 145))] [] _ _
  have hn := hT.1
  have hE := gtE_le T hq
  refine gg_aload_n dX10_one_0 0 rfl ?_
  refine gg_getI rfl gf_RX10_120 dX10_one_1 sh_145 pl_145 (by decide) (by decide) ?_
  refine gg_toI (b := 0) (hR.2.2.1 (by omega)).1 ?_
  refine gg_if_eq_t (tgt := 8) dX10_one_4 (by decide) (by decide) (by decide) ?_
  refine gg_aload_n dX10_one_8 0 rfl ?_
  refine gg_getI rfl gf_RX10_132 dX10_one_9 sh_145 pl_145 (by decide) (by decide) ?_
  obtain ⟨y, hy, hyy⟩ := gRq_t hR (by omega)
  refine gg_toI (b := y) hy ?_
  refine gg_iconst dX10_one_12 ?_
  refine gg_icmp_eq_f (tgt := 24) dX10_one_13 (by decide) (by omega) (by omega) ?_
  refine gg_aload_n dX10_one_16 0 rfl ?_
  refine gg_getI rfl gf_RX10_132 dX10_one_17 sh_145 pl_145 (by decide) (by decide) ?_
  refine gg_toI (b := y) hy ?_
  refine gg_iconst dX10_one_20 ?_
  refine gg_icmp_ne_t (tgt := 51) dX10_one_21 (by decide) (by omega) (by omega) ?_
  refine gg_aload_n dX10_one_51 0 rfl ?_
  refine gg_bipush dX10_one_52 (by decide) ?_
  refine gg_callVi (own := RX10) (yt := gm_X10_isSign) rfl gl_RX10_145 gk_X10_isSign gr_X10_isSign dX10_one_54 (c_X10_isSign (d := d - 1) (c := 45) hR (by omega)) sh_145 pl_145 (by decide) rfl rfl rfl (Nat.le_of_ble_eq_true rfl) (by show _ ≤ d; omega) ⟨Nat.le_refl _, Nat.le_refl _⟩ (fun e1 μ' hc => ?_)
  obtain ⟨rfl, ⟨rfl, hs45⟩ | ⟨rfl, hs45⟩⟩ := hc
  · omega
  refine gg_if_ne_f (tgt := 84) dX10_one_57 (by decide) (by decide) (by decide) ?_
  refine gg_aload_n dX10_one_60 0 rfl ?_
  refine gg_bipush dX10_one_61 (by decide) ?_
  refine gg_callVi (own := RX10) (yt := gm_X10_isSign) rfl gl_RX10_145 gk_X10_isSign gr_X10_isSign dX10_one_63 (c_X10_isSign (d := d - 1) (c := 40) hR (by omega)) sh_145 pl_145 (by decide) rfl rfl rfl (Nat.le_of_ble_eq_true rfl) (by show _ ≤ d; omega) ⟨Nat.le_refl _, Nat.le_refl _⟩ (fun e2 μ' hc => ?_)
  obtain ⟨rfl, ⟨rfl, hs40⟩ | ⟨rfl, hs40⟩⟩ := hc
  rotate_left
  · omega
  refine gg_if_ne_t (tgt := 84) dX10_one_66 (by decide) (by decide) (by decide) ?_
  refine gg_aload_n dX10_one_84 0 rfl ?_
  refine gg_getI rfl gf_RX10_135 dX10_one_85 sh_145 pl_145 (by decide) (by decide) ?_
  refine gg_toI (b := 40) (((hR.2.2.2.2.2.2 (by omega)).2).trans hC) ?_
  refine gg_istore_n (ls' := [(1, .int (iv 40)), (0, .ref (gad (gSS ad) 145))]) dX10_one_88 rfl (by decide) rfl ?_
  refine gg_aload_n dX10_one_89 1 rfl ?_
  refine gg_callVi (own := RX10) (yt := gm_X10_opens) rfl gl_RX10_174 gk_X10_opens gr_X10_opens dX10_one_90 (c_X10_opens_5 (d := d - 1) (h15.trans h5)) sh_145 pl_145 (by decide) rfl rfl rfl (Nat.le_of_ble_eq_true rfl) (by show _ ≤ d; omega) ⟨Nat.le_refl _, Nat.le_refl _⟩ (fun e3 μ' hc => ?_)
  obtain ⟨rfl, rfl⟩ := hc
  refine gg_if_ne_f (tgt := 97) dX10_one_93 (by decide) (by decide) (by decide) ?_
  refine gg_vretv dX10_one_96 rfl ⟨rfl, rfl⟩ ?_
  exact ⟨_, J, rfl, gKm_45 (gF45_u (by omega)), gu_s, (gu_n (by omega)).trans hR.1⟩

set_option maxRecDepth 10000 in
theorem c_X10_one_45x {l : Launch} {Γ : gC} {ad : Nat → Nat} {I : Nat → Nat → Int} {J : Nat → Nat → Int64} {d : Nat} {T : Nat → Int} {n : Nat} {op : Int} {B : gLn} {q : Nat} (hd : 6 ≤ d) (hT : gTq I T n) (hR : gRq I T n q) (hM : gMd I J B) (h15 : I 145 15 = op) (hq : q ≤ n) (hl : 2 * B.length ≤ 3 * q) (hC : gtC T n q = 45) (h5 : op = 5) : gKv l Γ gm_X10_one d [.ref (gad (gSS ad) 145)] (gSS ad, I, J) (fun μ => ∃ I1 J1, μ = (gSS ad, I1, J1) ∧ gKm I J I1 J1 ∧ gQs I1 J1 B op T n (.inl (gtP T n q))) := by
  refine gKv_of gk_X10_one.1 (Nat.le_of_ble_eq_true rfl) ?_
  show gG l Γ gm_X10_one (d, 0, 0, 0, 0) 0 [(0, .ref (gad (gSS ad) 145))] [] _ _
  have hn := hT.1
  have hE := gtE_le T hq
  refine gg_aload_n dX10_one_0 0 rfl ?_
  refine gg_getI rfl gf_RX10_120 dX10_one_1 sh_145 pl_145 (by decide) (by decide) ?_
  refine gg_toI (b := 0) (hR.2.2.1 (by omega)).1 ?_
  refine gg_if_eq_t (tgt := 8) dX10_one_4 (by decide) (by decide) (by decide) ?_
  refine gg_aload_n dX10_one_8 0 rfl ?_
  refine gg_getI rfl gf_RX10_132 dX10_one_9 sh_145 pl_145 (by decide) (by decide) ?_
  obtain ⟨y, hy, hyy⟩ := gRq_t hR (by omega)
  refine gg_toI (b := y) hy ?_
  refine gg_iconst dX10_one_12 ?_
  refine gg_icmp_eq_f (tgt := 24) dX10_one_13 (by decide) (by omega) (by omega) ?_
  refine gg_aload_n dX10_one_16 0 rfl ?_
  refine gg_getI rfl gf_RX10_132 dX10_one_17 sh_145 pl_145 (by decide) (by decide) ?_
  refine gg_toI (b := y) hy ?_
  refine gg_iconst dX10_one_20 ?_
  refine gg_icmp_ne_t (tgt := 51) dX10_one_21 (by decide) (by omega) (by omega) ?_
  refine gg_aload_n dX10_one_51 0 rfl ?_
  refine gg_bipush dX10_one_52 (by decide) ?_
  refine gg_callVi (own := RX10) (yt := gm_X10_isSign) rfl gl_RX10_145 gk_X10_isSign gr_X10_isSign dX10_one_54 (c_X10_isSign (d := d - 1) (c := 45) hR (by omega)) sh_145 pl_145 (by decide) rfl rfl rfl (Nat.le_of_ble_eq_true rfl) (by show _ ≤ d; omega) ⟨Nat.le_refl _, Nat.le_refl _⟩ (fun e1 μ' hc => ?_)
  obtain ⟨rfl, ⟨rfl, hs45⟩ | ⟨rfl, hs45⟩⟩ := hc
  rotate_left
  · omega
  refine gg_if_ne_t (tgt := 84) dX10_one_57 (by decide) (by decide) (by decide) ?_
  refine gg_aload_n dX10_one_84 0 rfl ?_
  refine gg_getI rfl gf_RX10_135 dX10_one_85 sh_145 pl_145 (by decide) (by decide) ?_
  refine gg_toI (b := 45) (((hR.2.2.2.2.2.2 (by omega)).2).trans hC) ?_
  refine gg_istore_n (ls' := [(1, .int (iv 45)), (0, .ref (gad (gSS ad) 145))]) dX10_one_88 rfl (by decide) rfl ?_
  refine gg_aload_n dX10_one_89 1 rfl ?_
  refine gg_callVi (own := RX10) (yt := gm_X10_opens) rfl gl_RX10_174 gk_X10_opens gr_X10_opens dX10_one_90 (c_X10_opens_5 (d := d - 1) (h15.trans h5)) sh_145 pl_145 (by decide) rfl rfl rfl (Nat.le_of_ble_eq_true rfl) (by show _ ≤ d; omega) ⟨Nat.le_refl _, Nat.le_refl _⟩ (fun e2 μ' hc => ?_)
  obtain ⟨rfl, rfl⟩ := hc
  refine gg_if_ne_f (tgt := 97) dX10_one_93 (by decide) (by decide) (by decide) ?_
  refine gg_vretv dX10_one_96 rfl ⟨rfl, rfl⟩ ?_
  exact ⟨_, J, rfl, gKm_45 (gF45_u (by omega)), gu_s, (gu_n (by omega)).trans hR.1⟩

set_option maxRecDepth 10000 in
theorem c_X10_one_91x {l : Launch} {Γ : gC} {ad : Nat → Nat} {I : Nat → Nat → Int} {J : Nat → Nat → Int64} {d : Nat} {T : Nat → Int} {n : Nat} {op : Int} {B : gLn} {q : Nat} (hd : 6 ≤ d) (hT : gTq I T n) (hR : gRq I T n q) (hM : gMd I J B) (h15 : I 145 15 = op) (hq : q ≤ n) (hl : 2 * B.length ≤ 3 * q) (hC : gtC T n q = 91) (h5 : op = 5) : gKv l Γ gm_X10_one d [.ref (gad (gSS ad) 145)] (gSS ad, I, J) (fun μ => ∃ I1 J1, μ = (gSS ad, I1, J1) ∧ gKm I J I1 J1 ∧ gQs I1 J1 B op T n (.inl (gtP T n q))) := by
  refine gKv_of gk_X10_one.1 (Nat.le_of_ble_eq_true rfl) ?_
  show gG l Γ gm_X10_one (d, 0, 0, 0, 0) 0 [(0, .ref (gad (gSS ad) 145))] [] _ _
  have hn := hT.1
  have hE := gtE_le T hq
  refine gg_aload_n dX10_one_0 0 rfl ?_
  refine gg_getI rfl gf_RX10_120 dX10_one_1 sh_145 pl_145 (by decide) (by decide) ?_
  refine gg_toI (b := 0) (hR.2.2.1 (by omega)).1 ?_
  refine gg_if_eq_t (tgt := 8) dX10_one_4 (by decide) (by decide) (by decide) ?_
  refine gg_aload_n dX10_one_8 0 rfl ?_
  refine gg_getI rfl gf_RX10_132 dX10_one_9 sh_145 pl_145 (by decide) (by decide) ?_
  obtain ⟨y, hy, hyy⟩ := gRq_t hR (by omega)
  refine gg_toI (b := y) hy ?_
  refine gg_iconst dX10_one_12 ?_
  refine gg_icmp_eq_f (tgt := 24) dX10_one_13 (by decide) (by omega) (by omega) ?_
  refine gg_aload_n dX10_one_16 0 rfl ?_
  refine gg_getI rfl gf_RX10_132 dX10_one_17 sh_145 pl_145 (by decide) (by decide) ?_
  refine gg_toI (b := y) hy ?_
  refine gg_iconst dX10_one_20 ?_
  refine gg_icmp_ne_t (tgt := 51) dX10_one_21 (by decide) (by omega) (by omega) ?_
  refine gg_aload_n dX10_one_51 0 rfl ?_
  refine gg_bipush dX10_one_52 (by decide) ?_
  refine gg_callVi (own := RX10) (yt := gm_X10_isSign) rfl gl_RX10_145 gk_X10_isSign gr_X10_isSign dX10_one_54 (c_X10_isSign (d := d - 1) (c := 45) hR (by omega)) sh_145 pl_145 (by decide) rfl rfl rfl (Nat.le_of_ble_eq_true rfl) (by show _ ≤ d; omega) ⟨Nat.le_refl _, Nat.le_refl _⟩ (fun e1 μ' hc => ?_)
  obtain ⟨rfl, ⟨rfl, hs45⟩ | ⟨rfl, hs45⟩⟩ := hc
  · omega
  refine gg_if_ne_f (tgt := 84) dX10_one_57 (by decide) (by decide) (by decide) ?_
  refine gg_aload_n dX10_one_60 0 rfl ?_
  refine gg_bipush dX10_one_61 (by decide) ?_
  refine gg_callVi (own := RX10) (yt := gm_X10_isSign) rfl gl_RX10_145 gk_X10_isSign gr_X10_isSign dX10_one_63 (c_X10_isSign (d := d - 1) (c := 40) hR (by omega)) sh_145 pl_145 (by decide) rfl rfl rfl (Nat.le_of_ble_eq_true rfl) (by show _ ≤ d; omega) ⟨Nat.le_refl _, Nat.le_refl _⟩ (fun e2 μ' hc => ?_)
  obtain ⟨rfl, ⟨rfl, hs40⟩ | ⟨rfl, hs40⟩⟩ := hc
  · omega
  refine gg_if_ne_f (tgt := 84) dX10_one_66 (by decide) (by decide) (by decide) ?_
  refine gg_aload_n dX10_one_69 0 rfl ?_
  refine gg_bipush dX10_one_70 (by decide) ?_
  refine gg_callVi (own := RX10) (yt := gm_X10_isSign) rfl gl_RX10_145 gk_X10_isSign gr_X10_isSign dX10_one_72 (c_X10_isSign (d := d - 1) (c := 91) hR (by omega)) sh_145 pl_145 (by decide) rfl rfl rfl (Nat.le_of_ble_eq_true rfl) (by show _ ≤ d; omega) ⟨Nat.le_refl _, Nat.le_refl _⟩ (fun e3 μ' hc => ?_)
  obtain ⟨rfl, ⟨rfl, hs91⟩ | ⟨rfl, hs91⟩⟩ := hc
  rotate_left
  · omega
  refine gg_if_ne_t (tgt := 84) dX10_one_75 (by decide) (by decide) (by decide) ?_
  refine gg_aload_n dX10_one_84 0 rfl ?_
  refine gg_getI rfl gf_RX10_135 dX10_one_85 sh_145 pl_145 (by decide) (by decide) ?_
  refine gg_toI (b := 91) (((hR.2.2.2.2.2.2 (by omega)).2).trans hC) ?_
  refine gg_istore_n (ls' := [(1, .int (iv 91)), (0, .ref (gad (gSS ad) 145))]) dX10_one_88 rfl (by decide) rfl ?_
  refine gg_aload_n dX10_one_89 1 rfl ?_
  refine gg_callVi (own := RX10) (yt := gm_X10_opens) rfl gl_RX10_174 gk_X10_opens gr_X10_opens dX10_one_90 (c_X10_opens_5 (d := d - 1) (h15.trans h5)) sh_145 pl_145 (by decide) rfl rfl rfl (Nat.le_of_ble_eq_true rfl) (by show _ ≤ d; omega) ⟨Nat.le_refl _, Nat.le_refl _⟩ (fun e4 μ' hc => ?_)
  obtain ⟨rfl, rfl⟩ := hc
  refine gg_if_ne_f (tgt := 97) dX10_one_93 (by decide) (by decide) (by decide) ?_
  refine gg_vretv dX10_one_96 rfl ⟨rfl, rfl⟩ ?_
  exact ⟨_, J, rfl, gKm_45 (gF45_u (by omega)), gu_s, (gu_n (by omega)).trans hR.1⟩

set_option maxRecDepth 10000 in
theorem c_X10_one_45 {l : Launch} {Γ : gC} {ad : Nat → Nat} {I : Nat → Nat → Int} {J : Nat → Nat → Int64} {d : Nat} {T : Nat → Int} {n : Nat} {op : Int} {B : gLn} {q : Nat} (hd : 6 ≤ d) (hT : gTq I T n) (hR : gRq I T n q) (hM : gMd I J B) (h15 : I 145 15 = op) (hq : q ≤ n) (hl : 2 * B.length ≤ 3 * q) {on : Nat → gRT} (hC : gtC T n q = 45) (hop : 0 ≤ op ∧ op < 5) (H : gCm l Γ ad gm_X10_one (d - 1) (op + 1) T n on) : gKv l Γ gm_X10_one d [.ref (gad (gSS ad) 145)] (gSS ad, I, J) (fun μ => ∃ I1 J1, μ = (gSS ad, I1, J1) ∧ gKm I J I1 J1 ∧ gQs I1 J1 B op T n (gNe T n on q)) := by
  refine gKv_of gk_X10_one.1 (Nat.le_of_ble_eq_true rfl) ?_
  show gG l Γ gm_X10_one (d, 0, 0, 0, 0) 0 [(0, .ref (gad (gSS ad) 145))] [] _ _
  have hn := hT.1
  have hE := gtE_le T hq
  refine gg_aload_n dX10_one_0 0 rfl ?_
  refine gg_getI rfl gf_RX10_120 dX10_one_1 sh_145 pl_145 (by decide) (by decide) ?_
  refine gg_toI (b := 0) (hR.2.2.1 (by omega)).1 ?_
  refine gg_if_eq_t (tgt := 8) dX10_one_4 (by decide) (by decide) (by decide) ?_
  refine gg_aload_n dX10_one_8 0 rfl ?_
  refine gg_getI rfl gf_RX10_132 dX10_one_9 sh_145 pl_145 (by decide) (by decide) ?_
  obtain ⟨y, hy, hyy⟩ := gRq_t hR (by omega)
  refine gg_toI (b := y) hy ?_
  refine gg_iconst dX10_one_12 ?_
  refine gg_icmp_eq_f (tgt := 24) dX10_one_13 (by decide) (by omega) (by omega) ?_
  refine gg_aload_n dX10_one_16 0 rfl ?_
  refine gg_getI rfl gf_RX10_132 dX10_one_17 sh_145 pl_145 (by decide) (by decide) ?_
  refine gg_toI (b := y) hy ?_
  refine gg_iconst dX10_one_20 ?_
  refine gg_icmp_ne_t (tgt := 51) dX10_one_21 (by decide) (by omega) (by omega) ?_
  refine gg_aload_n dX10_one_51 0 rfl ?_
  refine gg_bipush dX10_one_52 (by decide) ?_
  refine gg_callVi (own := RX10) (yt := gm_X10_isSign) rfl gl_RX10_145 gk_X10_isSign gr_X10_isSign dX10_one_54 (c_X10_isSign (d := d - 1) (c := 45) hR (by omega)) sh_145 pl_145 (by decide) rfl rfl rfl (Nat.le_of_ble_eq_true rfl) (by show _ ≤ d; omega) ⟨Nat.le_refl _, Nat.le_refl _⟩ (fun e1 μ' hc => ?_)
  obtain ⟨rfl, ⟨rfl, hs45⟩ | ⟨rfl, hs45⟩⟩ := hc
  rotate_left
  · omega
  refine gg_if_ne_t (tgt := 84) dX10_one_57 (by decide) (by decide) (by decide) ?_
  refine gg_aload_n dX10_one_84 0 rfl ?_
  refine gg_getI rfl gf_RX10_135 dX10_one_85 sh_145 pl_145 (by decide) (by decide) ?_
  refine gg_toI (b := 45) (((hR.2.2.2.2.2.2 (by omega)).2).trans hC) ?_
  refine gg_istore_n (ls' := [(1, .int (iv 45)), (0, .ref (gad (gSS ad) 145))]) dX10_one_88 rfl (by decide) rfl ?_
  refine gg_aload_n dX10_one_89 1 rfl ?_
  refine gg_callVi (own := RX10) (yt := gm_X10_opens) rfl gl_RX10_174 gk_X10_opens gr_X10_opens dX10_one_90 (c_X10_opens_k (d := d - 1) (k := op) h15 hop hT hR (by omega) hq (by omega)) sh_145 pl_145 (by decide) rfl rfl rfl (Nat.le_of_ble_eq_true rfl) (by show _ ≤ d; omega) ⟨Nat.le_refl _, Nat.le_refl _⟩ (fun e2 μ' hc => ?_)
  obtain ⟨I1, rfl, hK1, hB1, hR1, h151, rfl⟩ := hc
  have hM1 := hB1 B hM
  have hT1 := gTq_k hT hK1
  have hc0 := hE.2.2.2 (by omega)
  refine gg_if_ne_t (tgt := 97) dX10_one_93 (by decide) (by decide) (by decide) ?_
  refine gg_iload_n dX10_one_97 0 rfl ?_
  refine gg_bipush dX10_one_98 (by decide) ?_
  refine gg_icmp_ne_f (tgt := 124) dX10_one_100 (by decide) (by decide) (by decide) ?_
  refine gg_aload_n dX10_one_103 1 rfl ?_
  refine gg_iconst dX10_one_104 ?_
  refine gg_lconstv (x := 0) dX10_one_105 rfl ?_
  refine gg_callVv (own := RX10) (yt := gm_X10_put) rfl gl_RX10_102 gk_X10_put gr_X10_put dX10_one_106 (c_X10_put_a (d := d - 1) (k := 2) (x := 0) hM1 (by omega)) sh_145 pl_145 (by decide) rfl rfl rfl (Nat.le_of_ble_eq_true rfl) (by show _ ≤ d; omega) ⟨Nat.le_refl _, Nat.le_refl _⟩ (fun μ' hc => ?_)
  obtain ⟨I6, J6, rfl, hX6, f6a, f6b, f6c⟩ := hc
  have hM6 := gMx_d hX6 (by simp only [List.length_append, List.length_cons, List.length_nil]; omega)
  have hkk6 := gKm_p f6a f6b f6c
  have hT6 := gTq_k hT1 hkk6
  have hR6 := gRq_p hR1 f6b
  have h156 := (f6b 15 (by omega) (by omega)).trans h151
  have hK6 := gKm_t hK1 hkk6
  refine gg_aload_n dX10_one_109 1 rfl ?_
  refine gg_callVv (own := RX10) (yt := gm_X10_one) rfl gl_RX10_168 gk_X10_one gr_X10_one dX10_one_110 (H I6 J6 (B ++ [(2, 0)]) _ hT6 hR6 hM6 h156 (by omega) (by first | omega | (simp only [List.length_append, List.length_cons, List.length_nil]; omega))) sh_145 pl_145 (by decide) rfl rfl rfl (Nat.le_of_ble_eq_true rfl) (by show _ ≤ d; omega) ⟨Nat.le_refl _, Nat.le_refl _⟩ (fun μ' hc => ?_)
  obtain ⟨I9, J9, rfl, hK9, hs9⟩ := hc
  refine gg_aload_n dX10_one_113 1 rfl ?_
  refine gg_dup dX10_one_114 rfl ?_
  refine gg_getI rfl gf_RX10_171 dX10_one_115 sh_145 pl_145 (by decide) (by decide) ?_
  refine gg_iconst dX10_one_118 ?_
  refine gg_isub dX10_one_119 ?_
  refine gg_putI rfl gf_RX10_171 dX10_one_120 sh_145 pl_145 (by decide) (by decide) (by decide) (gfit_i _) ?_
  refine gg_vretv dX10_one_123 rfl ⟨rfl, rfl⟩ ?_
  cases hr9 : on (gtE T n q) with
  | inl p =>
    rw [hr9] at hs9
    obtain ⟨w1, w2⟩ : I9 145 16 = 1 ∧ I9 145 12 = (p : Int) := hs9
    refine ⟨_, J9, rfl, gKm_t hK6 (gKm_t hK9 gKm_15), ?_⟩
    unfold gNe
    rw [hr9, gBd_inl]
    exact ⟨(gu_n (by omega)).trans w1, (gu_n (by omega)).trans w2⟩
  | inr x =>
    obtain ⟨t9, p9⟩ := x
    rw [hr9] at hs9
    obtain ⟨hM9, hR9, h159⟩ : gMd I9 J9 (B ++ [(2, 0)] ++ t9) ∧ gRq I9 T n p9 ∧ I9 145 15 = op + 1 := hs9
    refine ⟨_, J9, rfl, gKm_t hK6 (gKm_t hK9 gKm_15), ?_⟩
    unfold gNe
    rw [hr9, gBd_inr]
    exact ⟨gMd_15 (by simpa using hM9), gRq_15 hR9, gu_s.trans (by omega)⟩

set_option maxRecDepth 10000 in
set_option maxRecDepth 10000 in
theorem n_X10_one_40 {l : Launch} {Γ : gC} {ad : Nat → Nat} {I : Nat → Nat → Int} {J : Nat → Nat → Int64} {d : Nat} (h16 : I 145 16 = 1) (hd : 1 ≤ d) : gG l Γ gm_X10_one (d, 0, 0, 0, 0) 141 [(1, .int (iv 40)), (0, .ref (gad (gSS ad) 145))] [] (gSS ad, I, J) (gDv (fun μ => μ = (gSS ad, gu I 145 16 1, J))) := by
  refine gg_iload_n dX10_one_141 0 rfl ?_
  refine gg_bipush dX10_one_142 (by decide) ?_
  refine gg_icmp_ne_f (tgt := 152) dX10_one_144 (by decide) (by decide) (by decide) ?_
  refine gg_bipush dX10_one_147 (by decide) ?_
  refine gg_goto (tgt := 154) dX10_one_149 (by decide) ?_
  refine gg_istore_n (ls' := [(2, .int (iv 41)), (1, .int (iv 40)), (0, .ref (gad (gSS ad) 145))]) dX10_one_154 rfl (by decide) rfl ?_
  refine gg_aload_n dX10_one_155 2 rfl ?_
  refine gg_iload_n dX10_one_156 0 rfl ?_
  refine gg_callVi (own := RX10) (yt := gm_X10_isSign) rfl gl_RX10_145 gk_X10_isSign gr_X10_isSign dX10_one_157 (c_X10_isSign_w (d := d - 1) h16) sh_145 pl_145 (by decide) rfl rfl rfl (Nat.le_of_ble_eq_true rfl) (by show _ ≤ d; omega) ⟨Nat.le_refl _, Nat.le_refl _⟩ (fun e1 μ' hc => ?_)
  obtain ⟨rfl, rfl⟩ := hc
  refine gg_if_eq_t (tgt := 180) dX10_one_160 (by decide) (by decide) (by decide) ?_
  refine gg_aload_n dX10_one_180 2 rfl ?_
  refine gg_iconst dX10_one_181 ?_
  refine gg_putI rfl gf_RX10_120 dX10_one_182 sh_145 pl_145 (by decide) (by decide) (by decide) gfit_1 ?_
  refine gg_vretv dX10_one_185 rfl ⟨rfl, rfl⟩ ?_
  exact rfl

set_option maxRecDepth 10000 in
set_option maxRecDepth 10000 in
theorem b_X10_one_40 {l : Launch} {Γ : gC} {ad : Nat → Nat} {I : Nat → Nat → Int} {J : Nat → Nat → Int64} {d : Nat} {T : Nat → Int} {n : Nat} {op : Int} {B t : gLn} {q : Nat} (hd : 6 ≤ d) (hT : gTq I T n) (hR : gRq I T n q) (hM : gMd I J (B ++ t)) (h15 : I 145 15 = op + 1) (hq : q ≤ n) : gG l Γ gm_X10_one (d, 0, 0, 0, 0) 141 [(1, .int (iv 40)), (0, .ref (gad (gSS ad) 145))] [] (gSS ad, I, J) (gDv (fun μ => ∃ I1 J1, μ = (gSS ad, I1, J1) ∧ gKm I J I1 J1 ∧ gQs I1 J1 B op T n (if gtC T n q = 41 then .inr (t, gtE T n q) else .inl (gtP T n q)))) := by
  refine gg_iload_n dX10_one_141 0 rfl ?_
  refine gg_bipush dX10_one_142 (by decide) ?_
  refine gg_icmp_ne_f (tgt := 152) dX10_one_144 (by decide) (by decide) (by decide) ?_
  refine gg_bipush dX10_one_147 (by decide) ?_
  refine gg_goto (tgt := 154) dX10_one_149 (by decide) ?_
  refine gg_istore_n (ls' := [(2, .int (iv 41)), (1, .int (iv 40)), (0, .ref (gad (gSS ad) 145))]) dX10_one_154 rfl (by decide) rfl ?_
  refine gg_aload_n dX10_one_155 2 rfl ?_
  refine gg_iload_n dX10_one_156 0 rfl ?_
  refine gg_callVi (own := RX10) (yt := gm_X10_isSign) rfl gl_RX10_145 gk_X10_isSign gr_X10_isSign dX10_one_157 (c_X10_isSign (d := d - 1) (c := 41) hR (by omega)) sh_145 pl_145 (by decide) rfl rfl rfl (Nat.le_of_ble_eq_true rfl) (by show _ ≤ d; omega) ⟨Nat.le_refl _, Nat.le_refl _⟩ (fun e1 μ' hc => ?_)
  obtain ⟨rfl, ⟨rfl, hc⟩ | ⟨rfl, hc⟩⟩ := hc
  · have hE := gtE_le T hq
    refine gg_if_eq_f (tgt := 180) dX10_one_160 (by decide) (by decide) (by decide) ?_
    refine gg_aload_n dX10_one_163 2 rfl ?_
    refine gg_dup dX10_one_164 rfl ?_
    refine gg_getI rfl gf_RX10_171 dX10_one_165 sh_145 pl_145 (by decide) (by decide) ?_
    refine gg_toI (b := (op + 1)) h15 ?_
    refine gg_iconst dX10_one_168 ?_
    refine gg_isub dX10_one_169 ?_
    refine gg_toI (b := op) (by omega) ?_
    refine gg_putI rfl gf_RX10_171 dX10_one_170 sh_145 pl_145 (by decide) (by decide) (by decide) (gfit_i _) ?_
    refine gg_memI (fun I2 hI2 => ?_)
    have hk2 : gKm I J I2 J := by rw [hI2]; exact gKm_15
    have hT2 := gTq_k hT hk2
    have hR2 : gRq I2 T n q := by rw [hI2]; exact gRq_15 hR
    have hM2 : gMd I2 J (B ++ t) := by rw [hI2]; exact gMd_15 hM
    refine gg_aload_n dX10_one_173 2 rfl ?_
    refine gg_callVv (own := RX10) (yt := gm_X10_next) rfl gl_RX10_148 gk_X10_next gr_X10_next dX10_one_174 (c_X10_next (d := d - 1) (q := gtE T n q) hT2 (hR2.2.2.1 (by omega)).2 (hR2.2.2.1 (by omega)).1 (by omega) (by omega)) sh_145 pl_145 (by decide) rfl rfl rfl (Nat.le_of_ble_eq_true rfl) (by show _ ≤ d; omega) ⟨Nat.le_refl _, Nat.le_refl _⟩ (fun μ' hc => ?_)
    obtain ⟨I3, rfl, hF3, hR3⟩ := hc
    refine gg_goto (tgt := 185) dX10_one_177 (by decide) ?_
    refine gg_vretv dX10_one_185 rfl ⟨rfl, rfl⟩ ?_
    refine ⟨I3, J, rfl, gKm_t hk2 (gKm_45 hF3), ?_⟩
    rw [if_pos hc]
    exact ⟨gMd_f hM2 hF3, hR3, (hF3.2 15 (by omega) (by omega) (by omega) (by omega) (by omega)).trans (by rw [hI2, gu_s])⟩
  · refine gg_if_eq_t (tgt := 180) dX10_one_160 (by decide) (by decide) (by decide) ?_
    refine gg_aload_n dX10_one_180 2 rfl ?_
    refine gg_iconst dX10_one_181 ?_
    refine gg_putI rfl gf_RX10_120 dX10_one_182 sh_145 pl_145 (by decide) (by decide) (by decide) gfit_1 ?_
    refine gg_vretv dX10_one_185 rfl ⟨rfl, rfl⟩ ?_
    refine ⟨_, J, rfl, gKm_45 (gF45_u (by omega)), ?_⟩
    rw [if_neg hc]
    exact ⟨gu_s, (gu_n (by omega)).trans hR.1⟩

set_option maxRecDepth 10000 in
set_option maxRecDepth 10000 in
theorem n_X10_one_91 {l : Launch} {Γ : gC} {ad : Nat → Nat} {I : Nat → Nat → Int} {J : Nat → Nat → Int64} {d : Nat} (h16 : I 145 16 = 1) (hd : 1 ≤ d) : gG l Γ gm_X10_one (d, 0, 0, 0, 0) 141 [(1, .int (iv 91)), (0, .ref (gad (gSS ad) 145))] [] (gSS ad, I, J) (gDv (fun μ => μ = (gSS ad, gu I 145 16 1, J))) := by
  refine gg_iload_n dX10_one_141 0 rfl ?_
  refine gg_bipush dX10_one_142 (by decide) ?_
  refine gg_icmp_ne_t (tgt := 152) dX10_one_144 (by decide) (by decide) (by decide) ?_
  refine gg_bipush dX10_one_152 (by decide) ?_
  refine gg_istore_n (ls' := [(2, .int (iv 93)), (1, .int (iv 91)), (0, .ref (gad (gSS ad) 145))]) dX10_one_154 rfl (by decide) rfl ?_
  refine gg_aload_n dX10_one_155 2 rfl ?_
  refine gg_iload_n dX10_one_156 0 rfl ?_
  refine gg_callVi (own := RX10) (yt := gm_X10_isSign) rfl gl_RX10_145 gk_X10_isSign gr_X10_isSign dX10_one_157 (c_X10_isSign_w (d := d - 1) h16) sh_145 pl_145 (by decide) rfl rfl rfl (Nat.le_of_ble_eq_true rfl) (by show _ ≤ d; omega) ⟨Nat.le_refl _, Nat.le_refl _⟩ (fun e1 μ' hc => ?_)
  obtain ⟨rfl, rfl⟩ := hc
  refine gg_if_eq_t (tgt := 180) dX10_one_160 (by decide) (by decide) (by decide) ?_
  refine gg_aload_n dX10_one_180 2 rfl ?_
  refine gg_iconst dX10_one_181 ?_
  refine gg_putI rfl gf_RX10_120 dX10_one_182 sh_145 pl_145 (by decide) (by decide) (by decide) gfit_1 ?_
  refine gg_vretv dX10_one_185 rfl ⟨rfl, rfl⟩ ?_
  exact rfl

set_option maxRecDepth 10000 in
set_option maxRecDepth 10000 in
theorem b_X10_one_91 {l : Launch} {Γ : gC} {ad : Nat → Nat} {I : Nat → Nat → Int} {J : Nat → Nat → Int64} {d : Nat} {T : Nat → Int} {n : Nat} {op : Int} {B t : gLn} {q : Nat} (hd : 6 ≤ d) (hT : gTq I T n) (hR : gRq I T n q) (hM : gMd I J (B ++ t)) (h15 : I 145 15 = op + 1) (hq : q ≤ n) : gG l Γ gm_X10_one (d, 0, 0, 0, 0) 141 [(1, .int (iv 91)), (0, .ref (gad (gSS ad) 145))] [] (gSS ad, I, J) (gDv (fun μ => ∃ I1 J1, μ = (gSS ad, I1, J1) ∧ gKm I J I1 J1 ∧ gQs I1 J1 B op T n (if gtC T n q = 93 then .inr (t, gtE T n q) else .inl (gtP T n q)))) := by
  refine gg_iload_n dX10_one_141 0 rfl ?_
  refine gg_bipush dX10_one_142 (by decide) ?_
  refine gg_icmp_ne_t (tgt := 152) dX10_one_144 (by decide) (by decide) (by decide) ?_
  refine gg_bipush dX10_one_152 (by decide) ?_
  refine gg_istore_n (ls' := [(2, .int (iv 93)), (1, .int (iv 91)), (0, .ref (gad (gSS ad) 145))]) dX10_one_154 rfl (by decide) rfl ?_
  refine gg_aload_n dX10_one_155 2 rfl ?_
  refine gg_iload_n dX10_one_156 0 rfl ?_
  refine gg_callVi (own := RX10) (yt := gm_X10_isSign) rfl gl_RX10_145 gk_X10_isSign gr_X10_isSign dX10_one_157 (c_X10_isSign (d := d - 1) (c := 93) hR (by omega)) sh_145 pl_145 (by decide) rfl rfl rfl (Nat.le_of_ble_eq_true rfl) (by show _ ≤ d; omega) ⟨Nat.le_refl _, Nat.le_refl _⟩ (fun e1 μ' hc => ?_)
  obtain ⟨rfl, ⟨rfl, hc⟩ | ⟨rfl, hc⟩⟩ := hc
  · have hE := gtE_le T hq
    refine gg_if_eq_f (tgt := 180) dX10_one_160 (by decide) (by decide) (by decide) ?_
    refine gg_aload_n dX10_one_163 2 rfl ?_
    refine gg_dup dX10_one_164 rfl ?_
    refine gg_getI rfl gf_RX10_171 dX10_one_165 sh_145 pl_145 (by decide) (by decide) ?_
    refine gg_toI (b := (op + 1)) h15 ?_
    refine gg_iconst dX10_one_168 ?_
    refine gg_isub dX10_one_169 ?_
    refine gg_toI (b := op) (by omega) ?_
    refine gg_putI rfl gf_RX10_171 dX10_one_170 sh_145 pl_145 (by decide) (by decide) (by decide) (gfit_i _) ?_
    refine gg_memI (fun I2 hI2 => ?_)
    have hk2 : gKm I J I2 J := by rw [hI2]; exact gKm_15
    have hT2 := gTq_k hT hk2
    have hR2 : gRq I2 T n q := by rw [hI2]; exact gRq_15 hR
    have hM2 : gMd I2 J (B ++ t) := by rw [hI2]; exact gMd_15 hM
    refine gg_aload_n dX10_one_173 2 rfl ?_
    refine gg_callVv (own := RX10) (yt := gm_X10_next) rfl gl_RX10_148 gk_X10_next gr_X10_next dX10_one_174 (c_X10_next (d := d - 1) (q := gtE T n q) hT2 (hR2.2.2.1 (by omega)).2 (hR2.2.2.1 (by omega)).1 (by omega) (by omega)) sh_145 pl_145 (by decide) rfl rfl rfl (Nat.le_of_ble_eq_true rfl) (by show _ ≤ d; omega) ⟨Nat.le_refl _, Nat.le_refl _⟩ (fun μ' hc => ?_)
    obtain ⟨I3, rfl, hF3, hR3⟩ := hc
    refine gg_goto (tgt := 185) dX10_one_177 (by decide) ?_
    refine gg_vretv dX10_one_185 rfl ⟨rfl, rfl⟩ ?_
    refine ⟨I3, J, rfl, gKm_t hk2 (gKm_45 hF3), ?_⟩
    rw [if_pos hc]
    exact ⟨gMd_f hM2 hF3, hR3, (hF3.2 15 (by omega) (by omega) (by omega) (by omega) (by omega)).trans (by rw [hI2, gu_s])⟩
  · refine gg_if_eq_t (tgt := 180) dX10_one_160 (by decide) (by decide) (by decide) ?_
    refine gg_aload_n dX10_one_180 2 rfl ?_
    refine gg_iconst dX10_one_181 ?_
    refine gg_putI rfl gf_RX10_120 dX10_one_182 sh_145 pl_145 (by decide) (by decide) (by decide) gfit_1 ?_
    refine gg_vretv dX10_one_185 rfl ⟨rfl, rfl⟩ ?_
    refine ⟨_, J, rfl, gKm_45 (gF45_u (by omega)), ?_⟩
    rw [if_neg hc]
    exact ⟨gu_s, (gu_n (by omega)).trans hR.1⟩

set_option maxRecDepth 10000 in
theorem c_X10_one_40 {l : Launch} {Γ : gC} {ad : Nat → Nat} {I : Nat → Nat → Int} {J : Nat → Nat → Int64} {d : Nat} {T : Nat → Int} {n : Nat} {op : Int} {B : gLn} {q : Nat} (hd : 6 ≤ d) (hT : gTq I T n) (hR : gRq I T n q) (hM : gMd I J B) (h15 : I 145 15 = op) (hq : q ≤ n) (hl : 2 * B.length ≤ 3 * q) {ch : Nat → gRT} (hC : gtC T n q = 40) (hop : 0 ≤ op ∧ op < 5) (hbd : gBnd n ch) (H : gCm l Γ ad gm_X10_choice (d - 1) (op + 1) T n ch) : gKv l Γ gm_X10_one d [.ref (gad (gSS ad) 145)] (gSS ad, I, J) (fun μ => ∃ I1 J1, μ = (gSS ad, I1, J1) ∧ gKm I J I1 J1 ∧ gQs I1 J1 B op T n (gBd (ch (gtE T n q)) (fun t q' => if gtC T n q' = 41 then .inr (t, gtE T n q') else .inl (gtP T n q')))) := by
  refine gKv_of gk_X10_one.1 (Nat.le_of_ble_eq_true rfl) ?_
  show gG l Γ gm_X10_one (d, 0, 0, 0, 0) 0 [(0, .ref (gad (gSS ad) 145))] [] _ _
  have hn := hT.1
  have hE := gtE_le T hq
  refine gg_aload_n dX10_one_0 0 rfl ?_
  refine gg_getI rfl gf_RX10_120 dX10_one_1 sh_145 pl_145 (by decide) (by decide) ?_
  refine gg_toI (b := 0) (hR.2.2.1 (by omega)).1 ?_
  refine gg_if_eq_t (tgt := 8) dX10_one_4 (by decide) (by decide) (by decide) ?_
  refine gg_aload_n dX10_one_8 0 rfl ?_
  refine gg_getI rfl gf_RX10_132 dX10_one_9 sh_145 pl_145 (by decide) (by decide) ?_
  obtain ⟨y, hy, hyy⟩ := gRq_t hR (by omega)
  refine gg_toI (b := y) hy ?_
  refine gg_iconst dX10_one_12 ?_
  refine gg_icmp_eq_f (tgt := 24) dX10_one_13 (by decide) (by omega) (by omega) ?_
  refine gg_aload_n dX10_one_16 0 rfl ?_
  refine gg_getI rfl gf_RX10_132 dX10_one_17 sh_145 pl_145 (by decide) (by decide) ?_
  refine gg_toI (b := y) hy ?_
  refine gg_iconst dX10_one_20 ?_
  refine gg_icmp_ne_t (tgt := 51) dX10_one_21 (by decide) (by omega) (by omega) ?_
  refine gg_aload_n dX10_one_51 0 rfl ?_
  refine gg_bipush dX10_one_52 (by decide) ?_
  refine gg_callVi (own := RX10) (yt := gm_X10_isSign) rfl gl_RX10_145 gk_X10_isSign gr_X10_isSign dX10_one_54 (c_X10_isSign (d := d - 1) (c := 45) hR (by omega)) sh_145 pl_145 (by decide) rfl rfl rfl (Nat.le_of_ble_eq_true rfl) (by show _ ≤ d; omega) ⟨Nat.le_refl _, Nat.le_refl _⟩ (fun e1 μ' hc => ?_)
  obtain ⟨rfl, ⟨rfl, hs45⟩ | ⟨rfl, hs45⟩⟩ := hc
  · omega
  refine gg_if_ne_f (tgt := 84) dX10_one_57 (by decide) (by decide) (by decide) ?_
  refine gg_aload_n dX10_one_60 0 rfl ?_
  refine gg_bipush dX10_one_61 (by decide) ?_
  refine gg_callVi (own := RX10) (yt := gm_X10_isSign) rfl gl_RX10_145 gk_X10_isSign gr_X10_isSign dX10_one_63 (c_X10_isSign (d := d - 1) (c := 40) hR (by omega)) sh_145 pl_145 (by decide) rfl rfl rfl (Nat.le_of_ble_eq_true rfl) (by show _ ≤ d; omega) ⟨Nat.le_refl _, Nat.le_refl _⟩ (fun e2 μ' hc => ?_)
  obtain ⟨rfl, ⟨rfl, hs40⟩ | ⟨rfl, hs40⟩⟩ := hc
  rotate_left
  · omega
  refine gg_if_ne_t (tgt := 84) dX10_one_66 (by decide) (by decide) (by decide) ?_
  refine gg_aload_n dX10_one_84 0 rfl ?_
  refine gg_getI rfl gf_RX10_135 dX10_one_85 sh_145 pl_145 (by decide) (by decide) ?_
  refine gg_toI (b := 40) (((hR.2.2.2.2.2.2 (by omega)).2).trans hC) ?_
  refine gg_istore_n (ls' := [(1, .int (iv 40)), (0, .ref (gad (gSS ad) 145))]) dX10_one_88 rfl (by decide) rfl ?_
  refine gg_aload_n dX10_one_89 1 rfl ?_
  refine gg_callVi (own := RX10) (yt := gm_X10_opens) rfl gl_RX10_174 gk_X10_opens gr_X10_opens dX10_one_90 (c_X10_opens_k (d := d - 1) (k := op) h15 hop hT hR (by omega) hq (by omega)) sh_145 pl_145 (by decide) rfl rfl rfl (Nat.le_of_ble_eq_true rfl) (by show _ ≤ d; omega) ⟨Nat.le_refl _, Nat.le_refl _⟩ (fun e3 μ' hc => ?_)
  obtain ⟨I1, rfl, hK1, hB1, hR1, h151, rfl⟩ := hc
  have hM1 := hB1 B hM
  have hT1 := gTq_k hT hK1
  have hc0 := hE.2.2.2 (by omega)
  refine gg_if_ne_t (tgt := 97) dX10_one_93 (by decide) (by decide) (by decide) ?_
  refine gg_iload_n dX10_one_97 0 rfl ?_
  refine gg_bipush dX10_one_98 (by decide) ?_
  refine gg_icmp_ne_t (tgt := 124) dX10_one_100 (by decide) (by decide) (by decide) ?_
  refine gg_iload_n dX10_one_124 0 rfl ?_
  refine gg_bipush dX10_one_125 (by decide) ?_
  refine gg_icmp_ne_t (tgt := 137) dX10_one_127 (by decide) (by decide) (by decide) ?_
  refine gg_aload_n dX10_one_137 1 rfl ?_
  refine gg_callVv (own := RX10) (yt := gm_X10_choice) rfl gl_RX10_178 gk_X10_choice gr_X10_choice dX10_one_138 (H I1 J B _ hT1 hR1 hM1 h151 (by omega) (by first | omega | (simp only [List.length_append, List.length_cons, List.length_nil]; omega))) sh_145 pl_145 (by decide) rfl rfl rfl (Nat.le_of_ble_eq_true rfl) (by show _ ≤ d; omega) ⟨Nat.le_refl _, Nat.le_refl _⟩ (fun μ' hc => ?_)
  obtain ⟨I9, J9, rfl, hK9, hs9⟩ := hc
  cases hr9 : ch (gtE T n q) with
  | inl p =>
    rw [hr9] at hs9
    obtain ⟨w1, w2⟩ : I9 145 16 = 1 ∧ I9 145 12 = (p : Int) := hs9
    refine gG_post (n_X10_one_40 w1 (by omega)) (fun r μ h => ?_)
    obtain ⟨rfl, rfl⟩ := h
    refine ⟨rfl, _, J9, rfl, gKm_t hK1 (gKm_t hK9 (gKm_45 (gF45_u (by omega)))), ?_⟩
    rw [gBd_inl]
    exact ⟨gu_s, (gu_n (by omega)).trans w2⟩
  | inr x =>
    obtain ⟨t9, p9⟩ := x
    rw [hr9] at hs9
    obtain ⟨hM9, hR9, h159⟩ : gMd I9 J9 (B ++ t9) ∧ gRq I9 T n p9 ∧ I9 145 15 = op + 1 := hs9
    have hb9 := hbd _ t9 p9 hE.2.2.1 hr9
    refine gG_post (b_X10_one_40 (op := op) (by omega) (gTq_k hT1 hK9) hR9 hM9 h159 hb9.2.1) (fun r μ h => ?_)
    obtain ⟨rfl, I8, J8, rfl, hK8, hs8⟩ := h
    refine ⟨rfl, I8, J8, rfl, gKm_t hK1 (gKm_t hK9 hK8), ?_⟩
    rw [gBd_inr]
    exact hs8

set_option maxRecDepth 10000 in
theorem c_X10_one_91 {l : Launch} {Γ : gC} {ad : Nat → Nat} {I : Nat → Nat → Int} {J : Nat → Nat → Int64} {d : Nat} {T : Nat → Int} {n : Nat} {op : Int} {B : gLn} {q : Nat} (hd : 6 ≤ d) (hT : gTq I T n) (hR : gRq I T n q) (hM : gMd I J B) (h15 : I 145 15 = op) (hq : q ≤ n) (hl : 2 * B.length ≤ 3 * q) {ch : Nat → gRT} (hC : gtC T n q = 91) (hop : 0 ≤ op ∧ op < 5) (hbd : gBnd n ch) (H : gCm l Γ ad gm_X10_choice (d - 1) (op + 1) T n ch) : gKv l Γ gm_X10_one d [.ref (gad (gSS ad) 145)] (gSS ad, I, J) (fun μ => ∃ I1 J1, μ = (gSS ad, I1, J1) ∧ gKm I J I1 J1 ∧ gQs I1 J1 B op T n (gBd (gBd (ch (gtE T n q)) (fun t q' => if gtC T n q' = 93 then .inr (t, gtE T n q') else .inl (gtP T n q'))) (fun t q' => .inr ((7, 0) :: t, q')))) := by
  refine gKv_of gk_X10_one.1 (Nat.le_of_ble_eq_true rfl) ?_
  show gG l Γ gm_X10_one (d, 0, 0, 0, 0) 0 [(0, .ref (gad (gSS ad) 145))] [] _ _
  have hn := hT.1
  have hE := gtE_le T hq
  refine gg_aload_n dX10_one_0 0 rfl ?_
  refine gg_getI rfl gf_RX10_120 dX10_one_1 sh_145 pl_145 (by decide) (by decide) ?_
  refine gg_toI (b := 0) (hR.2.2.1 (by omega)).1 ?_
  refine gg_if_eq_t (tgt := 8) dX10_one_4 (by decide) (by decide) (by decide) ?_
  refine gg_aload_n dX10_one_8 0 rfl ?_
  refine gg_getI rfl gf_RX10_132 dX10_one_9 sh_145 pl_145 (by decide) (by decide) ?_
  obtain ⟨y, hy, hyy⟩ := gRq_t hR (by omega)
  refine gg_toI (b := y) hy ?_
  refine gg_iconst dX10_one_12 ?_
  refine gg_icmp_eq_f (tgt := 24) dX10_one_13 (by decide) (by omega) (by omega) ?_
  refine gg_aload_n dX10_one_16 0 rfl ?_
  refine gg_getI rfl gf_RX10_132 dX10_one_17 sh_145 pl_145 (by decide) (by decide) ?_
  refine gg_toI (b := y) hy ?_
  refine gg_iconst dX10_one_20 ?_
  refine gg_icmp_ne_t (tgt := 51) dX10_one_21 (by decide) (by omega) (by omega) ?_
  refine gg_aload_n dX10_one_51 0 rfl ?_
  refine gg_bipush dX10_one_52 (by decide) ?_
  refine gg_callVi (own := RX10) (yt := gm_X10_isSign) rfl gl_RX10_145 gk_X10_isSign gr_X10_isSign dX10_one_54 (c_X10_isSign (d := d - 1) (c := 45) hR (by omega)) sh_145 pl_145 (by decide) rfl rfl rfl (Nat.le_of_ble_eq_true rfl) (by show _ ≤ d; omega) ⟨Nat.le_refl _, Nat.le_refl _⟩ (fun e1 μ' hc => ?_)
  obtain ⟨rfl, ⟨rfl, hs45⟩ | ⟨rfl, hs45⟩⟩ := hc
  · omega
  refine gg_if_ne_f (tgt := 84) dX10_one_57 (by decide) (by decide) (by decide) ?_
  refine gg_aload_n dX10_one_60 0 rfl ?_
  refine gg_bipush dX10_one_61 (by decide) ?_
  refine gg_callVi (own := RX10) (yt := gm_X10_isSign) rfl gl_RX10_145 gk_X10_isSign gr_X10_isSign dX10_one_63 (c_X10_isSign (d := d - 1) (c := 40) hR (by omega)) sh_145 pl_145 (by decide) rfl rfl rfl (Nat.le_of_ble_eq_true rfl) (by show _ ≤ d; omega) ⟨Nat.le_refl _, Nat.le_refl _⟩ (fun e2 μ' hc => ?_)
  obtain ⟨rfl, ⟨rfl, hs40⟩ | ⟨rfl, hs40⟩⟩ := hc
  · omega
  refine gg_if_ne_f (tgt := 84) dX10_one_66 (by decide) (by decide) (by decide) ?_
  refine gg_aload_n dX10_one_69 0 rfl ?_
  refine gg_bipush dX10_one_70 (by decide) ?_
  refine gg_callVi (own := RX10) (yt := gm_X10_isSign) rfl gl_RX10_145 gk_X10_isSign gr_X10_isSign dX10_one_72 (c_X10_isSign (d := d - 1) (c := 91) hR (by omega)) sh_145 pl_145 (by decide) rfl rfl rfl (Nat.le_of_ble_eq_true rfl) (by show _ ≤ d; omega) ⟨Nat.le_refl _, Nat.le_refl _⟩ (fun e3 μ' hc => ?_)
  obtain ⟨rfl, ⟨rfl, hs91⟩ | ⟨rfl, hs91⟩⟩ := hc
  rotate_left
  · omega
  refine gg_if_ne_t (tgt := 84) dX10_one_75 (by decide) (by decide) (by decide) ?_
  refine gg_aload_n dX10_one_84 0 rfl ?_
  refine gg_getI rfl gf_RX10_135 dX10_one_85 sh_145 pl_145 (by decide) (by decide) ?_
  refine gg_toI (b := 91) (((hR.2.2.2.2.2.2 (by omega)).2).trans hC) ?_
  refine gg_istore_n (ls' := [(1, .int (iv 91)), (0, .ref (gad (gSS ad) 145))]) dX10_one_88 rfl (by decide) rfl ?_
  refine gg_aload_n dX10_one_89 1 rfl ?_
  refine gg_callVi (own := RX10) (yt := gm_X10_opens) rfl gl_RX10_174 gk_X10_opens gr_X10_opens dX10_one_90 (c_X10_opens_k (d := d - 1) (k := op) h15 hop hT hR (by omega) hq (by omega)) sh_145 pl_145 (by decide) rfl rfl rfl (Nat.le_of_ble_eq_true rfl) (by show _ ≤ d; omega) ⟨Nat.le_refl _, Nat.le_refl _⟩ (fun e4 μ' hc => ?_)
  obtain ⟨I1, rfl, hK1, hB1, hR1, h151, rfl⟩ := hc
  have hM1 := hB1 B hM
  have hT1 := gTq_k hT hK1
  have hc0 := hE.2.2.2 (by omega)
  refine gg_if_ne_t (tgt := 97) dX10_one_93 (by decide) (by decide) (by decide) ?_
  refine gg_iload_n dX10_one_97 0 rfl ?_
  refine gg_bipush dX10_one_98 (by decide) ?_
  refine gg_icmp_ne_t (tgt := 124) dX10_one_100 (by decide) (by decide) (by decide) ?_
  refine gg_iload_n dX10_one_124 0 rfl ?_
  refine gg_bipush dX10_one_125 (by decide) ?_
  refine gg_icmp_ne_f (tgt := 137) dX10_one_127 (by decide) (by decide) (by decide) ?_
  refine gg_aload_n dX10_one_130 1 rfl ?_
  refine gg_bipush dX10_one_131 (by decide) ?_
  refine gg_lconstv (x := 0) dX10_one_133 rfl ?_
  refine gg_callVv (own := RX10) (yt := gm_X10_put) rfl gl_RX10_102 gk_X10_put gr_X10_put dX10_one_134 (c_X10_put_a (d := d - 1) (k := 7) (x := 0) hM1 (by omega)) sh_145 pl_145 (by decide) rfl rfl rfl (Nat.le_of_ble_eq_true rfl) (by show _ ≤ d; omega) ⟨Nat.le_refl _, Nat.le_refl _⟩ (fun μ' hc => ?_)
  obtain ⟨I6, J6, rfl, hX6, f6a, f6b, f6c⟩ := hc
  have hM6 := gMx_d hX6 (by simp only [List.length_append, List.length_cons, List.length_nil]; omega)
  have hkk6 := gKm_p f6a f6b f6c
  have hT6 := gTq_k hT1 hkk6
  have hR6 := gRq_p hR1 f6b
  have h156 := (f6b 15 (by omega) (by omega)).trans h151
  have hK6 := gKm_t hK1 hkk6
  refine gg_aload_n dX10_one_137 1 rfl ?_
  refine gg_callVv (own := RX10) (yt := gm_X10_choice) rfl gl_RX10_178 gk_X10_choice gr_X10_choice dX10_one_138 (H I6 J6 (B ++ [(7, 0)]) _ hT6 hR6 hM6 h156 (by omega) (by first | omega | (simp only [List.length_append, List.length_cons, List.length_nil]; omega))) sh_145 pl_145 (by decide) rfl rfl rfl (Nat.le_of_ble_eq_true rfl) (by show _ ≤ d; omega) ⟨Nat.le_refl _, Nat.le_refl _⟩ (fun μ' hc => ?_)
  obtain ⟨I9, J9, rfl, hK9, hs9⟩ := hc
  cases hr9 : ch (gtE T n q) with
  | inl p =>
    rw [hr9] at hs9
    obtain ⟨w1, w2⟩ : I9 145 16 = 1 ∧ I9 145 12 = (p : Int) := hs9
    refine gG_post (n_X10_one_91 w1 (by omega)) (fun r μ h => ?_)
    obtain ⟨rfl, rfl⟩ := h
    refine ⟨rfl, _, J9, rfl, gKm_t hK6 (gKm_t hK9 (gKm_45 (gF45_u (by omega)))), ?_⟩
    rw [gBd_inl, gBd_inl]
    exact ⟨gu_s, (gu_n (by omega)).trans w2⟩
  | inr x =>
    obtain ⟨t9, p9⟩ := x
    rw [hr9] at hs9
    obtain ⟨hM9, hR9, h159⟩ : gMd I9 J9 ((B ++ [(7, 0)]) ++ t9) ∧ gRq I9 T n p9 ∧ I9 145 15 = op + 1 := hs9
    have hb9 := hbd _ t9 p9 hE.2.2.1 hr9
    refine gG_post (b_X10_one_91 (op := op) (by omega) (gTq_k hT6 hK9) hR9 hM9 h159 hb9.2.1) (fun r μ h => ?_)
    obtain ⟨rfl, I8, J8, rfl, hK8, hs8⟩ := h
    refine ⟨rfl, I8, J8, rfl, gKm_t hK6 (gKm_t hK9 hK8), ?_⟩
    rw [gBd_inr]
    by_cases hcc : gtC T n p9 = 93
    · rw [if_pos hcc] at hs8 ⊢
      rw [gBd_inr]
      obtain ⟨hM8, hR8, h158⟩ : gMd I8 J8 (B ++ [(7, 0)] ++ t9) ∧ gRq I8 T n (gtE T n p9) ∧ I8 145 15 = op := hs8
      exact ⟨by simpa using hM8, hR8, h158⟩
    · rw [if_neg hcc] at hs8 ⊢
      rw [gBd_inl]
      exact hs8

