/-! the reference: folded, derived, replaced -/
set_option maxRecDepth 10000 in
set_option maxHeartbeats 4000000 in
theorem r_X10_fold {l : Launch} {Γ : gC} {ad : Nat → Nat} {f n : Nat} {K : Nat → Nat} {N : Nat → Int64} {Z : Nat → Nat} (hf : f < 12) (hW : gWf n K N Z) : ∀ (m i : Nat), i < n → Z i ≤ m → ∀ d, m + 4 ≤ d → ∀ (I0 : Nat → Nat → Int) (J0 : Nat → Nat → Int64) (B : gLn), gMt I0 J0 f n K N Z → gMd I0 J0 B → B.length + Z i ≤ 200 → gNvs B → gKv l Γ gm_X10_fold d [.ref (gad (gSS ad) 145), .int (iv (f : Int)), .int (iv (i : Int))] (gSS ad, I0, J0) (fun μ => ∃ I1 J1, μ = (gSS ad, I1, J1) ∧ gMd I1 J1 (B ++ gFd n K N Z i) ∧ (∀ p, p ≠ 145 → p ≠ 187 → I1 p = I0 p) ∧ (∀ q, q ≠ 5 → q ≠ 6 → I1 145 q = I0 145 q) ∧ (∀ p, p ≠ 188 → J1 p = J0 p)) := by
  intro m
  induction m with
  | zero => intro i hi hz; have := (hW.2.2 i hi).2.1; omega
  | succ m ih =>
    intro i hi hzm d hd I0 J0 B hM0 hm hBl hBv
    have hci : gNv (K i, N i) := by
      obtain ⟨hK, -, -, -, -, -, -, -, -, -, h1, h5, h0⟩ := hW.2.2 i hi
      exact ⟨hK, h1, h5, h0⟩
    obtain ⟨hK, hZ1, hZ2, he0, he1, he2, he3, hc1, hc2, hc3, -⟩ := hW.2.2 i hi
    have hpw := hci.2.2.1
    have hzz := hci.2.2.2
    dsimp only at hpw hzz
    have hn := hW.1
    refine gKv_of gk_X10_fold.1 (Nat.le_of_ble_eq_true rfl) ?_
    show gG l Γ gm_X10_fold (d, 0, 0, 0, 0) 0 [(0, .ref (gad (gSS ad) 145)), (1, .int (iv (f : Int))), (2, .int (iv (i : Int)))] [] _ _
    refine gg_aload_n dX10_fold_0 0 rfl ?_
    refine gg_getI rfl gf_RX10_90 dX10_fold_1 sh_145 pl_145 (by decide) (by decide) ?_
    refine gg_toI (b := (B.length : Int)) hm.1 ?_
    refine gg_istore_n (ls' := [(3, .int (iv (B.length : Int))), (0, .ref (gad (gSS ad) 145)), (1, .int (iv (f : Int))), (2, .int (iv (i : Int)))]) dX10_fold_4 rfl (by decide) rfl ?_
    refine gg_aload_n dX10_fold_5 1 rfl ?_
    refine gg_getR (k' := 147) rfl gf_RX10_15 dX10_fold_6 sh_145 pl_145 (by decide) (by decide) rr_145_1 ?_
    refine gg_iload_n dX10_fold_9 2 rfl ?_
    refine gg_aaldj (t := 6) f (k' := (148 + f)) dX10_fold_10 sh_147 (by decide) pl_147 (by decide) rfl hf (rr_147 hf) ?_
    refine gg_iload_n dX10_fold_11 3 rfl ?_
    refine gg_ialdj i dX10_fold_12 (rs_147 hf) (rl_147 hf) (by decide) rfl (by omega) ?_
    refine gg_toI (b := (K i : Int)) (hM0.2 i hi).1 ?_
    obtain hk | hk | hk | hk | hk | hk | hk | hk := (by omega : K i = 0 ∨ K i = 1 ∨ K i = 2 ∨ K i = 3 ∨ K i = 4 ∨ K i = 5 ∨ K i = 6 ∨ K i = 7)
    · refine gg_toI (b := 0) (by omega) ?_
      refine gg_istore (ls' := [(4, .int (iv 0)), (3, .int (iv (B.length : Int))), (0, .ref (gad (gSS ad) 145)), (1, .int (iv (f : Int))), (2, .int (iv (i : Int)))]) dX10_fold_13 (by decide) rfl ?_
      refine gg_aload_n dX10_fold_15 2 rfl ?_
      refine gg_iload dX10_fold_16 0 rfl ?_
      refine gg_aload_n dX10_fold_18 2 rfl ?_
      refine gg_getR (k' := 160) rfl gf_RX10_20 dX10_fold_19 sh_145 pl_145 (by decide) (by decide) rr_145_2 ?_
      refine gg_iload_n dX10_fold_22 3 rfl ?_
      refine gg_aaldj (t := 7) f (k' := (161 + f)) dX10_fold_23 sh_160 (by decide) pl_160 (by decide) rfl hf (rr_160 hf) ?_
      refine gg_iload_n dX10_fold_24 4 rfl ?_
      refine gg_laldj i dX10_fold_25 (rs_160 hf) (rl_160 hf) (by decide) rfl (by omega) ?_
      refine gg_toL (b := N i) (hM0.2 i hi).2.1 ?_
      have hz := he0 (by rw [hk]; decide)
      refine gg_callVv (own := RX10) (yt := gm_X10_put) rfl gl_RX10_102 gk_X10_put gr_X10_put dX10_fold_26 (c_X10_put (d := d - 1) (k := 0) (x := N i) (Or.inl hm)) sh_145 pl_145 (by decide) rfl rfl rfl (Nat.le_of_ble_eq_true rfl) (by show _ ≤ d; omega) ⟨Nat.le_refl _, Nat.le_refl _⟩ (fun μ' hc => ?_)
      obtain ⟨I1, J1, rfl, x1, fa1, fb1, fc1⟩ := hc
      have m1 := gMx_d x1 (by simp only [List.length_append, List.length_cons, List.length_nil]; omega)
      refine gg_iload_n dX10_fold_29 4 rfl ?_
      refine gg_iconst dX10_fold_30 ?_
      refine gg_iadd dX10_fold_31 ?_
      refine gg_toI (b := ((i + 1 : Nat) : Int)) (by omega) ?_
      refine gg_istore (ls' := [(5, .int (iv ((i + 1 : Nat) : Int))), (4, .int (iv 0)), (3, .int (iv (B.length : Int))), (0, .ref (gad (gSS ad) 145)), (1, .int (iv (f : Int))), (2, .int (iv (i : Int)))]) dX10_fold_32 (by decide) rfl ?_
      refine gg_iconst dX10_fold_34 ?_
      refine gg_istore (ls' := [(6, .int (iv 0)), (5, .int (iv ((i + 1 : Nat) : Int))), (4, .int (iv 0)), (3, .int (iv (B.length : Int))), (0, .ref (gad (gSS ad) 145)), (1, .int (iv (f : Int))), (2, .int (iv (i : Int)))]) dX10_fold_35 (by decide) rfl ?_
      refine gg_iload dX10_fold_37 0 rfl ?_
      refine gg_iload dX10_fold_39 2 rfl ?_
      refine gg_callSi (own := RX10) (yt := gm_X10_parts) rfl gl_RX10_98 gk_X10_parts gr_X10_parts dX10_fold_41 (c_X10_parts (d := d - 1) (k := 0) (by omega)) rfl rfl (Nat.le_of_ble_eq_true rfl) (by show _ ≤ d; omega) ⟨Nat.le_refl _, Nat.le_refl _⟩ (fun e3 μ' hc => ?_)
      obtain ⟨rfl, rfl⟩ := hc
      refine gg_toI (b := 0) rfl ?_
      refine gg_icmp_ge_t (tgt := 71) dX10_fold_44 (by decide) (by decide) (by decide) ?_
      refine gg_iload_n dX10_fold_71 3 rfl ?_
      refine gg_iconst dX10_fold_72 ?_
      refine gg_iadd dX10_fold_73 ?_
      refine gg_toI (b := ((B.length + 1 : Nat) : Int)) (by omega) ?_
      refine gg_istore (ls' := [(6, .int (iv ((B.length + 1 : Nat) : Int))), (5, .int (iv ((i + 1 : Nat) : Int))), (4, .int (iv 0)), (3, .int (iv (B.length : Int))), (0, .ref (gad (gSS ad) 145)), (1, .int (iv (f : Int))), (2, .int (iv (i : Int)))]) dX10_fold_74 (by decide) rfl ?_
      refine gg_iload dX10_fold_76 2 rfl ?_
      refine gg_tsw_out (tgt := 250) dX10_fold_78 (by decide) (by decide) (by decide) ?_
      refine gg_vretv dX10_fold_250 rfl ⟨rfl, rfl⟩ ?_
      refine ⟨I1, J1, rfl, ?_, fun p h1 h2 => (fa1 p h1 h2).trans (rfl), fun q h1 h2 => (fb1 q h1 h2).trans (rfl), fun p h1 => (fc1 p h1).trans (rfl)⟩
      rw [gFd_is n K N Z i hi]
      unfold gfF
      simp only [hk]
      exact m1
    · refine gg_toI (b := 1) (by omega) ?_
      refine gg_istore (ls' := [(4, .int (iv 1)), (3, .int (iv (B.length : Int))), (0, .ref (gad (gSS ad) 145)), (1, .int (iv (f : Int))), (2, .int (iv (i : Int)))]) dX10_fold_13 (by decide) rfl ?_
      refine gg_aload_n dX10_fold_15 2 rfl ?_
      refine gg_iload dX10_fold_16 0 rfl ?_
      refine gg_aload_n dX10_fold_18 2 rfl ?_
      refine gg_getR (k' := 160) rfl gf_RX10_20 dX10_fold_19 sh_145 pl_145 (by decide) (by decide) rr_145_2 ?_
      refine gg_iload_n dX10_fold_22 3 rfl ?_
      refine gg_aaldj (t := 7) f (k' := (161 + f)) dX10_fold_23 sh_160 (by decide) pl_160 (by decide) rfl hf (rr_160 hf) ?_
      refine gg_iload_n dX10_fold_24 4 rfl ?_
      refine gg_laldj i dX10_fold_25 (rs_160 hf) (rl_160 hf) (by decide) rfl (by omega) ?_
      refine gg_toL (b := N i) (hM0.2 i hi).2.1 ?_
      have hz := he0 (by rw [hk]; decide)
      refine gg_callVv (own := RX10) (yt := gm_X10_put) rfl gl_RX10_102 gk_X10_put gr_X10_put dX10_fold_26 (c_X10_put (d := d - 1) (k := 1) (x := N i) (Or.inl hm)) sh_145 pl_145 (by decide) rfl rfl rfl (Nat.le_of_ble_eq_true rfl) (by show _ ≤ d; omega) ⟨Nat.le_refl _, Nat.le_refl _⟩ (fun μ' hc => ?_)
      obtain ⟨I4, J4, rfl, x4, fa4, fb4, fc4⟩ := hc
      have m4 := gMx_d x4 (by simp only [List.length_append, List.length_cons, List.length_nil]; omega)
      refine gg_iload_n dX10_fold_29 4 rfl ?_
      refine gg_iconst dX10_fold_30 ?_
      refine gg_iadd dX10_fold_31 ?_
      refine gg_toI (b := ((i + 1 : Nat) : Int)) (by omega) ?_
      refine gg_istore (ls' := [(5, .int (iv ((i + 1 : Nat) : Int))), (4, .int (iv 1)), (3, .int (iv (B.length : Int))), (0, .ref (gad (gSS ad) 145)), (1, .int (iv (f : Int))), (2, .int (iv (i : Int)))]) dX10_fold_32 (by decide) rfl ?_
      refine gg_iconst dX10_fold_34 ?_
      refine gg_istore (ls' := [(6, .int (iv 0)), (5, .int (iv ((i + 1 : Nat) : Int))), (4, .int (iv 1)), (3, .int (iv (B.length : Int))), (0, .ref (gad (gSS ad) 145)), (1, .int (iv (f : Int))), (2, .int (iv (i : Int)))]) dX10_fold_35 (by decide) rfl ?_
      refine gg_iload dX10_fold_37 0 rfl ?_
      refine gg_iload dX10_fold_39 2 rfl ?_
      refine gg_callSi (own := RX10) (yt := gm_X10_parts) rfl gl_RX10_98 gk_X10_parts gr_X10_parts dX10_fold_41 (c_X10_parts (d := d - 1) (k := 1) (by omega)) rfl rfl (Nat.le_of_ble_eq_true rfl) (by show _ ≤ d; omega) ⟨Nat.le_refl _, Nat.le_refl _⟩ (fun e6 μ' hc => ?_)
      obtain ⟨rfl, rfl⟩ := hc
      refine gg_toI (b := 0) rfl ?_
      refine gg_icmp_ge_t (tgt := 71) dX10_fold_44 (by decide) (by decide) (by decide) ?_
      refine gg_iload_n dX10_fold_71 3 rfl ?_
      refine gg_iconst dX10_fold_72 ?_
      refine gg_iadd dX10_fold_73 ?_
      refine gg_toI (b := ((B.length + 1 : Nat) : Int)) (by omega) ?_
      refine gg_istore (ls' := [(6, .int (iv ((B.length + 1 : Nat) : Int))), (5, .int (iv ((i + 1 : Nat) : Int))), (4, .int (iv 1)), (3, .int (iv (B.length : Int))), (0, .ref (gad (gSS ad) 145)), (1, .int (iv (f : Int))), (2, .int (iv (i : Int)))]) dX10_fold_74 (by decide) rfl ?_
      refine gg_iload dX10_fold_76 2 rfl ?_
      refine gg_tsw_out (tgt := 250) dX10_fold_78 (by decide) (by decide) (by decide) ?_
      refine gg_vretv dX10_fold_250 rfl ⟨rfl, rfl⟩ ?_
      refine ⟨I4, J4, rfl, ?_, fun p h1 h2 => (fa4 p h1 h2).trans (rfl), fun q h1 h2 => (fb4 q h1 h2).trans (rfl), fun p h1 => (fc4 p h1).trans (rfl)⟩
      rw [gFd_is n K N Z i hi]
      unfold gfF
      simp only [hk]
      exact m4
    · refine gg_toI (b := 2) (by omega) ?_
      refine gg_istore (ls' := [(4, .int (iv 2)), (3, .int (iv (B.length : Int))), (0, .ref (gad (gSS ad) 145)), (1, .int (iv (f : Int))), (2, .int (iv (i : Int)))]) dX10_fold_13 (by decide) rfl ?_
      refine gg_aload_n dX10_fold_15 2 rfl ?_
      refine gg_iload dX10_fold_16 0 rfl ?_
      refine gg_aload_n dX10_fold_18 2 rfl ?_
      refine gg_getR (k' := 160) rfl gf_RX10_20 dX10_fold_19 sh_145 pl_145 (by decide) (by decide) rr_145_2 ?_
      refine gg_iload_n dX10_fold_22 3 rfl ?_
      refine gg_aaldj (t := 7) f (k' := (161 + f)) dX10_fold_23 sh_160 (by decide) pl_160 (by decide) rfl hf (rr_160 hf) ?_
      refine gg_iload_n dX10_fold_24 4 rfl ?_
      refine gg_laldj i dX10_fold_25 (rs_160 hf) (rl_160 hf) (by decide) rfl (by omega) ?_
      refine gg_toL (b := N i) (hM0.2 i hi).2.1 ?_
      have q1 := hc1 (by rw [hk]; decide)
      have hz := he1 (by rw [hk]; decide)
      obtain ⟨g1, v1, w1⟩ := gFd_ok hW _ q1
      have hN0 : N i = 0 := hzz (by omega) (by omega) (by omega)
      refine gg_callVv (own := RX10) (yt := gm_X10_put) rfl gl_RX10_102 gk_X10_put gr_X10_put dX10_fold_26 (c_X10_put (d := d - 1) (k := 2) (x := N i) (Or.inl hm)) sh_145 pl_145 (by decide) rfl rfl rfl (Nat.le_of_ble_eq_true rfl) (by show _ ≤ d; omega) ⟨Nat.le_refl _, Nat.le_refl _⟩ (fun μ' hc => ?_)
      obtain ⟨I7, J7, rfl, x7, fa7, fb7, fc7⟩ := hc
      have m7 := gMx_d x7 (by simp only [List.length_append, List.length_cons, List.length_nil]; omega)
      refine gg_iload_n dX10_fold_29 4 rfl ?_
      refine gg_iconst dX10_fold_30 ?_
      refine gg_iadd dX10_fold_31 ?_
      refine gg_toI (b := ((i + 1 : Nat) : Int)) (by omega) ?_
      refine gg_istore (ls' := [(5, .int (iv ((i + 1 : Nat) : Int))), (4, .int (iv 2)), (3, .int (iv (B.length : Int))), (0, .ref (gad (gSS ad) 145)), (1, .int (iv (f : Int))), (2, .int (iv (i : Int)))]) dX10_fold_32 (by decide) rfl ?_
      refine gg_iconst dX10_fold_34 ?_
      refine gg_istore (ls' := [(6, .int (iv 0)), (5, .int (iv ((i + 1 : Nat) : Int))), (4, .int (iv 2)), (3, .int (iv (B.length : Int))), (0, .ref (gad (gSS ad) 145)), (1, .int (iv (f : Int))), (2, .int (iv (i : Int)))]) dX10_fold_35 (by decide) rfl ?_
      refine gg_iload dX10_fold_37 0 rfl ?_
      refine gg_iload dX10_fold_39 2 rfl ?_
      refine gg_callSi (own := RX10) (yt := gm_X10_parts) rfl gl_RX10_98 gk_X10_parts gr_X10_parts dX10_fold_41 (c_X10_parts (d := d - 1) (k := 2) (by omega)) rfl rfl (Nat.le_of_ble_eq_true rfl) (by show _ ≤ d; omega) ⟨Nat.le_refl _, Nat.le_refl _⟩ (fun e9 μ' hc => ?_)
      obtain ⟨rfl, rfl⟩ := hc
      refine gg_toI (b := 1) rfl ?_
      refine gg_icmp_ge_f (tgt := 71) dX10_fold_44 (by decide) (by decide) (by decide) ?_
      refine gg_aload_n dX10_fold_47 4 rfl ?_
      refine gg_iload_n dX10_fold_48 5 rfl ?_
      refine gg_iload dX10_fold_49 1 rfl ?_
      refine gg_callVv (own := RX10) (yt := gm_X10_fold) rfl gl_RX10_192 gk_X10_fold gr_X10_fold dX10_fold_51 (ih (i + 1) q1 (by omega) (d - 1) (by omega) I7 J7 (B ++ [(2, N i)]) (gMt_d hf hM0 (fun p h1 h2 => (fa7 p h1 h2).trans (rfl)) (fun p h1 => (fc7 p h1).trans (rfl))) m7 (by simp only [List.length_append, List.length_cons, List.length_nil]; omega) (gNvs_app hBv (gNvs_cons (by rw [← hk]; exact hci) gNvs_nil))) sh_145 pl_145 (by decide) rfl rfl rfl (Nat.le_of_ble_eq_true rfl) (by show _ ≤ d; omega) ⟨Nat.le_refl _, Nat.le_refl _⟩ (fun μ' hc => ?_)
      obtain ⟨I10, J10, rfl, m10, fa10, fb10, fc10⟩ := hc
      refine gg_aload_n dX10_fold_54 4 rfl ?_
      refine gg_getR (k' := 173) rfl gf_RX10_23 dX10_fold_55 sh_145 pl_145 (by decide) (by decide) rr_145_3 ?_
      refine gg_iload_n dX10_fold_58 5 rfl ?_
      refine gg_aaldj (t := 6) f (k' := (174 + f)) dX10_fold_59 sh_173 (by decide) pl_173 (by decide) rfl (by omega) (rr_173 (by omega)) ?_
      refine gg_iload dX10_fold_60 1 rfl ?_
      refine gg_ialdj (i + 1) dX10_fold_62 (rs_173 (by omega)) (rl_173 (by omega)) (by decide) rfl (by omega) ?_
      refine gg_istore (ls' := [(5, .int (iv (I10 (174 + f) (i + 1)))), (6, .int (iv 0)), (4, .int (iv 2)), (3, .int (iv (B.length : Int))), (0, .ref (gad (gSS ad) 145)), (1, .int (iv (f : Int))), (2, .int (iv (i : Int)))]) dX10_fold_63 (by decide) rfl ?_
      refine gg_iincv (ls' := [(6, .int (iv 1)), (5, .int (iv (I10 (174 + f) (i + 1)))), (4, .int (iv 2)), (3, .int (iv (B.length : Int))), (0, .ref (gad (gSS ad) 145)), (1, .int (iv (f : Int))), (2, .int (iv (i : Int)))]) dX10_fold_65 1 rfl rfl (by decide) rfl ?_
      refine gg_goto (tgt := 37) dX10_fold_68 (by decide) ?_
      refine gg_iload dX10_fold_37 0 rfl ?_
      refine gg_iload dX10_fold_39 2 rfl ?_
      refine gg_callSi (own := RX10) (yt := gm_X10_parts) rfl gl_RX10_98 gk_X10_parts gr_X10_parts dX10_fold_41 (c_X10_parts (d := d - 1) (k := 2) (by omega)) rfl rfl (Nat.le_of_ble_eq_true rfl) (by show _ ≤ d; omega) ⟨Nat.le_refl _, Nat.le_refl _⟩ (fun e12 μ' hc => ?_)
      obtain ⟨rfl, rfl⟩ := hc
      refine gg_toI (b := 1) rfl ?_
      refine gg_icmp_ge_t (tgt := 71) dX10_fold_44 (by decide) (by decide) (by decide) ?_
      have mm : gMd I10 J10 (B ++ ((2, 0) :: (gFd n K N Z (i + 1)))) := by
        have z := m10
        rw [hN0] at z
        simpa using z
      have hll : (B ++ ((2, 0) :: (gFd n K N Z (i + 1)))).length = B.length + 1 + (gFd n K N Z (i + 1)).length := by simp only [List.length_append, List.length_cons]; omega
      have hml := mm.2.1
      have p1 := gFo_pos g1 (Nat.le_refl _)
      have e1 := (v1 _ (gHd_mem p1)).1
      refine gg_iload_n dX10_fold_71 3 rfl ?_
      refine gg_iconst dX10_fold_72 ?_
      refine gg_iadd dX10_fold_73 ?_
      refine gg_toI (b := ((B.length + 1 : Nat) : Int)) (by omega) ?_
      refine gg_istore (ls' := [(6, .int (iv ((B.length + 1 : Nat) : Int))), (5, .int (iv (I10 (174 + f) (i + 1)))), (4, .int (iv 2)), (3, .int (iv (B.length : Int))), (0, .ref (gad (gSS ad) 145)), (1, .int (iv (f : Int))), (2, .int (iv (i : Int)))]) dX10_fold_74 (by decide) rfl ?_
      refine gg_iload dX10_fold_76 2 rfl ?_
      refine gg_tsw (off := 38) (tgt := 116) dX10_fold_78 (by decide) (by decide) rfl (by decide) ?_
      refine gg_aload_n dX10_fold_116 4 rfl ?_
      refine gg_getR (k' := 187) rfl gf_RX10_29 dX10_fold_117 sh_145 pl_145 (by decide) (by decide) rr_145_7 ?_
      refine gg_iload dX10_fold_120 0 rfl ?_
      refine gg_ialdj (B.length + 1) dX10_fold_122 sh_187 pl_187 (by decide) rfl (by omega) ?_
      refine gg_toI (b := (((gHd (gFd n K N Z (i + 1))).1 : Nat) : Int)) (mm.2.2.2 _ _ (gget_h1 p1)).1 ?_
      refine gg_if_ne (tgt := 142) dX10_fold_123 (by decide) (by omega) (fun hb => ?_) (fun hb => ?_)
      · have hA0 : ¬ (gHd (gFd n K N Z (i + 1))).1 = 0 := by omega
        clear hb
        refine gg_aload_n dX10_fold_142 4 rfl ?_
        refine gg_getR (k' := 187) rfl gf_RX10_29 dX10_fold_143 sh_145 pl_145 (by decide) (by decide) rr_145_7 ?_
        refine gg_iload dX10_fold_146 0 rfl ?_
        refine gg_ialdj (B.length + 1) dX10_fold_148 sh_187 pl_187 (by decide) rfl (by omega) ?_
        refine gg_toI (b := (((gHd (gFd n K N Z (i + 1))).1 : Nat) : Int)) (mm.2.2.2 _ _ (gget_h1 p1)).1 ?_
        refine gg_iconst dX10_fold_149 ?_
        refine gg_icmp_ne (tgt := 250) dX10_fold_150 (by decide) (by omega) (fun hb2 => ?_) (fun hb2 => ?_)
        · have hA2 : ¬ (gHd (gFd n K N Z (i + 1))).1 = 2 := by omega
          clear hb2
          refine gg_vretv dX10_fold_250 rfl ⟨rfl, rfl⟩ ?_
          refine ⟨I10, J10, rfl, ?_, fun p h1 h2 => (fa10 p h1 h2).trans ((fa7 p h1 h2).trans (rfl)), fun q h1 h2 => (fb10 q h1 h2).trans ((fb7 q h1 h2).trans (rfl)), fun p h1 => (fc10 p h1).trans ((fc7 p h1).trans (rfl))⟩
          rw [gFd_is n K N Z i hi]
          unfold gfF
          simp only [hk]
          show gMd _ _ (B ++ gfNeg (gFd n K N Z (i + 1)))
          rw [show gfNeg (gFd n K N Z (i + 1)) = (2, 0) :: (gFd n K N Z (i + 1)) by unfold gfNeg; repeat' split; all_goals first | rfl | (exfalso; simp_all; done) | simp_all]
          exact mm
        · have hA2 : (gHd (gFd n K N Z (i + 1))).1 = 2 := by omega
          clear hb2
          refine gg_aload_n dX10_fold_153 4 rfl ?_
          refine gg_iload_n dX10_fold_154 3 rfl ?_
          refine gg_iload_n dX10_fold_155 3 rfl ?_
          refine gg_iconst dX10_fold_156 ?_
          refine gg_iadd dX10_fold_157 ?_
          refine gg_toI (b := ((B.length + 2 : Nat) : Int)) (by omega) ?_
          refine gg_callVv (own := RX10) (yt := gm_X10_takeOut) rfl gl_RX10_199 gk_X10_takeOut gr_X10_takeOut dX10_fold_158 (c_X10_takeOut (d := d - 1) (P := B) (M := [(2, 0), (gHd (gFd n K N Z (i + 1)))]) (R := (gFd n K N Z (i + 1)).tail) (by have z := mm; rw [gHd_of p1] at z; simpa using z) rfl (by simp)) sh_145 pl_145 (by decide) rfl rfl rfl (Nat.le_of_ble_eq_true rfl) (by show _ ≤ d; omega) ⟨Nat.le_refl _, Nat.le_refl _⟩ (fun μ' hc => ?_)
          obtain ⟨I13, J13, rfl, m13, fa13, fb13, fc13⟩ := hc
          refine gg_goto (tgt := 250) dX10_fold_161 (by decide) ?_
          refine gg_vretv dX10_fold_250 rfl ⟨rfl, rfl⟩ ?_
          refine ⟨I13, J13, rfl, ?_, fun p h1 h2 => (fa13 p h1 h2).trans ((fa10 p h1 h2).trans ((fa7 p h1 h2).trans (rfl))), fun q h1 h2 => (fb13 q h1 h2).trans ((fb10 q h1 h2).trans ((fb7 q h1 h2).trans (rfl))), fun p h1 => (fc13 p h1).trans ((fc10 p h1).trans ((fc7 p h1).trans (rfl)))⟩
          rw [gFd_is n K N Z i hi]
          unfold gfF
          simp only [hk]
          show gMd _ _ (B ++ gfNeg (gFd n K N Z (i + 1)))
          rw [show gfNeg (gFd n K N Z (i + 1)) = (gFd n K N Z (i + 1)).tail by unfold gfNeg; repeat' split; all_goals first | rfl | (exfalso; simp_all; done) | simp_all]
          exact m13
      · have hA0 : (gHd (gFd n K N Z (i + 1))).1 = 0 := by omega
        clear hb
        refine gg_aload_n dX10_fold_126 4 rfl ?_
        refine gg_iload_n dX10_fold_127 3 rfl ?_
        refine gg_aload_n dX10_fold_128 4 rfl ?_
        refine gg_getR (k' := 188) rfl gf_RX10_32 dX10_fold_129 sh_145 pl_145 (by decide) (by decide) rr_145_8 ?_
        refine gg_iload dX10_fold_132 0 rfl ?_
        refine gg_laldj (B.length + 1) dX10_fold_134 sh_188 pl_188 (by decide) rfl (by omega) ?_
        refine gg_toL (b := (gHd (gFd n K N Z (i + 1))).2) (mm.2.2.2 _ _ (gget_h1 p1)).2 ?_
        refine gg_lneg dX10_fold_135 ?_
        refine gg_callVv (own := RX10) (yt := gm_X10_becomes) rfl gl_RX10_196 gk_X10_becomes gr_X10_becomes dX10_fold_136 (c_X10_becomes (d := d - 1) (P := B) (R := (2, 0) :: (gFd n K N Z (i + 1))) (x := _) mm (by omega) (by omega)) sh_145 pl_145 (by decide) rfl rfl rfl (Nat.le_of_ble_eq_true rfl) (by show _ ≤ d; omega) ⟨Nat.le_refl _, Nat.le_refl _⟩ (fun μ' hc => ?_)
        obtain ⟨I15, J15, rfl, m15, fa15, fb15, fc15⟩ := hc
        refine gg_goto (tgt := 250) dX10_fold_139 (by decide) ?_
        refine gg_vretv dX10_fold_250 rfl ⟨rfl, rfl⟩ ?_
        refine ⟨I15, J15, rfl, ?_, fun p h1 h2 => (fa15 p h1 h2).trans ((fa10 p h1 h2).trans ((fa7 p h1 h2).trans (rfl))), fun q h1 h2 => (fb15 q h1 h2).trans ((fb10 q h1 h2).trans ((fb7 q h1 h2).trans (rfl))), fun p h1 => (fc15 p h1).trans ((fc10 p h1).trans ((fc7 p h1).trans (rfl)))⟩
        rw [gFd_is n K N Z i hi]
        unfold gfF
        simp only [hk]
        show gMd _ _ (B ++ gfNeg (gFd n K N Z (i + 1)))
        rw [show gfNeg (gFd n K N Z (i + 1)) = [(0, -(gHd (gFd n K N Z (i + 1))).2)] by unfold gfNeg; repeat' split; all_goals first | rfl | (exfalso; simp_all; done) | simp_all]
        exact m15
    · refine gg_toI (b := 3) (by omega) ?_
      refine gg_istore (ls' := [(4, .int (iv 3)), (3, .int (iv (B.length : Int))), (0, .ref (gad (gSS ad) 145)), (1, .int (iv (f : Int))), (2, .int (iv (i : Int)))]) dX10_fold_13 (by decide) rfl ?_
      refine gg_aload_n dX10_fold_15 2 rfl ?_
      refine gg_iload dX10_fold_16 0 rfl ?_
      refine gg_aload_n dX10_fold_18 2 rfl ?_
      refine gg_getR (k' := 160) rfl gf_RX10_20 dX10_fold_19 sh_145 pl_145 (by decide) (by decide) rr_145_2 ?_
      refine gg_iload_n dX10_fold_22 3 rfl ?_
      refine gg_aaldj (t := 7) f (k' := (161 + f)) dX10_fold_23 sh_160 (by decide) pl_160 (by decide) rfl hf (rr_160 hf) ?_
      refine gg_iload_n dX10_fold_24 4 rfl ?_
      refine gg_laldj i dX10_fold_25 (rs_160 hf) (rl_160 hf) (by decide) rfl (by omega) ?_
      refine gg_toL (b := N i) (hM0.2 i hi).2.1 ?_
      have q1 := hc1 (by rw [hk]; decide)
      have q2 := hc2 (by rw [hk]; decide)
      have hz := he2 (by rw [hk]; decide)
      obtain ⟨g1, v1, w1⟩ := gFd_ok hW _ q1
      obtain ⟨g2, v2, w2⟩ := gFd_ok hW _ q2
      have hN0 : N i = 0 := hzz (by omega) (by omega) (by omega)
      refine gg_callVv (own := RX10) (yt := gm_X10_put) rfl gl_RX10_102 gk_X10_put gr_X10_put dX10_fold_26 (c_X10_put (d := d - 1) (k := 3) (x := N i) (Or.inl hm)) sh_145 pl_145 (by decide) rfl rfl rfl (Nat.le_of_ble_eq_true rfl) (by show _ ≤ d; omega) ⟨Nat.le_refl _, Nat.le_refl _⟩ (fun μ' hc => ?_)
      obtain ⟨I17, J17, rfl, x17, fa17, fb17, fc17⟩ := hc
      have m17 := gMx_d x17 (by simp only [List.length_append, List.length_cons, List.length_nil]; omega)
      refine gg_iload_n dX10_fold_29 4 rfl ?_
      refine gg_iconst dX10_fold_30 ?_
      refine gg_iadd dX10_fold_31 ?_
      refine gg_toI (b := ((i + 1 : Nat) : Int)) (by omega) ?_
      refine gg_istore (ls' := [(5, .int (iv ((i + 1 : Nat) : Int))), (4, .int (iv 3)), (3, .int (iv (B.length : Int))), (0, .ref (gad (gSS ad) 145)), (1, .int (iv (f : Int))), (2, .int (iv (i : Int)))]) dX10_fold_32 (by decide) rfl ?_
      refine gg_iconst dX10_fold_34 ?_
      refine gg_istore (ls' := [(6, .int (iv 0)), (5, .int (iv ((i + 1 : Nat) : Int))), (4, .int (iv 3)), (3, .int (iv (B.length : Int))), (0, .ref (gad (gSS ad) 145)), (1, .int (iv (f : Int))), (2, .int (iv (i : Int)))]) dX10_fold_35 (by decide) rfl ?_
      refine gg_iload dX10_fold_37 0 rfl ?_
      refine gg_iload dX10_fold_39 2 rfl ?_
      refine gg_callSi (own := RX10) (yt := gm_X10_parts) rfl gl_RX10_98 gk_X10_parts gr_X10_parts dX10_fold_41 (c_X10_parts (d := d - 1) (k := 3) (by omega)) rfl rfl (Nat.le_of_ble_eq_true rfl) (by show _ ≤ d; omega) ⟨Nat.le_refl _, Nat.le_refl _⟩ (fun e19 μ' hc => ?_)
      obtain ⟨rfl, rfl⟩ := hc
      refine gg_toI (b := 2) rfl ?_
      refine gg_icmp_ge_f (tgt := 71) dX10_fold_44 (by decide) (by decide) (by decide) ?_
      refine gg_aload_n dX10_fold_47 4 rfl ?_
      refine gg_iload_n dX10_fold_48 5 rfl ?_
      refine gg_iload dX10_fold_49 1 rfl ?_
      refine gg_callVv (own := RX10) (yt := gm_X10_fold) rfl gl_RX10_192 gk_X10_fold gr_X10_fold dX10_fold_51 (ih (i + 1) q1 (by omega) (d - 1) (by omega) I17 J17 (B ++ [(3, N i)]) (gMt_d hf hM0 (fun p h1 h2 => (fa17 p h1 h2).trans (rfl)) (fun p h1 => (fc17 p h1).trans (rfl))) m17 (by simp only [List.length_append, List.length_cons, List.length_nil]; omega) (gNvs_app hBv (gNvs_cons (by rw [← hk]; exact hci) gNvs_nil))) sh_145 pl_145 (by decide) rfl rfl rfl (Nat.le_of_ble_eq_true rfl) (by show _ ≤ d; omega) ⟨Nat.le_refl _, Nat.le_refl _⟩ (fun μ' hc => ?_)
      obtain ⟨I20, J20, rfl, m20, fa20, fb20, fc20⟩ := hc
      refine gg_aload_n dX10_fold_54 4 rfl ?_
      refine gg_getR (k' := 173) rfl gf_RX10_23 dX10_fold_55 sh_145 pl_145 (by decide) (by decide) rr_145_3 ?_
      refine gg_iload_n dX10_fold_58 5 rfl ?_
      refine gg_aaldj (t := 6) f (k' := (174 + f)) dX10_fold_59 sh_173 (by decide) pl_173 (by decide) rfl (by omega) (rr_173 (by omega)) ?_
      refine gg_iload dX10_fold_60 1 rfl ?_
      refine gg_ialdj (i + 1) dX10_fold_62 (rs_173 (by omega)) (rl_173 (by omega)) (by decide) rfl (by omega) ?_
      refine gg_toI (b := (gPt Z i 1 : Int)) (by have := ((gMt_d hf hM0 (fun p h1 h2 => (fa20 p h1 h2).trans ((fa17 p h1 h2).trans (rfl))) (fun p h1 => (fc20 p h1).trans ((fc17 p h1).trans (rfl)))).2 (i + 1) q1).2.2; simp only [gPt] at this ⊢; omega) ?_
      refine gg_istore (ls' := [(5, .int (iv (gPt Z i 1 : Int))), (6, .int (iv 0)), (4, .int (iv 3)), (3, .int (iv (B.length : Int))), (0, .ref (gad (gSS ad) 145)), (1, .int (iv (f : Int))), (2, .int (iv (i : Int)))]) dX10_fold_63 (by decide) rfl ?_
      refine gg_iincv (ls' := [(6, .int (iv 1)), (5, .int (iv (gPt Z i 1 : Int))), (4, .int (iv 3)), (3, .int (iv (B.length : Int))), (0, .ref (gad (gSS ad) 145)), (1, .int (iv (f : Int))), (2, .int (iv (i : Int)))]) dX10_fold_65 1 rfl rfl (by decide) rfl ?_
      refine gg_goto (tgt := 37) dX10_fold_68 (by decide) ?_
      refine gg_iload dX10_fold_37 0 rfl ?_
      refine gg_iload dX10_fold_39 2 rfl ?_
      refine gg_callSi (own := RX10) (yt := gm_X10_parts) rfl gl_RX10_98 gk_X10_parts gr_X10_parts dX10_fold_41 (c_X10_parts (d := d - 1) (k := 3) (by omega)) rfl rfl (Nat.le_of_ble_eq_true rfl) (by show _ ≤ d; omega) ⟨Nat.le_refl _, Nat.le_refl _⟩ (fun e22 μ' hc => ?_)
      obtain ⟨rfl, rfl⟩ := hc
      refine gg_toI (b := 2) rfl ?_
      refine gg_icmp_ge_f (tgt := 71) dX10_fold_44 (by decide) (by decide) (by decide) ?_
      refine gg_aload_n dX10_fold_47 4 rfl ?_
      refine gg_iload_n dX10_fold_48 5 rfl ?_
      refine gg_iload dX10_fold_49 1 rfl ?_
      refine gg_callVv (own := RX10) (yt := gm_X10_fold) rfl gl_RX10_192 gk_X10_fold gr_X10_fold dX10_fold_51 (ih (gPt Z i 1) q2 (by omega) (d - 1) (by omega) I20 J20 ((B ++ [(3, N i)]) ++ (gFd n K N Z (i + 1))) (gMt_d hf hM0 (fun p h1 h2 => (fa20 p h1 h2).trans ((fa17 p h1 h2).trans (rfl))) (fun p h1 => (fc20 p h1).trans ((fc17 p h1).trans (rfl)))) m20 (by simp only [List.length_append, List.length_cons, List.length_nil]; omega) (gNvs_app (gNvs_app hBv (gNvs_cons (by rw [← hk]; exact hci) gNvs_nil)) v1)) sh_145 pl_145 (by decide) rfl rfl rfl (Nat.le_of_ble_eq_true rfl) (by show _ ≤ d; omega) ⟨Nat.le_refl _, Nat.le_refl _⟩ (fun μ' hc => ?_)
      obtain ⟨I23, J23, rfl, m23, fa23, fb23, fc23⟩ := hc
      refine gg_aload_n dX10_fold_54 4 rfl ?_
      refine gg_getR (k' := 173) rfl gf_RX10_23 dX10_fold_55 sh_145 pl_145 (by decide) (by decide) rr_145_3 ?_
      refine gg_iload_n dX10_fold_58 5 rfl ?_
      refine gg_aaldj (t := 6) f (k' := (174 + f)) dX10_fold_59 sh_173 (by decide) pl_173 (by decide) rfl (by omega) (rr_173 (by omega)) ?_
      refine gg_iload dX10_fold_60 1 rfl ?_
      refine gg_ialdj (gPt Z i 1) dX10_fold_62 (rs_173 (by omega)) (rl_173 (by omega)) (by decide) rfl (by omega) ?_
      refine gg_istore (ls' := [(5, .int (iv (I23 (174 + f) (gPt Z i 1)))), (6, .int (iv 1)), (4, .int (iv 3)), (3, .int (iv (B.length : Int))), (0, .ref (gad (gSS ad) 145)), (1, .int (iv (f : Int))), (2, .int (iv (i : Int)))]) dX10_fold_63 (by decide) rfl ?_
      refine gg_iincv (ls' := [(6, .int (iv 2)), (5, .int (iv (I23 (174 + f) (gPt Z i 1)))), (4, .int (iv 3)), (3, .int (iv (B.length : Int))), (0, .ref (gad (gSS ad) 145)), (1, .int (iv (f : Int))), (2, .int (iv (i : Int)))]) dX10_fold_65 1 rfl rfl (by decide) rfl ?_
      refine gg_goto (tgt := 37) dX10_fold_68 (by decide) ?_
      refine gg_iload dX10_fold_37 0 rfl ?_
      refine gg_iload dX10_fold_39 2 rfl ?_
      refine gg_callSi (own := RX10) (yt := gm_X10_parts) rfl gl_RX10_98 gk_X10_parts gr_X10_parts dX10_fold_41 (c_X10_parts (d := d - 1) (k := 3) (by omega)) rfl rfl (Nat.le_of_ble_eq_true rfl) (by show _ ≤ d; omega) ⟨Nat.le_refl _, Nat.le_refl _⟩ (fun e25 μ' hc => ?_)
      obtain ⟨rfl, rfl⟩ := hc
      refine gg_toI (b := 2) rfl ?_
      refine gg_icmp_ge_t (tgt := 71) dX10_fold_44 (by decide) (by decide) (by decide) ?_
      have mm : gMd I23 J23 (B ++ ((3, 0) :: ((gFd n K N Z (i + 1)) ++ (gFd n K N Z (gPt Z i 1))))) := by
        have z := m23
        rw [hN0] at z
        simpa using z
      have hll : (B ++ ((3, 0) :: ((gFd n K N Z (i + 1)) ++ (gFd n K N Z (gPt Z i 1))))).length = B.length + 1 + (gFd n K N Z (i + 1)).length + (gFd n K N Z (gPt Z i 1)).length := by simp only [List.length_append, List.length_cons]; omega
      have hml := mm.2.1
      have p1 := gFo_pos g1 (Nat.le_refl _)
      have e1 := (v1 _ (gHd_mem p1)).1
      have p2 := gFo_pos g2 (Nat.le_refl _)
      have e2 := (v2 _ (gHd_mem p2)).1
      refine gg_iload_n dX10_fold_71 3 rfl ?_
      refine gg_iconst dX10_fold_72 ?_
      refine gg_iadd dX10_fold_73 ?_
      refine gg_toI (b := ((B.length + 1 : Nat) : Int)) (by omega) ?_
      refine gg_istore (ls' := [(6, .int (iv ((B.length + 1 : Nat) : Int))), (5, .int (iv (I23 (174 + f) (gPt Z i 1)))), (4, .int (iv 3)), (3, .int (iv (B.length : Int))), (0, .ref (gad (gSS ad) 145)), (1, .int (iv (f : Int))), (2, .int (iv (i : Int)))]) dX10_fold_74 (by decide) rfl ?_
      refine gg_iload dX10_fold_76 2 rfl ?_
      refine gg_tsw (off := 86) (tgt := 164) dX10_fold_78 (by decide) (by decide) rfl (by decide) ?_
      refine gg_aload_n dX10_fold_164 4 rfl ?_
      refine gg_iload_n dX10_fold_165 3 rfl ?_
      refine gg_aload_n dX10_fold_166 4 rfl ?_
      refine gg_iload dX10_fold_167 0 rfl ?_
      refine gg_callVi (own := RX10) (yt := gm_X10_madeEnd) rfl gl_RX10_106 gk_X10_madeEnd gr_X10_madeEnd dX10_fold_169 (c_X10_madeEnd (d := d - 1) (B := (B ++ ((3, 0) :: ((gFd n K N Z (i + 1)) ++ (gFd n K N Z (gPt Z i 1)))))) (tl := (gFd n K N Z (i + 1))) (r := (gFd n K N Z (gPt Z i 1))) (fr := B.length + 1) mm.2.2.2 mm.2.1 (fun c hc => ((gNvs_app hBv (gNvs_cons (gNv_z (by omega) (by omega) (by omega)) (gNvs_app v1 v2))) c hc).1) g1 (gdrop (a := [(3, 0)]) (by rw [List.drop_left]; rfl)) (by omega)) sh_145 pl_145 (by decide) rfl rfl rfl (Nat.le_of_ble_eq_true rfl) (by show _ ≤ d; omega) ⟨Nat.le_refl _, Nat.le_refl _⟩ (fun e26 μ' hc => ?_)
      obtain ⟨rfl, rfl⟩ := hc
      refine gg_callVv (own := RX10) (yt := gm_X10_foldSum) rfl gl_RX10_202 gk_X10_foldSum gr_X10_foldSum dX10_fold_172 (c_X10_foldSum (d := d - 1) (P := B) (A := (gFd n K N Z (i + 1))) (C := (gFd n K N Z (gPt Z i 1))) mm p1 p2 e1 e2 (by omega)) sh_145 pl_145 (by decide) rfl rfl rfl (Nat.le_of_ble_eq_true rfl) (by show _ ≤ d; omega) ⟨Nat.le_refl _, Nat.le_refl _⟩ (fun μ' hc => ?_)
      obtain ⟨I27, J27, rfl, m27, fa27, fb27, fc27⟩ := hc
      refine gg_goto (tgt := 250) dX10_fold_175 (by decide) ?_
      refine gg_vretv dX10_fold_250 rfl ⟨rfl, rfl⟩ ?_
      refine ⟨I27, J27, rfl, ?_, fun p h1 h2 => (fa27 p h1 h2).trans ((fa23 p h1 h2).trans ((fa20 p h1 h2).trans ((fa17 p h1 h2).trans (rfl)))), fun q h1 h2 => (fb27 q h1 h2).trans ((fb23 q h1 h2).trans ((fb20 q h1 h2).trans ((fb17 q h1 h2).trans (rfl)))), fun p h1 => (fc27 p h1).trans ((fc23 p h1).trans ((fc20 p h1).trans ((fc17 p h1).trans (rfl))))⟩
      rw [gFd_is n K N Z i hi]
      unfold gfF
      simp only [hk]
      exact m27
    · refine gg_toI (b := 4) (by omega) ?_
      refine gg_istore (ls' := [(4, .int (iv 4)), (3, .int (iv (B.length : Int))), (0, .ref (gad (gSS ad) 145)), (1, .int (iv (f : Int))), (2, .int (iv (i : Int)))]) dX10_fold_13 (by decide) rfl ?_
      refine gg_aload_n dX10_fold_15 2 rfl ?_
      refine gg_iload dX10_fold_16 0 rfl ?_
      refine gg_aload_n dX10_fold_18 2 rfl ?_
      refine gg_getR (k' := 160) rfl gf_RX10_20 dX10_fold_19 sh_145 pl_145 (by decide) (by decide) rr_145_2 ?_
      refine gg_iload_n dX10_fold_22 3 rfl ?_
      refine gg_aaldj (t := 7) f (k' := (161 + f)) dX10_fold_23 sh_160 (by decide) pl_160 (by decide) rfl hf (rr_160 hf) ?_
      refine gg_iload_n dX10_fold_24 4 rfl ?_
      refine gg_laldj i dX10_fold_25 (rs_160 hf) (rl_160 hf) (by decide) rfl (by omega) ?_
      refine gg_toL (b := N i) (hM0.2 i hi).2.1 ?_
      have q1 := hc1 (by rw [hk]; decide)
      have q2 := hc2 (by rw [hk]; decide)
      have hz := he2 (by rw [hk]; decide)
      obtain ⟨g1, v1, w1⟩ := gFd_ok hW _ q1
      obtain ⟨g2, v2, w2⟩ := gFd_ok hW _ q2
      have hN0 : N i = 0 := hzz (by omega) (by omega) (by omega)
      refine gg_callVv (own := RX10) (yt := gm_X10_put) rfl gl_RX10_102 gk_X10_put gr_X10_put dX10_fold_26 (c_X10_put (d := d - 1) (k := 4) (x := N i) (Or.inl hm)) sh_145 pl_145 (by decide) rfl rfl rfl (Nat.le_of_ble_eq_true rfl) (by show _ ≤ d; omega) ⟨Nat.le_refl _, Nat.le_refl _⟩ (fun μ' hc => ?_)
      obtain ⟨I29, J29, rfl, x29, fa29, fb29, fc29⟩ := hc
      have m29 := gMx_d x29 (by simp only [List.length_append, List.length_cons, List.length_nil]; omega)
      refine gg_iload_n dX10_fold_29 4 rfl ?_
      refine gg_iconst dX10_fold_30 ?_
      refine gg_iadd dX10_fold_31 ?_
      refine gg_toI (b := ((i + 1 : Nat) : Int)) (by omega) ?_
      refine gg_istore (ls' := [(5, .int (iv ((i + 1 : Nat) : Int))), (4, .int (iv 4)), (3, .int (iv (B.length : Int))), (0, .ref (gad (gSS ad) 145)), (1, .int (iv (f : Int))), (2, .int (iv (i : Int)))]) dX10_fold_32 (by decide) rfl ?_
      refine gg_iconst dX10_fold_34 ?_
      refine gg_istore (ls' := [(6, .int (iv 0)), (5, .int (iv ((i + 1 : Nat) : Int))), (4, .int (iv 4)), (3, .int (iv (B.length : Int))), (0, .ref (gad (gSS ad) 145)), (1, .int (iv (f : Int))), (2, .int (iv (i : Int)))]) dX10_fold_35 (by decide) rfl ?_
      refine gg_iload dX10_fold_37 0 rfl ?_
      refine gg_iload dX10_fold_39 2 rfl ?_
      refine gg_callSi (own := RX10) (yt := gm_X10_parts) rfl gl_RX10_98 gk_X10_parts gr_X10_parts dX10_fold_41 (c_X10_parts (d := d - 1) (k := 4) (by omega)) rfl rfl (Nat.le_of_ble_eq_true rfl) (by show _ ≤ d; omega) ⟨Nat.le_refl _, Nat.le_refl _⟩ (fun e31 μ' hc => ?_)
      obtain ⟨rfl, rfl⟩ := hc
      refine gg_toI (b := 2) rfl ?_
      refine gg_icmp_ge_f (tgt := 71) dX10_fold_44 (by decide) (by decide) (by decide) ?_
      refine gg_aload_n dX10_fold_47 4 rfl ?_
      refine gg_iload_n dX10_fold_48 5 rfl ?_
      refine gg_iload dX10_fold_49 1 rfl ?_
      refine gg_callVv (own := RX10) (yt := gm_X10_fold) rfl gl_RX10_192 gk_X10_fold gr_X10_fold dX10_fold_51 (ih (i + 1) q1 (by omega) (d - 1) (by omega) I29 J29 (B ++ [(4, N i)]) (gMt_d hf hM0 (fun p h1 h2 => (fa29 p h1 h2).trans (rfl)) (fun p h1 => (fc29 p h1).trans (rfl))) m29 (by simp only [List.length_append, List.length_cons, List.length_nil]; omega) (gNvs_app hBv (gNvs_cons (by rw [← hk]; exact hci) gNvs_nil))) sh_145 pl_145 (by decide) rfl rfl rfl (Nat.le_of_ble_eq_true rfl) (by show _ ≤ d; omega) ⟨Nat.le_refl _, Nat.le_refl _⟩ (fun μ' hc => ?_)
      obtain ⟨I32, J32, rfl, m32, fa32, fb32, fc32⟩ := hc
      refine gg_aload_n dX10_fold_54 4 rfl ?_
      refine gg_getR (k' := 173) rfl gf_RX10_23 dX10_fold_55 sh_145 pl_145 (by decide) (by decide) rr_145_3 ?_
      refine gg_iload_n dX10_fold_58 5 rfl ?_
      refine gg_aaldj (t := 6) f (k' := (174 + f)) dX10_fold_59 sh_173 (by decide) pl_173 (by decide) rfl (by omega) (rr_173 (by omega)) ?_
      refine gg_iload dX10_fold_60 1 rfl ?_
      refine gg_ialdj (i + 1) dX10_fold_62 (rs_173 (by omega)) (rl_173 (by omega)) (by decide) rfl (by omega) ?_
      refine gg_toI (b := (gPt Z i 1 : Int)) (by have := ((gMt_d hf hM0 (fun p h1 h2 => (fa32 p h1 h2).trans ((fa29 p h1 h2).trans (rfl))) (fun p h1 => (fc32 p h1).trans ((fc29 p h1).trans (rfl)))).2 (i + 1) q1).2.2; simp only [gPt] at this ⊢; omega) ?_
      refine gg_istore (ls' := [(5, .int (iv (gPt Z i 1 : Int))), (6, .int (iv 0)), (4, .int (iv 4)), (3, .int (iv (B.length : Int))), (0, .ref (gad (gSS ad) 145)), (1, .int (iv (f : Int))), (2, .int (iv (i : Int)))]) dX10_fold_63 (by decide) rfl ?_
      refine gg_iincv (ls' := [(6, .int (iv 1)), (5, .int (iv (gPt Z i 1 : Int))), (4, .int (iv 4)), (3, .int (iv (B.length : Int))), (0, .ref (gad (gSS ad) 145)), (1, .int (iv (f : Int))), (2, .int (iv (i : Int)))]) dX10_fold_65 1 rfl rfl (by decide) rfl ?_
      refine gg_goto (tgt := 37) dX10_fold_68 (by decide) ?_
      refine gg_iload dX10_fold_37 0 rfl ?_
      refine gg_iload dX10_fold_39 2 rfl ?_
      refine gg_callSi (own := RX10) (yt := gm_X10_parts) rfl gl_RX10_98 gk_X10_parts gr_X10_parts dX10_fold_41 (c_X10_parts (d := d - 1) (k := 4) (by omega)) rfl rfl (Nat.le_of_ble_eq_true rfl) (by show _ ≤ d; omega) ⟨Nat.le_refl _, Nat.le_refl _⟩ (fun e34 μ' hc => ?_)
      obtain ⟨rfl, rfl⟩ := hc
      refine gg_toI (b := 2) rfl ?_
      refine gg_icmp_ge_f (tgt := 71) dX10_fold_44 (by decide) (by decide) (by decide) ?_
      refine gg_aload_n dX10_fold_47 4 rfl ?_
      refine gg_iload_n dX10_fold_48 5 rfl ?_
      refine gg_iload dX10_fold_49 1 rfl ?_
      refine gg_callVv (own := RX10) (yt := gm_X10_fold) rfl gl_RX10_192 gk_X10_fold gr_X10_fold dX10_fold_51 (ih (gPt Z i 1) q2 (by omega) (d - 1) (by omega) I32 J32 ((B ++ [(4, N i)]) ++ (gFd n K N Z (i + 1))) (gMt_d hf hM0 (fun p h1 h2 => (fa32 p h1 h2).trans ((fa29 p h1 h2).trans (rfl))) (fun p h1 => (fc32 p h1).trans ((fc29 p h1).trans (rfl)))) m32 (by simp only [List.length_append, List.length_cons, List.length_nil]; omega) (gNvs_app (gNvs_app hBv (gNvs_cons (by rw [← hk]; exact hci) gNvs_nil)) v1)) sh_145 pl_145 (by decide) rfl rfl rfl (Nat.le_of_ble_eq_true rfl) (by show _ ≤ d; omega) ⟨Nat.le_refl _, Nat.le_refl _⟩ (fun μ' hc => ?_)
      obtain ⟨I35, J35, rfl, m35, fa35, fb35, fc35⟩ := hc
      refine gg_aload_n dX10_fold_54 4 rfl ?_
      refine gg_getR (k' := 173) rfl gf_RX10_23 dX10_fold_55 sh_145 pl_145 (by decide) (by decide) rr_145_3 ?_
      refine gg_iload_n dX10_fold_58 5 rfl ?_
      refine gg_aaldj (t := 6) f (k' := (174 + f)) dX10_fold_59 sh_173 (by decide) pl_173 (by decide) rfl (by omega) (rr_173 (by omega)) ?_
      refine gg_iload dX10_fold_60 1 rfl ?_
      refine gg_ialdj (gPt Z i 1) dX10_fold_62 (rs_173 (by omega)) (rl_173 (by omega)) (by decide) rfl (by omega) ?_
      refine gg_istore (ls' := [(5, .int (iv (I35 (174 + f) (gPt Z i 1)))), (6, .int (iv 1)), (4, .int (iv 4)), (3, .int (iv (B.length : Int))), (0, .ref (gad (gSS ad) 145)), (1, .int (iv (f : Int))), (2, .int (iv (i : Int)))]) dX10_fold_63 (by decide) rfl ?_
      refine gg_iincv (ls' := [(6, .int (iv 2)), (5, .int (iv (I35 (174 + f) (gPt Z i 1)))), (4, .int (iv 4)), (3, .int (iv (B.length : Int))), (0, .ref (gad (gSS ad) 145)), (1, .int (iv (f : Int))), (2, .int (iv (i : Int)))]) dX10_fold_65 1 rfl rfl (by decide) rfl ?_
      refine gg_goto (tgt := 37) dX10_fold_68 (by decide) ?_
      refine gg_iload dX10_fold_37 0 rfl ?_
      refine gg_iload dX10_fold_39 2 rfl ?_
      refine gg_callSi (own := RX10) (yt := gm_X10_parts) rfl gl_RX10_98 gk_X10_parts gr_X10_parts dX10_fold_41 (c_X10_parts (d := d - 1) (k := 4) (by omega)) rfl rfl (Nat.le_of_ble_eq_true rfl) (by show _ ≤ d; omega) ⟨Nat.le_refl _, Nat.le_refl _⟩ (fun e37 μ' hc => ?_)
      obtain ⟨rfl, rfl⟩ := hc
      refine gg_toI (b := 2) rfl ?_
      refine gg_icmp_ge_t (tgt := 71) dX10_fold_44 (by decide) (by decide) (by decide) ?_
      have mm : gMd I35 J35 (B ++ ((4, 0) :: ((gFd n K N Z (i + 1)) ++ (gFd n K N Z (gPt Z i 1))))) := by
        have z := m35
        rw [hN0] at z
        simpa using z
      have hll : (B ++ ((4, 0) :: ((gFd n K N Z (i + 1)) ++ (gFd n K N Z (gPt Z i 1))))).length = B.length + 1 + (gFd n K N Z (i + 1)).length + (gFd n K N Z (gPt Z i 1)).length := by simp only [List.length_append, List.length_cons]; omega
      have hml := mm.2.1
      have p1 := gFo_pos g1 (Nat.le_refl _)
      have e1 := (v1 _ (gHd_mem p1)).1
      have p2 := gFo_pos g2 (Nat.le_refl _)
      have e2 := (v2 _ (gHd_mem p2)).1
      refine gg_iload_n dX10_fold_71 3 rfl ?_
      refine gg_iconst dX10_fold_72 ?_
      refine gg_iadd dX10_fold_73 ?_
      refine gg_toI (b := ((B.length + 1 : Nat) : Int)) (by omega) ?_
      refine gg_istore (ls' := [(6, .int (iv ((B.length + 1 : Nat) : Int))), (5, .int (iv (I35 (174 + f) (gPt Z i 1)))), (4, .int (iv 4)), (3, .int (iv (B.length : Int))), (0, .ref (gad (gSS ad) 145)), (1, .int (iv (f : Int))), (2, .int (iv (i : Int)))]) dX10_fold_74 (by decide) rfl ?_
      refine gg_iload dX10_fold_76 2 rfl ?_
      refine gg_tsw (off := 100) (tgt := 178) dX10_fold_78 (by decide) (by decide) rfl (by decide) ?_
      refine gg_aload_n dX10_fold_178 4 rfl ?_
      refine gg_iload_n dX10_fold_179 3 rfl ?_
      refine gg_aload_n dX10_fold_180 4 rfl ?_
      refine gg_iload dX10_fold_181 0 rfl ?_
      refine gg_callVi (own := RX10) (yt := gm_X10_madeEnd) rfl gl_RX10_106 gk_X10_madeEnd gr_X10_madeEnd dX10_fold_183 (c_X10_madeEnd (d := d - 1) (B := (B ++ ((4, 0) :: ((gFd n K N Z (i + 1)) ++ (gFd n K N Z (gPt Z i 1)))))) (tl := (gFd n K N Z (i + 1))) (r := (gFd n K N Z (gPt Z i 1))) (fr := B.length + 1) mm.2.2.2 mm.2.1 (fun c hc => ((gNvs_app hBv (gNvs_cons (gNv_z (by omega) (by omega) (by omega)) (gNvs_app v1 v2))) c hc).1) g1 (gdrop (a := [(4, 0)]) (by rw [List.drop_left]; rfl)) (by omega)) sh_145 pl_145 (by decide) rfl rfl rfl (Nat.le_of_ble_eq_true rfl) (by show _ ≤ d; omega) ⟨Nat.le_refl _, Nat.le_refl _⟩ (fun e38 μ' hc => ?_)
      obtain ⟨rfl, rfl⟩ := hc
      refine gg_callVv (own := RX10) (yt := gm_X10_foldProduct) rfl gl_RX10_205 gk_X10_foldProduct gr_X10_foldProduct dX10_fold_186 (c_X10_foldProduct (d := d - 1) (P := B) (A := (gFd n K N Z (i + 1))) (C := (gFd n K N Z (gPt Z i 1))) mm p1 p2 e1 e2 (by omega)) sh_145 pl_145 (by decide) rfl rfl rfl (Nat.le_of_ble_eq_true rfl) (by show _ ≤ d; omega) ⟨Nat.le_refl _, Nat.le_refl _⟩ (fun μ' hc => ?_)
      obtain ⟨I39, J39, rfl, m39, fa39, fb39, fc39⟩ := hc
      refine gg_goto (tgt := 250) dX10_fold_189 (by decide) ?_
      refine gg_vretv dX10_fold_250 rfl ⟨rfl, rfl⟩ ?_
      refine ⟨I39, J39, rfl, ?_, fun p h1 h2 => (fa39 p h1 h2).trans ((fa35 p h1 h2).trans ((fa32 p h1 h2).trans ((fa29 p h1 h2).trans (rfl)))), fun q h1 h2 => (fb39 q h1 h2).trans ((fb35 q h1 h2).trans ((fb32 q h1 h2).trans ((fb29 q h1 h2).trans (rfl)))), fun p h1 => (fc39 p h1).trans ((fc35 p h1).trans ((fc32 p h1).trans ((fc29 p h1).trans (rfl))))⟩
      rw [gFd_is n K N Z i hi]
      unfold gfF
      simp only [hk]
      exact m39
    · refine gg_toI (b := 5) (by omega) ?_
      refine gg_istore (ls' := [(4, .int (iv 5)), (3, .int (iv (B.length : Int))), (0, .ref (gad (gSS ad) 145)), (1, .int (iv (f : Int))), (2, .int (iv (i : Int)))]) dX10_fold_13 (by decide) rfl ?_
      refine gg_aload_n dX10_fold_15 2 rfl ?_
      refine gg_iload dX10_fold_16 0 rfl ?_
      refine gg_aload_n dX10_fold_18 2 rfl ?_
      refine gg_getR (k' := 160) rfl gf_RX10_20 dX10_fold_19 sh_145 pl_145 (by decide) (by decide) rr_145_2 ?_
      refine gg_iload_n dX10_fold_22 3 rfl ?_
      refine gg_aaldj (t := 7) f (k' := (161 + f)) dX10_fold_23 sh_160 (by decide) pl_160 (by decide) rfl hf (rr_160 hf) ?_
      refine gg_iload_n dX10_fold_24 4 rfl ?_
      refine gg_laldj i dX10_fold_25 (rs_160 hf) (rl_160 hf) (by decide) rfl (by omega) ?_
      refine gg_toL (b := N i) (hM0.2 i hi).2.1 ?_
      have q1 := hc1 (by rw [hk]; decide)
      have hz := he1 (by rw [hk]; decide)
      obtain ⟨g1, v1, w1⟩ := gFd_ok hW _ q1
      obtain ⟨m0, hm0, hNm⟩ := hpw hk
      refine gg_callVv (own := RX10) (yt := gm_X10_put) rfl gl_RX10_102 gk_X10_put gr_X10_put dX10_fold_26 (c_X10_put (d := d - 1) (k := 5) (x := N i) (Or.inl hm)) sh_145 pl_145 (by decide) rfl rfl rfl (Nat.le_of_ble_eq_true rfl) (by show _ ≤ d; omega) ⟨Nat.le_refl _, Nat.le_refl _⟩ (fun μ' hc => ?_)
      obtain ⟨I41, J41, rfl, x41, fa41, fb41, fc41⟩ := hc
      have m41 := gMx_d x41 (by simp only [List.length_append, List.length_cons, List.length_nil]; omega)
      refine gg_iload_n dX10_fold_29 4 rfl ?_
      refine gg_iconst dX10_fold_30 ?_
      refine gg_iadd dX10_fold_31 ?_
      refine gg_toI (b := ((i + 1 : Nat) : Int)) (by omega) ?_
      refine gg_istore (ls' := [(5, .int (iv ((i + 1 : Nat) : Int))), (4, .int (iv 5)), (3, .int (iv (B.length : Int))), (0, .ref (gad (gSS ad) 145)), (1, .int (iv (f : Int))), (2, .int (iv (i : Int)))]) dX10_fold_32 (by decide) rfl ?_
      refine gg_iconst dX10_fold_34 ?_
      refine gg_istore (ls' := [(6, .int (iv 0)), (5, .int (iv ((i + 1 : Nat) : Int))), (4, .int (iv 5)), (3, .int (iv (B.length : Int))), (0, .ref (gad (gSS ad) 145)), (1, .int (iv (f : Int))), (2, .int (iv (i : Int)))]) dX10_fold_35 (by decide) rfl ?_
      refine gg_iload dX10_fold_37 0 rfl ?_
      refine gg_iload dX10_fold_39 2 rfl ?_
      refine gg_callSi (own := RX10) (yt := gm_X10_parts) rfl gl_RX10_98 gk_X10_parts gr_X10_parts dX10_fold_41 (c_X10_parts (d := d - 1) (k := 5) (by omega)) rfl rfl (Nat.le_of_ble_eq_true rfl) (by show _ ≤ d; omega) ⟨Nat.le_refl _, Nat.le_refl _⟩ (fun e43 μ' hc => ?_)
      obtain ⟨rfl, rfl⟩ := hc
      refine gg_toI (b := 1) rfl ?_
      refine gg_icmp_ge_f (tgt := 71) dX10_fold_44 (by decide) (by decide) (by decide) ?_
      refine gg_aload_n dX10_fold_47 4 rfl ?_
      refine gg_iload_n dX10_fold_48 5 rfl ?_
      refine gg_iload dX10_fold_49 1 rfl ?_
      refine gg_callVv (own := RX10) (yt := gm_X10_fold) rfl gl_RX10_192 gk_X10_fold gr_X10_fold dX10_fold_51 (ih (i + 1) q1 (by omega) (d - 1) (by omega) I41 J41 (B ++ [(5, N i)]) (gMt_d hf hM0 (fun p h1 h2 => (fa41 p h1 h2).trans (rfl)) (fun p h1 => (fc41 p h1).trans (rfl))) m41 (by simp only [List.length_append, List.length_cons, List.length_nil]; omega) (gNvs_app hBv (gNvs_cons (by rw [← hk]; exact hci) gNvs_nil))) sh_145 pl_145 (by decide) rfl rfl rfl (Nat.le_of_ble_eq_true rfl) (by show _ ≤ d; omega) ⟨Nat.le_refl _, Nat.le_refl _⟩ (fun μ' hc => ?_)
      obtain ⟨I44, J44, rfl, m44, fa44, fb44, fc44⟩ := hc
      refine gg_aload_n dX10_fold_54 4 rfl ?_
      refine gg_getR (k' := 173) rfl gf_RX10_23 dX10_fold_55 sh_145 pl_145 (by decide) (by decide) rr_145_3 ?_
      refine gg_iload_n dX10_fold_58 5 rfl ?_
      refine gg_aaldj (t := 6) f (k' := (174 + f)) dX10_fold_59 sh_173 (by decide) pl_173 (by decide) rfl (by omega) (rr_173 (by omega)) ?_
      refine gg_iload dX10_fold_60 1 rfl ?_
      refine gg_ialdj (i + 1) dX10_fold_62 (rs_173 (by omega)) (rl_173 (by omega)) (by decide) rfl (by omega) ?_
      refine gg_istore (ls' := [(5, .int (iv (I44 (174 + f) (i + 1)))), (6, .int (iv 0)), (4, .int (iv 5)), (3, .int (iv (B.length : Int))), (0, .ref (gad (gSS ad) 145)), (1, .int (iv (f : Int))), (2, .int (iv (i : Int)))]) dX10_fold_63 (by decide) rfl ?_
      refine gg_iincv (ls' := [(6, .int (iv 1)), (5, .int (iv (I44 (174 + f) (i + 1)))), (4, .int (iv 5)), (3, .int (iv (B.length : Int))), (0, .ref (gad (gSS ad) 145)), (1, .int (iv (f : Int))), (2, .int (iv (i : Int)))]) dX10_fold_65 1 rfl rfl (by decide) rfl ?_
      refine gg_goto (tgt := 37) dX10_fold_68 (by decide) ?_
      refine gg_iload dX10_fold_37 0 rfl ?_
      refine gg_iload dX10_fold_39 2 rfl ?_
      refine gg_callSi (own := RX10) (yt := gm_X10_parts) rfl gl_RX10_98 gk_X10_parts gr_X10_parts dX10_fold_41 (c_X10_parts (d := d - 1) (k := 5) (by omega)) rfl rfl (Nat.le_of_ble_eq_true rfl) (by show _ ≤ d; omega) ⟨Nat.le_refl _, Nat.le_refl _⟩ (fun e46 μ' hc => ?_)
      obtain ⟨rfl, rfl⟩ := hc
      refine gg_toI (b := 1) rfl ?_
      refine gg_icmp_ge_t (tgt := 71) dX10_fold_44 (by decide) (by decide) (by decide) ?_
      have mm : gMd I44 J44 (B ++ ((5, Int64.ofNat m0) :: (gFd n K N Z (i + 1)))) := by
        have z := m44
        rw [hNm] at z
        simpa using z
      have hll : (B ++ ((5, Int64.ofNat m0) :: (gFd n K N Z (i + 1)))).length = B.length + 1 + (gFd n K N Z (i + 1)).length := by simp only [List.length_append, List.length_cons]; omega
      have hml := mm.2.1
      have p1 := gFo_pos g1 (Nat.le_refl _)
      have e1 := (v1 _ (gHd_mem p1)).1
      refine gg_iload_n dX10_fold_71 3 rfl ?_
      refine gg_iconst dX10_fold_72 ?_
      refine gg_iadd dX10_fold_73 ?_
      refine gg_toI (b := ((B.length + 1 : Nat) : Int)) (by omega) ?_
      refine gg_istore (ls' := [(6, .int (iv ((B.length + 1 : Nat) : Int))), (5, .int (iv (I44 (174 + f) (i + 1)))), (4, .int (iv 5)), (3, .int (iv (B.length : Int))), (0, .ref (gad (gSS ad) 145)), (1, .int (iv (f : Int))), (2, .int (iv (i : Int)))]) dX10_fold_74 (by decide) rfl ?_
      refine gg_iload dX10_fold_76 2 rfl ?_
      refine gg_tsw (off := 114) (tgt := 192) dX10_fold_78 (by decide) (by decide) rfl (by decide) ?_
      refine gg_aload_n dX10_fold_192 4 rfl ?_
      refine gg_iload_n dX10_fold_193 3 rfl ?_
      refine gg_aload_n dX10_fold_194 4 rfl ?_
      refine gg_getR (k' := 160) rfl gf_RX10_20 dX10_fold_195 sh_145 pl_145 (by decide) (by decide) rr_145_2 ?_
      refine gg_iload_n dX10_fold_198 5 rfl ?_
      refine gg_aaldj (t := 7) f (k' := (161 + f)) dX10_fold_199 sh_160 (by decide) pl_160 (by decide) rfl hf (rr_160 hf) ?_
      refine gg_iload_n dX10_fold_200 6 rfl ?_
      refine gg_laldj i dX10_fold_201 (rs_160 hf) (rl_160 hf) (by decide) rfl (by omega) ?_
      refine gg_toL (b := Int64.ofNat m0) (by rw [((gMt_d hf hM0 (fun p h1 h2 => (fa44 p h1 h2).trans ((fa41 p h1 h2).trans (rfl))) (fun p h1 => (fc44 p h1).trans ((fc41 p h1).trans (rfl)))).2 i hi).2.1]; exact hNm) ?_
      refine gg_l2i dX10_fold_202 ?_
      refine gg_toI (b := (m0 : Int)) (gl2i_nat (by omega)) ?_
      refine gg_callVv (own := RX10) (yt := gm_X10_foldPower) rfl gl_RX10_208 gk_X10_foldPower gr_X10_foldPower dX10_fold_203 (c_X10_foldPower (d := d - 1) (P := B) (A := (gFd n K N Z (i + 1))) hm0 mm p1 e1 (by omega)) sh_145 pl_145 (by decide) rfl rfl rfl (Nat.le_of_ble_eq_true rfl) (by show _ ≤ d; omega) ⟨Nat.le_refl _, Nat.le_refl _⟩ (fun μ' hc => ?_)
      obtain ⟨I47, J47, rfl, m47, fa47, fb47, fc47⟩ := hc
      refine gg_goto (tgt := 250) dX10_fold_206 (by decide) ?_
      refine gg_vretv dX10_fold_250 rfl ⟨rfl, rfl⟩ ?_
      refine ⟨I47, J47, rfl, ?_, fun p h1 h2 => (fa47 p h1 h2).trans ((fa44 p h1 h2).trans ((fa41 p h1 h2).trans (rfl))), fun q h1 h2 => (fb47 q h1 h2).trans ((fb44 q h1 h2).trans ((fb41 q h1 h2).trans (rfl))), fun p h1 => (fc47 p h1).trans ((fc44 p h1).trans ((fc41 p h1).trans (rfl)))⟩
      rw [gFd_is n K N Z i hi]
      unfold gfF
      simp only [hk]
      rw [hNm]
      exact m47
    · refine gg_toI (b := 6) (by omega) ?_
      refine gg_istore (ls' := [(4, .int (iv 6)), (3, .int (iv (B.length : Int))), (0, .ref (gad (gSS ad) 145)), (1, .int (iv (f : Int))), (2, .int (iv (i : Int)))]) dX10_fold_13 (by decide) rfl ?_
      refine gg_aload_n dX10_fold_15 2 rfl ?_
      refine gg_iload dX10_fold_16 0 rfl ?_
      refine gg_aload_n dX10_fold_18 2 rfl ?_
      refine gg_getR (k' := 160) rfl gf_RX10_20 dX10_fold_19 sh_145 pl_145 (by decide) (by decide) rr_145_2 ?_
      refine gg_iload_n dX10_fold_22 3 rfl ?_
      refine gg_aaldj (t := 7) f (k' := (161 + f)) dX10_fold_23 sh_160 (by decide) pl_160 (by decide) rfl hf (rr_160 hf) ?_
      refine gg_iload_n dX10_fold_24 4 rfl ?_
      refine gg_laldj i dX10_fold_25 (rs_160 hf) (rl_160 hf) (by decide) rfl (by omega) ?_
      refine gg_toL (b := N i) (hM0.2 i hi).2.1 ?_
      have q1 := hc1 (by rw [hk]; decide)
      have q2 := hc2 (by rw [hk]; decide)
      have q3 := hc3 (by rw [hk]; decide)
      have hz := he3 (by rw [hk]; decide)
      obtain ⟨g1, v1, w1⟩ := gFd_ok hW _ q1
      obtain ⟨g2, v2, w2⟩ := gFd_ok hW _ q2
      obtain ⟨g3, v3, w3⟩ := gFd_ok hW _ q3
      have hN0 : N i = 0 := hzz (by omega) (by omega) (by omega)
      refine gg_callVv (own := RX10) (yt := gm_X10_put) rfl gl_RX10_102 gk_X10_put gr_X10_put dX10_fold_26 (c_X10_put (d := d - 1) (k := 6) (x := N i) (Or.inl hm)) sh_145 pl_145 (by decide) rfl rfl rfl (Nat.le_of_ble_eq_true rfl) (by show _ ≤ d; omega) ⟨Nat.le_refl _, Nat.le_refl _⟩ (fun μ' hc => ?_)
      obtain ⟨I49, J49, rfl, x49, fa49, fb49, fc49⟩ := hc
      have m49 := gMx_d x49 (by simp only [List.length_append, List.length_cons, List.length_nil]; omega)
      refine gg_iload_n dX10_fold_29 4 rfl ?_
      refine gg_iconst dX10_fold_30 ?_
      refine gg_iadd dX10_fold_31 ?_
      refine gg_toI (b := ((i + 1 : Nat) : Int)) (by omega) ?_
      refine gg_istore (ls' := [(5, .int (iv ((i + 1 : Nat) : Int))), (4, .int (iv 6)), (3, .int (iv (B.length : Int))), (0, .ref (gad (gSS ad) 145)), (1, .int (iv (f : Int))), (2, .int (iv (i : Int)))]) dX10_fold_32 (by decide) rfl ?_
      refine gg_iconst dX10_fold_34 ?_
      refine gg_istore (ls' := [(6, .int (iv 0)), (5, .int (iv ((i + 1 : Nat) : Int))), (4, .int (iv 6)), (3, .int (iv (B.length : Int))), (0, .ref (gad (gSS ad) 145)), (1, .int (iv (f : Int))), (2, .int (iv (i : Int)))]) dX10_fold_35 (by decide) rfl ?_
      refine gg_iload dX10_fold_37 0 rfl ?_
      refine gg_iload dX10_fold_39 2 rfl ?_
      refine gg_callSi (own := RX10) (yt := gm_X10_parts) rfl gl_RX10_98 gk_X10_parts gr_X10_parts dX10_fold_41 (c_X10_parts (d := d - 1) (k := 6) (by omega)) rfl rfl (Nat.le_of_ble_eq_true rfl) (by show _ ≤ d; omega) ⟨Nat.le_refl _, Nat.le_refl _⟩ (fun e51 μ' hc => ?_)
      obtain ⟨rfl, rfl⟩ := hc
      refine gg_toI (b := 3) rfl ?_
      refine gg_icmp_ge_f (tgt := 71) dX10_fold_44 (by decide) (by decide) (by decide) ?_
      refine gg_aload_n dX10_fold_47 4 rfl ?_
      refine gg_iload_n dX10_fold_48 5 rfl ?_
      refine gg_iload dX10_fold_49 1 rfl ?_
      refine gg_callVv (own := RX10) (yt := gm_X10_fold) rfl gl_RX10_192 gk_X10_fold gr_X10_fold dX10_fold_51 (ih (i + 1) q1 (by omega) (d - 1) (by omega) I49 J49 (B ++ [(6, N i)]) (gMt_d hf hM0 (fun p h1 h2 => (fa49 p h1 h2).trans (rfl)) (fun p h1 => (fc49 p h1).trans (rfl))) m49 (by simp only [List.length_append, List.length_cons, List.length_nil]; omega) (gNvs_app hBv (gNvs_cons (by rw [← hk]; exact hci) gNvs_nil))) sh_145 pl_145 (by decide) rfl rfl rfl (Nat.le_of_ble_eq_true rfl) (by show _ ≤ d; omega) ⟨Nat.le_refl _, Nat.le_refl _⟩ (fun μ' hc => ?_)
      obtain ⟨I52, J52, rfl, m52, fa52, fb52, fc52⟩ := hc
      refine gg_aload_n dX10_fold_54 4 rfl ?_
      refine gg_getR (k' := 173) rfl gf_RX10_23 dX10_fold_55 sh_145 pl_145 (by decide) (by decide) rr_145_3 ?_
      refine gg_iload_n dX10_fold_58 5 rfl ?_
      refine gg_aaldj (t := 6) f (k' := (174 + f)) dX10_fold_59 sh_173 (by decide) pl_173 (by decide) rfl (by omega) (rr_173 (by omega)) ?_
      refine gg_iload dX10_fold_60 1 rfl ?_
      refine gg_ialdj (i + 1) dX10_fold_62 (rs_173 (by omega)) (rl_173 (by omega)) (by decide) rfl (by omega) ?_
      refine gg_toI (b := (gPt Z i 1 : Int)) (by have := ((gMt_d hf hM0 (fun p h1 h2 => (fa52 p h1 h2).trans ((fa49 p h1 h2).trans (rfl))) (fun p h1 => (fc52 p h1).trans ((fc49 p h1).trans (rfl)))).2 (i + 1) q1).2.2; simp only [gPt] at this ⊢; omega) ?_
      refine gg_istore (ls' := [(5, .int (iv (gPt Z i 1 : Int))), (6, .int (iv 0)), (4, .int (iv 6)), (3, .int (iv (B.length : Int))), (0, .ref (gad (gSS ad) 145)), (1, .int (iv (f : Int))), (2, .int (iv (i : Int)))]) dX10_fold_63 (by decide) rfl ?_
      refine gg_iincv (ls' := [(6, .int (iv 1)), (5, .int (iv (gPt Z i 1 : Int))), (4, .int (iv 6)), (3, .int (iv (B.length : Int))), (0, .ref (gad (gSS ad) 145)), (1, .int (iv (f : Int))), (2, .int (iv (i : Int)))]) dX10_fold_65 1 rfl rfl (by decide) rfl ?_
      refine gg_goto (tgt := 37) dX10_fold_68 (by decide) ?_
      refine gg_iload dX10_fold_37 0 rfl ?_
      refine gg_iload dX10_fold_39 2 rfl ?_
      refine gg_callSi (own := RX10) (yt := gm_X10_parts) rfl gl_RX10_98 gk_X10_parts gr_X10_parts dX10_fold_41 (c_X10_parts (d := d - 1) (k := 6) (by omega)) rfl rfl (Nat.le_of_ble_eq_true rfl) (by show _ ≤ d; omega) ⟨Nat.le_refl _, Nat.le_refl _⟩ (fun e54 μ' hc => ?_)
      obtain ⟨rfl, rfl⟩ := hc
      refine gg_toI (b := 3) rfl ?_
      refine gg_icmp_ge_f (tgt := 71) dX10_fold_44 (by decide) (by decide) (by decide) ?_
      refine gg_aload_n dX10_fold_47 4 rfl ?_
      refine gg_iload_n dX10_fold_48 5 rfl ?_
      refine gg_iload dX10_fold_49 1 rfl ?_
      refine gg_callVv (own := RX10) (yt := gm_X10_fold) rfl gl_RX10_192 gk_X10_fold gr_X10_fold dX10_fold_51 (ih (gPt Z i 1) q2 (by omega) (d - 1) (by omega) I52 J52 ((B ++ [(6, N i)]) ++ (gFd n K N Z (i + 1))) (gMt_d hf hM0 (fun p h1 h2 => (fa52 p h1 h2).trans ((fa49 p h1 h2).trans (rfl))) (fun p h1 => (fc52 p h1).trans ((fc49 p h1).trans (rfl)))) m52 (by simp only [List.length_append, List.length_cons, List.length_nil]; omega) (gNvs_app (gNvs_app hBv (gNvs_cons (by rw [← hk]; exact hci) gNvs_nil)) v1)) sh_145 pl_145 (by decide) rfl rfl rfl (Nat.le_of_ble_eq_true rfl) (by show _ ≤ d; omega) ⟨Nat.le_refl _, Nat.le_refl _⟩ (fun μ' hc => ?_)
      obtain ⟨I55, J55, rfl, m55, fa55, fb55, fc55⟩ := hc
      refine gg_aload_n dX10_fold_54 4 rfl ?_
      refine gg_getR (k' := 173) rfl gf_RX10_23 dX10_fold_55 sh_145 pl_145 (by decide) (by decide) rr_145_3 ?_
      refine gg_iload_n dX10_fold_58 5 rfl ?_
      refine gg_aaldj (t := 6) f (k' := (174 + f)) dX10_fold_59 sh_173 (by decide) pl_173 (by decide) rfl (by omega) (rr_173 (by omega)) ?_
      refine gg_iload dX10_fold_60 1 rfl ?_
      refine gg_ialdj (gPt Z i 1) dX10_fold_62 (rs_173 (by omega)) (rl_173 (by omega)) (by decide) rfl (by omega) ?_
      refine gg_toI (b := (gPt Z i 2 : Int)) (by have := ((gMt_d hf hM0 (fun p h1 h2 => (fa55 p h1 h2).trans ((fa52 p h1 h2).trans ((fa49 p h1 h2).trans (rfl)))) (fun p h1 => (fc55 p h1).trans ((fc52 p h1).trans ((fc49 p h1).trans (rfl))))).2 (gPt Z i 1) q2).2.2; simp only [gPt] at this ⊢; omega) ?_
      refine gg_istore (ls' := [(5, .int (iv (gPt Z i 2 : Int))), (6, .int (iv 1)), (4, .int (iv 6)), (3, .int (iv (B.length : Int))), (0, .ref (gad (gSS ad) 145)), (1, .int (iv (f : Int))), (2, .int (iv (i : Int)))]) dX10_fold_63 (by decide) rfl ?_
      refine gg_iincv (ls' := [(6, .int (iv 2)), (5, .int (iv (gPt Z i 2 : Int))), (4, .int (iv 6)), (3, .int (iv (B.length : Int))), (0, .ref (gad (gSS ad) 145)), (1, .int (iv (f : Int))), (2, .int (iv (i : Int)))]) dX10_fold_65 1 rfl rfl (by decide) rfl ?_
      refine gg_goto (tgt := 37) dX10_fold_68 (by decide) ?_
      refine gg_iload dX10_fold_37 0 rfl ?_
      refine gg_iload dX10_fold_39 2 rfl ?_
      refine gg_callSi (own := RX10) (yt := gm_X10_parts) rfl gl_RX10_98 gk_X10_parts gr_X10_parts dX10_fold_41 (c_X10_parts (d := d - 1) (k := 6) (by omega)) rfl rfl (Nat.le_of_ble_eq_true rfl) (by show _ ≤ d; omega) ⟨Nat.le_refl _, Nat.le_refl _⟩ (fun e57 μ' hc => ?_)
      obtain ⟨rfl, rfl⟩ := hc
      refine gg_toI (b := 3) rfl ?_
      refine gg_icmp_ge_f (tgt := 71) dX10_fold_44 (by decide) (by decide) (by decide) ?_
      refine gg_aload_n dX10_fold_47 4 rfl ?_
      refine gg_iload_n dX10_fold_48 5 rfl ?_
      refine gg_iload dX10_fold_49 1 rfl ?_
      refine gg_callVv (own := RX10) (yt := gm_X10_fold) rfl gl_RX10_192 gk_X10_fold gr_X10_fold dX10_fold_51 (ih (gPt Z i 2) q3 (by omega) (d - 1) (by omega) I55 J55 (((B ++ [(6, N i)]) ++ (gFd n K N Z (i + 1))) ++ (gFd n K N Z (gPt Z i 1))) (gMt_d hf hM0 (fun p h1 h2 => (fa55 p h1 h2).trans ((fa52 p h1 h2).trans ((fa49 p h1 h2).trans (rfl)))) (fun p h1 => (fc55 p h1).trans ((fc52 p h1).trans ((fc49 p h1).trans (rfl))))) m55 (by simp only [List.length_append, List.length_cons, List.length_nil]; omega) (gNvs_app (gNvs_app (gNvs_app hBv (gNvs_cons (by rw [← hk]; exact hci) gNvs_nil)) v1) v2)) sh_145 pl_145 (by decide) rfl rfl rfl (Nat.le_of_ble_eq_true rfl) (by show _ ≤ d; omega) ⟨Nat.le_refl _, Nat.le_refl _⟩ (fun μ' hc => ?_)
      obtain ⟨I58, J58, rfl, m58, fa58, fb58, fc58⟩ := hc
      refine gg_aload_n dX10_fold_54 4 rfl ?_
      refine gg_getR (k' := 173) rfl gf_RX10_23 dX10_fold_55 sh_145 pl_145 (by decide) (by decide) rr_145_3 ?_
      refine gg_iload_n dX10_fold_58 5 rfl ?_
      refine gg_aaldj (t := 6) f (k' := (174 + f)) dX10_fold_59 sh_173 (by decide) pl_173 (by decide) rfl (by omega) (rr_173 (by omega)) ?_
      refine gg_iload dX10_fold_60 1 rfl ?_
      refine gg_ialdj (gPt Z i 2) dX10_fold_62 (rs_173 (by omega)) (rl_173 (by omega)) (by decide) rfl (by omega) ?_
      refine gg_istore (ls' := [(5, .int (iv (I58 (174 + f) (gPt Z i 2)))), (6, .int (iv 2)), (4, .int (iv 6)), (3, .int (iv (B.length : Int))), (0, .ref (gad (gSS ad) 145)), (1, .int (iv (f : Int))), (2, .int (iv (i : Int)))]) dX10_fold_63 (by decide) rfl ?_
      refine gg_iincv (ls' := [(6, .int (iv 3)), (5, .int (iv (I58 (174 + f) (gPt Z i 2)))), (4, .int (iv 6)), (3, .int (iv (B.length : Int))), (0, .ref (gad (gSS ad) 145)), (1, .int (iv (f : Int))), (2, .int (iv (i : Int)))]) dX10_fold_65 1 rfl rfl (by decide) rfl ?_
      refine gg_goto (tgt := 37) dX10_fold_68 (by decide) ?_
      refine gg_iload dX10_fold_37 0 rfl ?_
      refine gg_iload dX10_fold_39 2 rfl ?_
      refine gg_callSi (own := RX10) (yt := gm_X10_parts) rfl gl_RX10_98 gk_X10_parts gr_X10_parts dX10_fold_41 (c_X10_parts (d := d - 1) (k := 6) (by omega)) rfl rfl (Nat.le_of_ble_eq_true rfl) (by show _ ≤ d; omega) ⟨Nat.le_refl _, Nat.le_refl _⟩ (fun e60 μ' hc => ?_)
      obtain ⟨rfl, rfl⟩ := hc
      refine gg_toI (b := 3) rfl ?_
      refine gg_icmp_ge_t (tgt := 71) dX10_fold_44 (by decide) (by decide) (by decide) ?_
      have mm : gMd I58 J58 (B ++ ((6, 0) :: ((gFd n K N Z (i + 1)) ++ ((gFd n K N Z (gPt Z i 1)) ++ (gFd n K N Z (gPt Z i 2)))))) := by
        have z := m58
        rw [hN0] at z
        simpa using z
      have hll : (B ++ ((6, 0) :: ((gFd n K N Z (i + 1)) ++ ((gFd n K N Z (gPt Z i 1)) ++ (gFd n K N Z (gPt Z i 2)))))).length = B.length + 1 + (gFd n K N Z (i + 1)).length + (gFd n K N Z (gPt Z i 1)).length + (gFd n K N Z (gPt Z i 2)).length := by simp only [List.length_append, List.length_cons]; omega
      have hml := mm.2.1
      have p1 := gFo_pos g1 (Nat.le_refl _)
      have e1 := (v1 _ (gHd_mem p1)).1
      have p2 := gFo_pos g2 (Nat.le_refl _)
      have e2 := (v2 _ (gHd_mem p2)).1
      have p3 := gFo_pos g3 (Nat.le_refl _)
      have e3 := (v3 _ (gHd_mem p3)).1
      refine gg_iload_n dX10_fold_71 3 rfl ?_
      refine gg_iconst dX10_fold_72 ?_
      refine gg_iadd dX10_fold_73 ?_
      refine gg_toI (b := ((B.length + 1 : Nat) : Int)) (by omega) ?_
      refine gg_istore (ls' := [(6, .int (iv ((B.length + 1 : Nat) : Int))), (5, .int (iv (I58 (174 + f) (gPt Z i 2)))), (4, .int (iv 6)), (3, .int (iv (B.length : Int))), (0, .ref (gad (gSS ad) 145)), (1, .int (iv (f : Int))), (2, .int (iv (i : Int)))]) dX10_fold_74 (by decide) rfl ?_
      refine gg_iload dX10_fold_76 2 rfl ?_
      refine gg_tsw (off := 131) (tgt := 209) dX10_fold_78 (by decide) (by decide) rfl (by decide) ?_
      refine gg_aload_n dX10_fold_209 4 rfl ?_
      refine gg_iload_n dX10_fold_210 3 rfl ?_
      refine gg_callVv (own := RX10) (yt := gm_X10_foldPick) rfl gl_RX10_211 gk_X10_foldPick gr_X10_foldPick dX10_fold_211 (c_X10_foldPick (d := d - 1) (P := B) (A := (gFd n K N Z (i + 1))) (C := (gFd n K N Z (gPt Z i 1))) (E := (gFd n K N Z (gPt Z i 2))) mm hBv g1 g2 g3 v1 v2 v3 (by omega)) sh_145 pl_145 (by decide) rfl rfl rfl (Nat.le_of_ble_eq_true rfl) (by show _ ≤ d; omega) ⟨Nat.le_refl _, Nat.le_refl _⟩ (fun μ' hc => ?_)
      obtain ⟨I61, J61, rfl, m61, fa61, fb61, fc61⟩ := hc
      refine gg_goto (tgt := 250) dX10_fold_214 (by decide) ?_
      refine gg_vretv dX10_fold_250 rfl ⟨rfl, rfl⟩ ?_
      refine ⟨I61, J61, rfl, ?_, fun p h1 h2 => (fa61 p h1 h2).trans ((fa58 p h1 h2).trans ((fa55 p h1 h2).trans ((fa52 p h1 h2).trans ((fa49 p h1 h2).trans (rfl))))), fun q h1 h2 => (fb61 q h1 h2).trans ((fb58 q h1 h2).trans ((fb55 q h1 h2).trans ((fb52 q h1 h2).trans ((fb49 q h1 h2).trans (rfl))))), fun p h1 => (fc61 p h1).trans ((fc58 p h1).trans ((fc55 p h1).trans ((fc52 p h1).trans ((fc49 p h1).trans (rfl)))))⟩
      rw [gFd_is n K N Z i hi]
      unfold gfF
      simp only [hk]
      exact m61
    · refine gg_toI (b := 7) (by omega) ?_
      refine gg_istore (ls' := [(4, .int (iv 7)), (3, .int (iv (B.length : Int))), (0, .ref (gad (gSS ad) 145)), (1, .int (iv (f : Int))), (2, .int (iv (i : Int)))]) dX10_fold_13 (by decide) rfl ?_
      refine gg_aload_n dX10_fold_15 2 rfl ?_
      refine gg_iload dX10_fold_16 0 rfl ?_
      refine gg_aload_n dX10_fold_18 2 rfl ?_
      refine gg_getR (k' := 160) rfl gf_RX10_20 dX10_fold_19 sh_145 pl_145 (by decide) (by decide) rr_145_2 ?_
      refine gg_iload_n dX10_fold_22 3 rfl ?_
      refine gg_aaldj (t := 7) f (k' := (161 + f)) dX10_fold_23 sh_160 (by decide) pl_160 (by decide) rfl hf (rr_160 hf) ?_
      refine gg_iload_n dX10_fold_24 4 rfl ?_
      refine gg_laldj i dX10_fold_25 (rs_160 hf) (rl_160 hf) (by decide) rfl (by omega) ?_
      refine gg_toL (b := N i) (hM0.2 i hi).2.1 ?_
      have q1 := hc1 (by rw [hk]; decide)
      have hz := he1 (by rw [hk]; decide)
      obtain ⟨g1, v1, w1⟩ := gFd_ok hW _ q1
      have hN0 : N i = 0 := hzz (by omega) (by omega) (by omega)
      refine gg_callVv (own := RX10) (yt := gm_X10_put) rfl gl_RX10_102 gk_X10_put gr_X10_put dX10_fold_26 (c_X10_put (d := d - 1) (k := 7) (x := N i) (Or.inl hm)) sh_145 pl_145 (by decide) rfl rfl rfl (Nat.le_of_ble_eq_true rfl) (by show _ ≤ d; omega) ⟨Nat.le_refl _, Nat.le_refl _⟩ (fun μ' hc => ?_)
      obtain ⟨I63, J63, rfl, x63, fa63, fb63, fc63⟩ := hc
      have m63 := gMx_d x63 (by simp only [List.length_append, List.length_cons, List.length_nil]; omega)
      refine gg_iload_n dX10_fold_29 4 rfl ?_
      refine gg_iconst dX10_fold_30 ?_
      refine gg_iadd dX10_fold_31 ?_
      refine gg_toI (b := ((i + 1 : Nat) : Int)) (by omega) ?_
      refine gg_istore (ls' := [(5, .int (iv ((i + 1 : Nat) : Int))), (4, .int (iv 7)), (3, .int (iv (B.length : Int))), (0, .ref (gad (gSS ad) 145)), (1, .int (iv (f : Int))), (2, .int (iv (i : Int)))]) dX10_fold_32 (by decide) rfl ?_
      refine gg_iconst dX10_fold_34 ?_
      refine gg_istore (ls' := [(6, .int (iv 0)), (5, .int (iv ((i + 1 : Nat) : Int))), (4, .int (iv 7)), (3, .int (iv (B.length : Int))), (0, .ref (gad (gSS ad) 145)), (1, .int (iv (f : Int))), (2, .int (iv (i : Int)))]) dX10_fold_35 (by decide) rfl ?_
      refine gg_iload dX10_fold_37 0 rfl ?_
      refine gg_iload dX10_fold_39 2 rfl ?_
      refine gg_callSi (own := RX10) (yt := gm_X10_parts) rfl gl_RX10_98 gk_X10_parts gr_X10_parts dX10_fold_41 (c_X10_parts (d := d - 1) (k := 7) (by omega)) rfl rfl (Nat.le_of_ble_eq_true rfl) (by show _ ≤ d; omega) ⟨Nat.le_refl _, Nat.le_refl _⟩ (fun e65 μ' hc => ?_)
      obtain ⟨rfl, rfl⟩ := hc
      refine gg_toI (b := 1) rfl ?_
      refine gg_icmp_ge_f (tgt := 71) dX10_fold_44 (by decide) (by decide) (by decide) ?_
      refine gg_aload_n dX10_fold_47 4 rfl ?_
      refine gg_iload_n dX10_fold_48 5 rfl ?_
      refine gg_iload dX10_fold_49 1 rfl ?_
      refine gg_callVv (own := RX10) (yt := gm_X10_fold) rfl gl_RX10_192 gk_X10_fold gr_X10_fold dX10_fold_51 (ih (i + 1) q1 (by omega) (d - 1) (by omega) I63 J63 (B ++ [(7, N i)]) (gMt_d hf hM0 (fun p h1 h2 => (fa63 p h1 h2).trans (rfl)) (fun p h1 => (fc63 p h1).trans (rfl))) m63 (by simp only [List.length_append, List.length_cons, List.length_nil]; omega) (gNvs_app hBv (gNvs_cons (by rw [← hk]; exact hci) gNvs_nil))) sh_145 pl_145 (by decide) rfl rfl rfl (Nat.le_of_ble_eq_true rfl) (by show _ ≤ d; omega) ⟨Nat.le_refl _, Nat.le_refl _⟩ (fun μ' hc => ?_)
      obtain ⟨I66, J66, rfl, m66, fa66, fb66, fc66⟩ := hc
      refine gg_aload_n dX10_fold_54 4 rfl ?_
      refine gg_getR (k' := 173) rfl gf_RX10_23 dX10_fold_55 sh_145 pl_145 (by decide) (by decide) rr_145_3 ?_
      refine gg_iload_n dX10_fold_58 5 rfl ?_
      refine gg_aaldj (t := 6) f (k' := (174 + f)) dX10_fold_59 sh_173 (by decide) pl_173 (by decide) rfl (by omega) (rr_173 (by omega)) ?_
      refine gg_iload dX10_fold_60 1 rfl ?_
      refine gg_ialdj (i + 1) dX10_fold_62 (rs_173 (by omega)) (rl_173 (by omega)) (by decide) rfl (by omega) ?_
      refine gg_istore (ls' := [(5, .int (iv (I66 (174 + f) (i + 1)))), (6, .int (iv 0)), (4, .int (iv 7)), (3, .int (iv (B.length : Int))), (0, .ref (gad (gSS ad) 145)), (1, .int (iv (f : Int))), (2, .int (iv (i : Int)))]) dX10_fold_63 (by decide) rfl ?_
      refine gg_iincv (ls' := [(6, .int (iv 1)), (5, .int (iv (I66 (174 + f) (i + 1)))), (4, .int (iv 7)), (3, .int (iv (B.length : Int))), (0, .ref (gad (gSS ad) 145)), (1, .int (iv (f : Int))), (2, .int (iv (i : Int)))]) dX10_fold_65 1 rfl rfl (by decide) rfl ?_
      refine gg_goto (tgt := 37) dX10_fold_68 (by decide) ?_
      refine gg_iload dX10_fold_37 0 rfl ?_
      refine gg_iload dX10_fold_39 2 rfl ?_
      refine gg_callSi (own := RX10) (yt := gm_X10_parts) rfl gl_RX10_98 gk_X10_parts gr_X10_parts dX10_fold_41 (c_X10_parts (d := d - 1) (k := 7) (by omega)) rfl rfl (Nat.le_of_ble_eq_true rfl) (by show _ ≤ d; omega) ⟨Nat.le_refl _, Nat.le_refl _⟩ (fun e68 μ' hc => ?_)
      obtain ⟨rfl, rfl⟩ := hc
      refine gg_toI (b := 1) rfl ?_
      refine gg_icmp_ge_t (tgt := 71) dX10_fold_44 (by decide) (by decide) (by decide) ?_
      have mm : gMd I66 J66 (B ++ ((7, 0) :: (gFd n K N Z (i + 1)))) := by
        have z := m66
        rw [hN0] at z
        simpa using z
      have hll : (B ++ ((7, 0) :: (gFd n K N Z (i + 1)))).length = B.length + 1 + (gFd n K N Z (i + 1)).length := by simp only [List.length_append, List.length_cons]; omega
      have hml := mm.2.1
      have p1 := gFo_pos g1 (Nat.le_refl _)
      have e1 := (v1 _ (gHd_mem p1)).1
      refine gg_iload_n dX10_fold_71 3 rfl ?_
      refine gg_iconst dX10_fold_72 ?_
      refine gg_iadd dX10_fold_73 ?_
      refine gg_toI (b := ((B.length + 1 : Nat) : Int)) (by omega) ?_
      refine gg_istore (ls' := [(6, .int (iv ((B.length + 1 : Nat) : Int))), (5, .int (iv (I66 (174 + f) (i + 1)))), (4, .int (iv 7)), (3, .int (iv (B.length : Int))), (0, .ref (gad (gSS ad) 145)), (1, .int (iv (f : Int))), (2, .int (iv (i : Int)))]) dX10_fold_74 (by decide) rfl ?_
      refine gg_iload dX10_fold_76 2 rfl ?_
      refine gg_tsw (off := 139) (tgt := 217) dX10_fold_78 (by decide) (by decide) rfl (by decide) ?_
      refine gg_aload_n dX10_fold_217 4 rfl ?_
      refine gg_getR (k' := 187) rfl gf_RX10_29 dX10_fold_218 sh_145 pl_145 (by decide) (by decide) rr_145_7 ?_
      refine gg_iload dX10_fold_221 0 rfl ?_
      refine gg_ialdj (B.length + 1) dX10_fold_223 sh_187 pl_187 (by decide) rfl (by omega) ?_
      refine gg_toI (b := (((gHd (gFd n K N Z (i + 1))).1 : Nat) : Int)) (mm.2.2.2 _ _ (gget_h1 p1)).1 ?_
      refine gg_if_ne (tgt := 250) dX10_fold_224 (by decide) (by omega) (fun hb => ?_) (fun hb => ?_)
      · have hA0 : ¬ (gHd (gFd n K N Z (i + 1))).1 = 0 := by omega
        clear hb
        refine gg_vretv dX10_fold_250 rfl ⟨rfl, rfl⟩ ?_
        refine ⟨I66, J66, rfl, ?_, fun p h1 h2 => (fa66 p h1 h2).trans ((fa63 p h1 h2).trans (rfl)), fun q h1 h2 => (fb66 q h1 h2).trans ((fb63 q h1 h2).trans (rfl)), fun p h1 => (fc66 p h1).trans ((fc63 p h1).trans (rfl))⟩
        rw [gFd_is n K N Z i hi]
        unfold gfF
        simp only [hk]
        show gMd _ _ (B ++ gfSqu (gFd n K N Z (i + 1)))
        rw [show gfSqu (gFd n K N Z (i + 1)) = (7, 0) :: (gFd n K N Z (i + 1)) by unfold gfSqu; repeat' split; all_goals first | rfl | (exfalso; simp_all; done) | simp_all]
        exact mm
      · have hA0 : (gHd (gFd n K N Z (i + 1))).1 = 0 := by omega
        clear hb
        refine gg_aload_n dX10_fold_227 4 rfl ?_
        refine gg_iload_n dX10_fold_228 3 rfl ?_
        refine gg_aload_n dX10_fold_229 4 rfl ?_
        refine gg_getR (k' := 188) rfl gf_RX10_32 dX10_fold_230 sh_145 pl_145 (by decide) (by decide) rr_145_8 ?_
        refine gg_iload dX10_fold_233 0 rfl ?_
        refine gg_laldj (B.length + 1) dX10_fold_235 sh_188 pl_188 (by decide) rfl (by omega) ?_
        refine gg_toL (b := (gHd (gFd n K N Z (i + 1))).2) (mm.2.2.2 _ _ (gget_h1 p1)).2 ?_
        refine gg_aload_n dX10_fold_236 4 rfl ?_
        refine gg_getR (k' := 188) rfl gf_RX10_32 dX10_fold_237 sh_145 pl_145 (by decide) (by decide) rr_145_8 ?_
        refine gg_iload dX10_fold_240 0 rfl ?_
        refine gg_laldj (B.length + 1) dX10_fold_242 sh_188 pl_188 (by decide) rfl (by omega) ?_
        refine gg_toL (b := (gHd (gFd n K N Z (i + 1))).2) (mm.2.2.2 _ _ (gget_h1 p1)).2 ?_
        refine gg_lmul dX10_fold_243 ?_
        refine gg_callVv (own := RX10) (yt := gm_X10_becomes) rfl gl_RX10_196 gk_X10_becomes gr_X10_becomes dX10_fold_244 (c_X10_becomes (d := d - 1) (P := B) (R := (7, 0) :: (gFd n K N Z (i + 1))) (x := _) mm (by omega) (by omega)) sh_145 pl_145 (by decide) rfl rfl rfl (Nat.le_of_ble_eq_true rfl) (by show _ ≤ d; omega) ⟨Nat.le_refl _, Nat.le_refl _⟩ (fun μ' hc => ?_)
        obtain ⟨I69, J69, rfl, m69, fa69, fb69, fc69⟩ := hc
        refine gg_goto (tgt := 250) dX10_fold_247 (by decide) ?_
        refine gg_vretv dX10_fold_250 rfl ⟨rfl, rfl⟩ ?_
        refine ⟨I69, J69, rfl, ?_, fun p h1 h2 => (fa69 p h1 h2).trans ((fa66 p h1 h2).trans ((fa63 p h1 h2).trans (rfl))), fun q h1 h2 => (fb69 q h1 h2).trans ((fb66 q h1 h2).trans ((fb63 q h1 h2).trans (rfl))), fun p h1 => (fc69 p h1).trans ((fc66 p h1).trans ((fc63 p h1).trans (rfl)))⟩
        rw [gFd_is n K N Z i hi]
        unfold gfF
        simp only [hk]
        show gMd _ _ (B ++ gfSqu (gFd n K N Z (i + 1)))
        rw [show gfSqu (gFd n K N Z (i + 1)) = [(0, (gHd (gFd n K N Z (i + 1))).2 * (gHd (gFd n K N Z (i + 1))).2)] by unfold gfSqu; repeat' split; all_goals first | rfl | (exfalso; simp_all; done) | simp_all]
        exact m69

