/-! the class's machine: how code is laid -/
/-- what a node's lines do: its parts' starts, its own lines -/
def gWn (n : Nat) (K : Nat → Nat) (N : Nat → Int64) (Z : Nat → Nat) (i s : Nat) (I : Nat → Nat → Int) (J : Nat → Nat → Int64) (I' : Nat → Nat → Int) (J' : Nat → Nat → Int64) : Prop :=
  (∀ r sr, gKd K Z (gLc n K Z) i s r sr → I' 36 r = (sr : Int)) ∧ (∀ t, (∀ sr, ¬ gKd K Z (gLc n K Z) i s t sr) → I' 36 t = I 36 t) ∧
  (∀ q, (I' 33 q = I 33 q ∧ J' 34 q = J 34 q) ∨ (s ≤ q ∧ q < s + gLc n K Z i ∧ gMch 33 34 I' J' q (gCv n K N Z i s q))) ∧
  (∀ q, s ≤ q → q < s + gLc n K Z i → gMch 33 34 I' J' q (gCv n K N Z i s q) ∨ ∃ r sr, gKd K Z (gLc n K Z) i s r sr ∧ sr ≤ q ∧ q < sr + gLc n K Z r)
set_option maxRecDepth 10000 in
theorem c_X3_lengthAt {l : Launch} {Γ : gC} {ad : Nat → Nat} {I : Nat → Nat → Int} {J : Nat → Nat → Int64} {d : Nat} {k : Nat} (hk : k < 100000) : gKi l Γ gm_X3_lengthAt d [.ref (gad (gSS ad) 32), .int (iv (k : Int))] (gSS ad, I, J) (fun e μ => μ = (gSS ad, I, J) ∧ e = (if k < 200 then I 35 k else 0)) := by
  refine gKi_of gk_X3_lengthAt.1 (Nat.le_of_ble_eq_true rfl) ?_
  show gG l Γ gm_X3_lengthAt (d, 0, 0, 0, 0) 0 [(0, .ref (gad (gSS ad) 32)), (1, .int (iv (k : Int)))] [] _ _
  refine gg_iload_n dX3_lengthAt_0 1 rfl ?_
  refine gg_if_lt_f (tgt := 20) dX3_lengthAt_1 (by decide) (by omega) (by omega) ?_
  refine gg_iload_n dX3_lengthAt_4 1 rfl ?_
  refine gg_sipush dX3_lengthAt_5 (by decide) ?_
  refine gg_icmp_ge (tgt := 20) dX3_lengthAt_8 (by decide) (by omega) (fun hb => ?_) (fun hb => ?_)
  · refine gg_iconst dX3_lengthAt_20 ?_
    refine gg_ireti dX3_lengthAt_21 rfl ⟨rfl, rfl⟩ ?_
    exact ⟨rfl, by rw [if_neg (by omega)]⟩
  · refine gg_aload_n dX3_lengthAt_11 0 rfl ?_
    refine gg_getR (k' := 35) rfl gf_RX3_19 dX3_lengthAt_12 sh_32 pl_32 (by decide) (by decide) rr_32_3 ?_
    refine gg_iload_n dX3_lengthAt_15 1 rfl ?_
    refine gg_ialdj k dX3_lengthAt_16 sh_35 pl_35 (by decide) rfl (by omega) ?_
    refine gg_goto (tgt := 21) dX3_lengthAt_17 (by decide) ?_
    refine gg_ireti dX3_lengthAt_21 rfl ⟨rfl, rfl⟩ ?_
    exact ⟨rfl, by rw [if_pos (by omega)]⟩

set_option maxRecDepth 10000 in
theorem c_X3_place {l : Launch} {Γ : gC} {ad : Nat → Nat} {I : Nat → Nat → Int} {J : Nat → Nat → Int64} {d : Nat} {k s Lk : Nat} (hk : k < 200) (hl : I 35 k = (Lk : Int)) (hd : 1 ≤ d) : gKi l Γ gm_X3_place d [.ref (gad (gSS ad) 32), .int (iv (k : Int)), .int (iv (s : Int))] (gSS ad, I, J) (fun e μ => μ = (gSS ad, gu I 36 k (s : Int), J) ∧ e = ((s + Lk : Nat) : Int)) := by
  refine gKi_of gk_X3_place.1 (Nat.le_of_ble_eq_true rfl) ?_
  show gG l Γ gm_X3_place (d, 0, 0, 0, 0) 0 [(0, .ref (gad (gSS ad) 32)), (1, .int (iv (k : Int))), (2, .int (iv (s : Int)))] [] _ _
  refine gg_iload_n dX3_place_0 1 rfl ?_
  refine gg_if_lt_f (tgt := 18) dX3_place_1 (by decide) (by omega) (by omega) ?_
  refine gg_iload_n dX3_place_4 1 rfl ?_
  refine gg_sipush dX3_place_5 (by decide) ?_
  refine gg_icmp_ge_f (tgt := 18) dX3_place_8 (by decide) (by omega) (by omega) ?_
  refine gg_aload_n dX3_place_11 0 rfl ?_
  refine gg_getR (k' := 36) rfl gf_RX3_22 dX3_place_12 sh_32 pl_32 (by decide) (by decide) rr_32_4 ?_
  refine gg_iload_n dX3_place_15 1 rfl ?_
  refine gg_iload_n dX3_place_16 2 rfl ?_
  refine gg_iastj k dX3_place_17 sh_36 pl_36 (by decide) rfl hk ?_
  refine gg_iload_n dX3_place_18 2 rfl ?_
  refine gg_aload_n dX3_place_19 0 rfl ?_
  refine gg_iload_n dX3_place_20 1 rfl ?_
  refine gg_callVi (own := RX3) (yt := gm_X3_lengthAt) rfl gl_RX3_67 gk_X3_lengthAt gr_X3_lengthAt dX3_place_21 (c_X3_lengthAt (d := d - 1) (k := k) (by omega)) sh_32 pl_32 (by decide) rfl rfl rfl (Nat.le_of_ble_eq_true rfl) (by show _ ≤ d; omega) ⟨Nat.le_refl _, Nat.le_refl _⟩ (fun e1 μ' hc => ?_)
  obtain ⟨rfl, rfl⟩ := hc
  refine gg_toI (b := (Lk : Int)) (by rw [if_pos hk, gu_n (by omega)]; exact hl) ?_
  refine gg_iadd dX3_place_24 ?_
  refine gg_ireti dX3_place_25 rfl ⟨rfl, rfl⟩ ?_
  exact ⟨rfl, by omega⟩

set_option maxRecDepth 10000 in
theorem c_X3_write {l : Launch} {Γ : gC} {ad : Nat → Nat} {I : Nat → Nat → Int} {J : Nat → Nat → Int64} {d : Nat} {q : Nat} {or w : Int} {x : Int64} (hq : q < 400) (ho : 0 ≤ or ∧ or ≤ 9) (hw : 10 * or + (if or = 0 then 0 else gl2i x) = w) : gKv l Γ gm_X3_write d [.ref (gad (gSS ad) 32), .int (iv (q : Int)), .int (iv or), .long x] (gSS ad, I, J) (fun μ => μ = (gSS ad, gu I 33 q w, gv J 34 q x)) := by
  refine gKv_of gk_X3_write.1 (Nat.le_of_ble_eq_true rfl) ?_
  show gG l Γ gm_X3_write (d, 0, 0, 0, 0) 0 [(0, .ref (gad (gSS ad) 32)), (1, .int (iv (q : Int))), (2, .int (iv or)), (3, .long x)] [] _ _
  refine gg_iload_n dX3_write_0 1 rfl ?_
  refine gg_if_lt_f (tgt := 39) dX3_write_1 (by decide) (by omega) (by omega) ?_
  refine gg_iload_n dX3_write_4 1 rfl ?_
  refine gg_sipush dX3_write_5 (by decide) ?_
  refine gg_icmp_ge_f (tgt := 39) dX3_write_8 (by decide) (by omega) (by omega) ?_
  refine gg_aload_n dX3_write_11 0 rfl ?_
  refine gg_getR (k' := 33) rfl gf_RX3_11 dX3_write_12 sh_32 pl_32 (by decide) (by decide) rr_32_0 ?_
  refine gg_iload_n dX3_write_15 1 rfl ?_
  refine gg_bipush dX3_write_16 (by decide) ?_
  refine gg_iload_n dX3_write_18 2 rfl ?_
  refine gg_imul dX3_write_19 ?_
  refine gg_iload_n dX3_write_20 2 rfl ?_
  refine gg_if_ne (tgt := 28) dX3_write_21 (by decide) (by omega) (fun ho0 => ?_) (fun ho0 => ?_)
  · refine gg_lload_n dX3_write_28 3 rfl ?_
    refine gg_l2i dX3_write_29 ?_
    refine gg_iadd dX3_write_30 ?_
    refine gg_toI (b := w) (by rw [← hw]; split <;> omega) ?_
    refine gg_iastj q dX3_write_31 sh_33 pl_33 (by decide) rfl hq ?_
    refine gg_aload_n dX3_write_32 0 rfl ?_
    refine gg_getR (k' := 34) rfl gf_RX3_15 dX3_write_33 sh_32 pl_32 (by decide) (by decide) rr_32_1 ?_
    refine gg_iload_n dX3_write_36 1 rfl ?_
    refine gg_lload_n dX3_write_37 3 rfl ?_
    refine gg_lastj q dX3_write_38 sh_34 pl_34 (by decide) rfl hq ?_
    refine gg_vretv dX3_write_39 rfl ⟨rfl, rfl⟩ ?_
    exact rfl
  · refine gg_iconst dX3_write_24 ?_
    refine gg_goto (tgt := 30) dX3_write_25 (by decide) ?_
    refine gg_iadd dX3_write_30 ?_
    refine gg_toI (b := w) (by rw [← hw]; split <;> omega) ?_
    refine gg_iastj q dX3_write_31 sh_33 pl_33 (by decide) rfl hq ?_
    refine gg_aload_n dX3_write_32 0 rfl ?_
    refine gg_getR (k' := 34) rfl gf_RX3_15 dX3_write_33 sh_32 pl_32 (by decide) (by decide) rr_32_1 ?_
    refine gg_iload_n dX3_write_36 1 rfl ?_
    refine gg_lload_n dX3_write_37 3 rfl ?_
    refine gg_lastj q dX3_write_38 sh_34 pl_34 (by decide) rfl hq ?_
    refine gg_vretv dX3_write_39 rfl ⟨rfl, rfl⟩ ?_
    exact rfl

set_option maxRecDepth 10000 in
theorem c_X3_lengthOf {l : Launch} {Γ : gC} {ad : Nat → Nat} {I : Nat → Nat → Int} {J : Nat → Nat → Int64} {d : Nat} {a n : Nat} {K : Nat → Nat} {N : Nat → Int64} {Z : Nat → Nat} (hF : gF a) (hA : gAt I J a n K N Z) (hW : gWf n K N Z) {j : Nat} (hj : j < n) (ht : ∀ t, j < t → t < n → I 35 t = (gLc n K Z t : Int)) (hd : 3 ≤ d) : gKi l Γ gm_X3_lengthOf d [.ref (gad (gSS ad) 32), .ref (gad (gSS ad) a), .int (iv (j : Int))] (gSS ad, I, J) (fun e μ => μ = (gSS ad, I, J) ∧ e = (gLc n K Z j : Int)) := by
  refine gKi_of gk_X3_lengthOf.1 (Nat.le_of_ble_eq_true rfl) ?_
  show gG l Γ gm_X3_lengthOf (d, 0, 0, 0, 0) 0 [(0, .ref (gad (gSS ad) 32)), (1, .ref (gad (gSS ad) a)), (2, .int (iv (j : Int)))] [] _ _
  obtain ⟨hK, hZ1, hZ2, he0, he1, he2, he3, hc1, hc2, hc3, -⟩ := hW.2.2 j hj
  have hn := hW.1
  refine gg_aload_n dX3_lengthOf_0 1 rfl ?_
  refine gg_iload_n dX3_lengthOf_1 2 rfl ?_
  refine gg_callVi (own := RX3) (yt := gm_X1_kind) rfl gl_RX3_57 gk_X1_kind gr_X1_kind dX3_lengthOf_2 (c_X1_kind (d := d - 1) hF hA hW.1 (j := j) (by omega) (by omega)) (gFsh hF) (gFlt hF) (by decide) rfl rfl rfl (Nat.le_of_ble_eq_true rfl) (by show _ ≤ d; omega) ⟨Nat.le_refl _, Nat.le_refl _⟩ (fun e1 μ' hc => ?_)
  obtain ⟨rfl, rfl⟩ := hc
  obtain hk | hk | hk | hk | hk | hk | hk | hk := (by omega : K j = 0 ∨ K j = 1 ∨ K j = 2 ∨ K j = 3 ∨ K j = 4 ∨ K j = 5 ∨ K j = 6 ∨ K j = 7)
  · refine gg_toI (b := 0) (by omega) ?_
    refine gg_istore_n (ls' := [(3, .int (iv 0)), (0, .ref (gad (gSS ad) 32)), (1, .ref (gad (gSS ad) a)), (2, .int (iv (j : Int)))]) dX3_lengthOf_5 rfl (by decide) rfl ?_
    refine gg_iload_n dX3_lengthOf_6 0 rfl ?_
    refine gg_bipush dX3_lengthOf_7 (by decide) ?_
    refine gg_icmp_eq_f (tgt := 18) dX3_lengthOf_9 (by decide) (by decide) (by decide) ?_
    refine gg_iload_n dX3_lengthOf_12 0 rfl ?_
    refine gg_bipush dX3_lengthOf_13 (by decide) ?_
    refine gg_icmp_ne_t (tgt := 22) dX3_lengthOf_15 (by decide) (by decide) (by decide) ?_
    refine gg_iconst dX3_lengthOf_22 ?_
    refine gg_istore (ls' := [(4, .int (iv 1)), (3, .int (iv 0)), (0, .ref (gad (gSS ad) 32)), (1, .ref (gad (gSS ad) a)), (2, .int (iv (j : Int)))]) dX3_lengthOf_23 (by decide) rfl ?_
    refine gg_iconst dX3_lengthOf_25 ?_
    refine gg_istore (ls' := [(5, .int (iv 0)), (4, .int (iv 1)), (3, .int (iv 0)), (0, .ref (gad (gSS ad) 32)), (1, .ref (gad (gSS ad) a)), (2, .int (iv (j : Int)))]) dX3_lengthOf_26 (by decide) rfl ?_
    refine gg_iload dX3_lengthOf_28 0 rfl ?_
    refine gg_aload_n dX3_lengthOf_30 4 rfl ?_
    refine gg_iload_n dX3_lengthOf_31 5 rfl ?_
    refine gg_callVi (own := RX3) (yt := gm_X1_parts) rfl gl_RX3_61 gk_X1_parts gr_X1_parts dX3_lengthOf_32 (c_X1_parts (d := d - 1) hF hA hW.1 (j := j) (by omega) (by omega) hK) (gFsh hF) (gFlt hF) (by decide) rfl rfl rfl (Nat.le_of_ble_eq_true rfl) (by show _ ≤ d; omega) ⟨Nat.le_refl _, Nat.le_refl _⟩ (fun e2 μ' hc => ?_)
    obtain ⟨rfl, rfl⟩ := hc
    refine gg_toI (b := 0) (by rw [hk]; rfl) ?_
    refine gg_icmp_ge_t (tgt := 60) dX3_lengthOf_35 (by decide) (by decide) (by decide) ?_
    refine gg_iload dX3_lengthOf_60 1 rfl ?_
    refine gg_ireti dX3_lengthOf_62 rfl ⟨rfl, rfl⟩ ?_
    refine ⟨rfl, ?_⟩
    have hL := gLc_is n K Z j hj
    unfold glF at hL
    rw [hk] at hL
    simp [gPar] at hL
    omega
  · refine gg_toI (b := 1) (by omega) ?_
    refine gg_istore_n (ls' := [(3, .int (iv 1)), (0, .ref (gad (gSS ad) 32)), (1, .ref (gad (gSS ad) a)), (2, .int (iv (j : Int)))]) dX3_lengthOf_5 rfl (by decide) rfl ?_
    refine gg_iload_n dX3_lengthOf_6 0 rfl ?_
    refine gg_bipush dX3_lengthOf_7 (by decide) ?_
    refine gg_icmp_eq_f (tgt := 18) dX3_lengthOf_9 (by decide) (by decide) (by decide) ?_
    refine gg_iload_n dX3_lengthOf_12 0 rfl ?_
    refine gg_bipush dX3_lengthOf_13 (by decide) ?_
    refine gg_icmp_ne_t (tgt := 22) dX3_lengthOf_15 (by decide) (by decide) (by decide) ?_
    refine gg_iconst dX3_lengthOf_22 ?_
    refine gg_istore (ls' := [(4, .int (iv 1)), (3, .int (iv 1)), (0, .ref (gad (gSS ad) 32)), (1, .ref (gad (gSS ad) a)), (2, .int (iv (j : Int)))]) dX3_lengthOf_23 (by decide) rfl ?_
    refine gg_iconst dX3_lengthOf_25 ?_
    refine gg_istore (ls' := [(5, .int (iv 0)), (4, .int (iv 1)), (3, .int (iv 1)), (0, .ref (gad (gSS ad) 32)), (1, .ref (gad (gSS ad) a)), (2, .int (iv (j : Int)))]) dX3_lengthOf_26 (by decide) rfl ?_
    refine gg_iload dX3_lengthOf_28 0 rfl ?_
    refine gg_aload_n dX3_lengthOf_30 4 rfl ?_
    refine gg_iload_n dX3_lengthOf_31 5 rfl ?_
    refine gg_callVi (own := RX3) (yt := gm_X1_parts) rfl gl_RX3_61 gk_X1_parts gr_X1_parts dX3_lengthOf_32 (c_X1_parts (d := d - 1) hF hA hW.1 (j := j) (by omega) (by omega) hK) (gFsh hF) (gFlt hF) (by decide) rfl rfl rfl (Nat.le_of_ble_eq_true rfl) (by show _ ≤ d; omega) ⟨Nat.le_refl _, Nat.le_refl _⟩ (fun e3 μ' hc => ?_)
    obtain ⟨rfl, rfl⟩ := hc
    refine gg_toI (b := 0) (by rw [hk]; rfl) ?_
    refine gg_icmp_ge_t (tgt := 60) dX3_lengthOf_35 (by decide) (by decide) (by decide) ?_
    refine gg_iload dX3_lengthOf_60 1 rfl ?_
    refine gg_ireti dX3_lengthOf_62 rfl ⟨rfl, rfl⟩ ?_
    refine ⟨rfl, ?_⟩
    have hL := gLc_is n K Z j hj
    unfold glF at hL
    rw [hk] at hL
    simp [gPar] at hL
    omega
  · refine gg_toI (b := 2) (by omega) ?_
    refine gg_istore_n (ls' := [(3, .int (iv 2)), (0, .ref (gad (gSS ad) 32)), (1, .ref (gad (gSS ad) a)), (2, .int (iv (j : Int)))]) dX3_lengthOf_5 rfl (by decide) rfl ?_
    refine gg_iload_n dX3_lengthOf_6 0 rfl ?_
    refine gg_bipush dX3_lengthOf_7 (by decide) ?_
    refine gg_icmp_eq_f (tgt := 18) dX3_lengthOf_9 (by decide) (by decide) (by decide) ?_
    refine gg_iload_n dX3_lengthOf_12 0 rfl ?_
    refine gg_bipush dX3_lengthOf_13 (by decide) ?_
    refine gg_icmp_ne_t (tgt := 22) dX3_lengthOf_15 (by decide) (by decide) (by decide) ?_
    refine gg_iconst dX3_lengthOf_22 ?_
    refine gg_istore (ls' := [(4, .int (iv 1)), (3, .int (iv 2)), (0, .ref (gad (gSS ad) 32)), (1, .ref (gad (gSS ad) a)), (2, .int (iv (j : Int)))]) dX3_lengthOf_23 (by decide) rfl ?_
    refine gg_iconst dX3_lengthOf_25 ?_
    refine gg_istore (ls' := [(5, .int (iv 0)), (4, .int (iv 1)), (3, .int (iv 2)), (0, .ref (gad (gSS ad) 32)), (1, .ref (gad (gSS ad) a)), (2, .int (iv (j : Int)))]) dX3_lengthOf_26 (by decide) rfl ?_
    refine gg_iload dX3_lengthOf_28 0 rfl ?_
    refine gg_aload_n dX3_lengthOf_30 4 rfl ?_
    refine gg_iload_n dX3_lengthOf_31 5 rfl ?_
    refine gg_callVi (own := RX3) (yt := gm_X1_parts) rfl gl_RX3_61 gk_X1_parts gr_X1_parts dX3_lengthOf_32 (c_X1_parts (d := d - 1) hF hA hW.1 (j := j) (by omega) (by omega) hK) (gFsh hF) (gFlt hF) (by decide) rfl rfl rfl (Nat.le_of_ble_eq_true rfl) (by show _ ≤ d; omega) ⟨Nat.le_refl _, Nat.le_refl _⟩ (fun e4 μ' hc => ?_)
    obtain ⟨rfl, rfl⟩ := hc
    refine gg_toI (b := 1) (by rw [hk]; rfl) ?_
    refine gg_icmp_ge_f (tgt := 60) dX3_lengthOf_35 (by decide) (by decide) (by decide) ?_
    refine gg_iload dX3_lengthOf_38 1 rfl ?_
    refine gg_aload_n dX3_lengthOf_40 3 rfl ?_
    refine gg_aload_n dX3_lengthOf_41 4 rfl ?_
    refine gg_iload_n dX3_lengthOf_42 5 rfl ?_
    refine gg_iload dX3_lengthOf_43 0 rfl ?_
    refine gg_callVi (own := RX3) (yt := gm_X1_part) rfl gl_RX3_64 gk_X1_part gr_X1_part dX3_lengthOf_45 (c_X1_part0 (d := d - 1) hF hA hW.1 (j := j) hj (by omega)) (gFsh hF) (gFlt hF) (by decide) rfl rfl rfl (Nat.le_of_ble_eq_true rfl) (by show _ ≤ d; omega) ⟨Nat.le_refl _, Nat.le_refl _⟩ (fun e5 μ' hc => ?_)
    obtain ⟨rfl, rfl⟩ := hc
    refine gg_callVi (own := RX3) (yt := gm_X3_lengthAt) rfl gl_RX3_67 gk_X3_lengthAt gr_X3_lengthAt dX3_lengthOf_48 (c_X3_lengthAt (d := d - 1) (k := j + 1) (by have := (hc1 (by rw [hk]; decide)); omega)) sh_32 pl_32 (by decide) rfl rfl rfl (Nat.le_of_ble_eq_true rfl) (by show _ ≤ d; omega) ⟨Nat.le_refl _, Nat.le_refl _⟩ (fun e6 μ' hc => ?_)
    obtain ⟨rfl, rfl⟩ := hc
    refine gg_toI (b := (gLc n K Z (j + 1) : Int)) (by have hlt : j + 1 < n := (hc1 (by rw [hk]; decide)); rw [if_pos (show j + 1 < 200 by omega)]; exact ht _ (by omega) hlt) ?_
    refine gg_iadd dX3_lengthOf_51 ?_
    refine gg_istore (ls' := [(4, .int (iv (1 + (gLc n K Z (j + 1) : Int)))), (5, .int (iv 0)), (3, .int (iv 2)), (0, .ref (gad (gSS ad) 32)), (1, .ref (gad (gSS ad) a)), (2, .int (iv (j : Int)))]) dX3_lengthOf_52 (by decide) rfl ?_
    refine gg_iincv (ls' := [(5, .int (iv 1)), (4, .int (iv (1 + (gLc n K Z (j + 1) : Int)))), (3, .int (iv 2)), (0, .ref (gad (gSS ad) 32)), (1, .ref (gad (gSS ad) a)), (2, .int (iv (j : Int)))]) dX3_lengthOf_54 1 rfl rfl (by decide) rfl ?_
    refine gg_goto (tgt := 28) dX3_lengthOf_57 (by decide) ?_
    refine gg_iload dX3_lengthOf_28 0 rfl ?_
    refine gg_aload_n dX3_lengthOf_30 4 rfl ?_
    refine gg_iload_n dX3_lengthOf_31 5 rfl ?_
    refine gg_callVi (own := RX3) (yt := gm_X1_parts) rfl gl_RX3_61 gk_X1_parts gr_X1_parts dX3_lengthOf_32 (c_X1_parts (d := d - 1) hF hA hW.1 (j := j) (by omega) (by omega) hK) (gFsh hF) (gFlt hF) (by decide) rfl rfl rfl (Nat.le_of_ble_eq_true rfl) (by show _ ≤ d; omega) ⟨Nat.le_refl _, Nat.le_refl _⟩ (fun e7 μ' hc => ?_)
    obtain ⟨rfl, rfl⟩ := hc
    refine gg_toI (b := 1) (by rw [hk]; rfl) ?_
    refine gg_icmp_ge_t (tgt := 60) dX3_lengthOf_35 (by decide) (by decide) (by decide) ?_
    refine gg_iload dX3_lengthOf_60 1 rfl ?_
    refine gg_ireti dX3_lengthOf_62 rfl ⟨rfl, rfl⟩ ?_
    refine ⟨rfl, ?_⟩
    have hL := gLc_is n K Z j hj
    unfold glF at hL
    rw [hk] at hL
    simp [gPar] at hL
    omega
  · refine gg_toI (b := 3) (by omega) ?_
    refine gg_istore_n (ls' := [(3, .int (iv 3)), (0, .ref (gad (gSS ad) 32)), (1, .ref (gad (gSS ad) a)), (2, .int (iv (j : Int)))]) dX3_lengthOf_5 rfl (by decide) rfl ?_
    refine gg_iload_n dX3_lengthOf_6 0 rfl ?_
    refine gg_bipush dX3_lengthOf_7 (by decide) ?_
    refine gg_icmp_eq_f (tgt := 18) dX3_lengthOf_9 (by decide) (by decide) (by decide) ?_
    refine gg_iload_n dX3_lengthOf_12 0 rfl ?_
    refine gg_bipush dX3_lengthOf_13 (by decide) ?_
    refine gg_icmp_ne_t (tgt := 22) dX3_lengthOf_15 (by decide) (by decide) (by decide) ?_
    refine gg_iconst dX3_lengthOf_22 ?_
    refine gg_istore (ls' := [(4, .int (iv 1)), (3, .int (iv 3)), (0, .ref (gad (gSS ad) 32)), (1, .ref (gad (gSS ad) a)), (2, .int (iv (j : Int)))]) dX3_lengthOf_23 (by decide) rfl ?_
    refine gg_iconst dX3_lengthOf_25 ?_
    refine gg_istore (ls' := [(5, .int (iv 0)), (4, .int (iv 1)), (3, .int (iv 3)), (0, .ref (gad (gSS ad) 32)), (1, .ref (gad (gSS ad) a)), (2, .int (iv (j : Int)))]) dX3_lengthOf_26 (by decide) rfl ?_
    refine gg_iload dX3_lengthOf_28 0 rfl ?_
    refine gg_aload_n dX3_lengthOf_30 4 rfl ?_
    refine gg_iload_n dX3_lengthOf_31 5 rfl ?_
    refine gg_callVi (own := RX3) (yt := gm_X1_parts) rfl gl_RX3_61 gk_X1_parts gr_X1_parts dX3_lengthOf_32 (c_X1_parts (d := d - 1) hF hA hW.1 (j := j) (by omega) (by omega) hK) (gFsh hF) (gFlt hF) (by decide) rfl rfl rfl (Nat.le_of_ble_eq_true rfl) (by show _ ≤ d; omega) ⟨Nat.le_refl _, Nat.le_refl _⟩ (fun e8 μ' hc => ?_)
    obtain ⟨rfl, rfl⟩ := hc
    refine gg_toI (b := 2) (by rw [hk]; rfl) ?_
    refine gg_icmp_ge_f (tgt := 60) dX3_lengthOf_35 (by decide) (by decide) (by decide) ?_
    refine gg_iload dX3_lengthOf_38 1 rfl ?_
    refine gg_aload_n dX3_lengthOf_40 3 rfl ?_
    refine gg_aload_n dX3_lengthOf_41 4 rfl ?_
    refine gg_iload_n dX3_lengthOf_42 5 rfl ?_
    refine gg_iload dX3_lengthOf_43 0 rfl ?_
    refine gg_callVi (own := RX3) (yt := gm_X1_part) rfl gl_RX3_64 gk_X1_part gr_X1_part dX3_lengthOf_45 (c_X1_part0 (d := d - 1) hF hA hW.1 (j := j) hj (by omega)) (gFsh hF) (gFlt hF) (by decide) rfl rfl rfl (Nat.le_of_ble_eq_true rfl) (by show _ ≤ d; omega) ⟨Nat.le_refl _, Nat.le_refl _⟩ (fun e9 μ' hc => ?_)
    obtain ⟨rfl, rfl⟩ := hc
    refine gg_callVi (own := RX3) (yt := gm_X3_lengthAt) rfl gl_RX3_67 gk_X3_lengthAt gr_X3_lengthAt dX3_lengthOf_48 (c_X3_lengthAt (d := d - 1) (k := j + 1) (by have := (hc1 (by rw [hk]; decide)); omega)) sh_32 pl_32 (by decide) rfl rfl rfl (Nat.le_of_ble_eq_true rfl) (by show _ ≤ d; omega) ⟨Nat.le_refl _, Nat.le_refl _⟩ (fun e10 μ' hc => ?_)
    obtain ⟨rfl, rfl⟩ := hc
    refine gg_toI (b := (gLc n K Z (j + 1) : Int)) (by have hlt : j + 1 < n := (hc1 (by rw [hk]; decide)); rw [if_pos (show j + 1 < 200 by omega)]; exact ht _ (by omega) hlt) ?_
    refine gg_iadd dX3_lengthOf_51 ?_
    refine gg_istore (ls' := [(4, .int (iv (1 + (gLc n K Z (j + 1) : Int)))), (5, .int (iv 0)), (3, .int (iv 3)), (0, .ref (gad (gSS ad) 32)), (1, .ref (gad (gSS ad) a)), (2, .int (iv (j : Int)))]) dX3_lengthOf_52 (by decide) rfl ?_
    refine gg_iincv (ls' := [(5, .int (iv 1)), (4, .int (iv (1 + (gLc n K Z (j + 1) : Int)))), (3, .int (iv 3)), (0, .ref (gad (gSS ad) 32)), (1, .ref (gad (gSS ad) a)), (2, .int (iv (j : Int)))]) dX3_lengthOf_54 1 rfl rfl (by decide) rfl ?_
    refine gg_goto (tgt := 28) dX3_lengthOf_57 (by decide) ?_
    refine gg_iload dX3_lengthOf_28 0 rfl ?_
    refine gg_aload_n dX3_lengthOf_30 4 rfl ?_
    refine gg_iload_n dX3_lengthOf_31 5 rfl ?_
    refine gg_callVi (own := RX3) (yt := gm_X1_parts) rfl gl_RX3_61 gk_X1_parts gr_X1_parts dX3_lengthOf_32 (c_X1_parts (d := d - 1) hF hA hW.1 (j := j) (by omega) (by omega) hK) (gFsh hF) (gFlt hF) (by decide) rfl rfl rfl (Nat.le_of_ble_eq_true rfl) (by show _ ≤ d; omega) ⟨Nat.le_refl _, Nat.le_refl _⟩ (fun e11 μ' hc => ?_)
    obtain ⟨rfl, rfl⟩ := hc
    refine gg_toI (b := 2) (by rw [hk]; rfl) ?_
    refine gg_icmp_ge_f (tgt := 60) dX3_lengthOf_35 (by decide) (by decide) (by decide) ?_
    refine gg_iload dX3_lengthOf_38 1 rfl ?_
    refine gg_aload_n dX3_lengthOf_40 3 rfl ?_
    refine gg_aload_n dX3_lengthOf_41 4 rfl ?_
    refine gg_iload_n dX3_lengthOf_42 5 rfl ?_
    refine gg_iload dX3_lengthOf_43 0 rfl ?_
    refine gg_callVi (own := RX3) (yt := gm_X1_part) rfl gl_RX3_64 gk_X1_part gr_X1_part dX3_lengthOf_45 (c_X1_part1 (d := d - 1) hF hA hW.1 (j := j) (hc1 (by rw [hk]; decide)) hj (by omega)) (gFsh hF) (gFlt hF) (by decide) rfl rfl rfl (Nat.le_of_ble_eq_true rfl) (by show _ ≤ d; omega) ⟨Nat.le_refl _, Nat.le_refl _⟩ (fun e12 μ' hc => ?_)
    obtain ⟨rfl, rfl⟩ := hc
    refine gg_callVi (own := RX3) (yt := gm_X3_lengthAt) rfl gl_RX3_67 gk_X3_lengthAt gr_X3_lengthAt dX3_lengthOf_48 (c_X3_lengthAt (d := d - 1) (k := gPt Z j 1) (by have := (hc2 (by rw [hk]; decide)); omega)) sh_32 pl_32 (by decide) rfl rfl rfl (Nat.le_of_ble_eq_true rfl) (by show _ ≤ d; omega) ⟨Nat.le_refl _, Nat.le_refl _⟩ (fun e13 μ' hc => ?_)
    obtain ⟨rfl, rfl⟩ := hc
    refine gg_toI (b := (gLc n K Z (gPt Z j 1) : Int)) (by have hlt : gPt Z j 1 < n := (hc2 (by rw [hk]; decide)); rw [if_pos (show gPt Z j 1 < 200 by omega)]; exact ht _ (by simp only [gPt]; omega) hlt) ?_
    refine gg_iadd dX3_lengthOf_51 ?_
    refine gg_istore (ls' := [(4, .int (iv ((1 + (gLc n K Z (j + 1) : Int)) + (gLc n K Z (gPt Z j 1) : Int)))), (5, .int (iv 1)), (3, .int (iv 3)), (0, .ref (gad (gSS ad) 32)), (1, .ref (gad (gSS ad) a)), (2, .int (iv (j : Int)))]) dX3_lengthOf_52 (by decide) rfl ?_
    refine gg_iincv (ls' := [(5, .int (iv 2)), (4, .int (iv ((1 + (gLc n K Z (j + 1) : Int)) + (gLc n K Z (gPt Z j 1) : Int)))), (3, .int (iv 3)), (0, .ref (gad (gSS ad) 32)), (1, .ref (gad (gSS ad) a)), (2, .int (iv (j : Int)))]) dX3_lengthOf_54 1 rfl rfl (by decide) rfl ?_
    refine gg_goto (tgt := 28) dX3_lengthOf_57 (by decide) ?_
    refine gg_iload dX3_lengthOf_28 0 rfl ?_
    refine gg_aload_n dX3_lengthOf_30 4 rfl ?_
    refine gg_iload_n dX3_lengthOf_31 5 rfl ?_
    refine gg_callVi (own := RX3) (yt := gm_X1_parts) rfl gl_RX3_61 gk_X1_parts gr_X1_parts dX3_lengthOf_32 (c_X1_parts (d := d - 1) hF hA hW.1 (j := j) (by omega) (by omega) hK) (gFsh hF) (gFlt hF) (by decide) rfl rfl rfl (Nat.le_of_ble_eq_true rfl) (by show _ ≤ d; omega) ⟨Nat.le_refl _, Nat.le_refl _⟩ (fun e14 μ' hc => ?_)
    obtain ⟨rfl, rfl⟩ := hc
    refine gg_toI (b := 2) (by rw [hk]; rfl) ?_
    refine gg_icmp_ge_t (tgt := 60) dX3_lengthOf_35 (by decide) (by decide) (by decide) ?_
    refine gg_iload dX3_lengthOf_60 1 rfl ?_
    refine gg_ireti dX3_lengthOf_62 rfl ⟨rfl, rfl⟩ ?_
    refine ⟨rfl, ?_⟩
    have hL := gLc_is n K Z j hj
    unfold glF at hL
    rw [hk] at hL
    simp [gPar] at hL
    omega
  · refine gg_toI (b := 4) (by omega) ?_
    refine gg_istore_n (ls' := [(3, .int (iv 4)), (0, .ref (gad (gSS ad) 32)), (1, .ref (gad (gSS ad) a)), (2, .int (iv (j : Int)))]) dX3_lengthOf_5 rfl (by decide) rfl ?_
    refine gg_iload_n dX3_lengthOf_6 0 rfl ?_
    refine gg_bipush dX3_lengthOf_7 (by decide) ?_
    refine gg_icmp_eq_f (tgt := 18) dX3_lengthOf_9 (by decide) (by decide) (by decide) ?_
    refine gg_iload_n dX3_lengthOf_12 0 rfl ?_
    refine gg_bipush dX3_lengthOf_13 (by decide) ?_
    refine gg_icmp_ne_t (tgt := 22) dX3_lengthOf_15 (by decide) (by decide) (by decide) ?_
    refine gg_iconst dX3_lengthOf_22 ?_
    refine gg_istore (ls' := [(4, .int (iv 1)), (3, .int (iv 4)), (0, .ref (gad (gSS ad) 32)), (1, .ref (gad (gSS ad) a)), (2, .int (iv (j : Int)))]) dX3_lengthOf_23 (by decide) rfl ?_
    refine gg_iconst dX3_lengthOf_25 ?_
    refine gg_istore (ls' := [(5, .int (iv 0)), (4, .int (iv 1)), (3, .int (iv 4)), (0, .ref (gad (gSS ad) 32)), (1, .ref (gad (gSS ad) a)), (2, .int (iv (j : Int)))]) dX3_lengthOf_26 (by decide) rfl ?_
    refine gg_iload dX3_lengthOf_28 0 rfl ?_
    refine gg_aload_n dX3_lengthOf_30 4 rfl ?_
    refine gg_iload_n dX3_lengthOf_31 5 rfl ?_
    refine gg_callVi (own := RX3) (yt := gm_X1_parts) rfl gl_RX3_61 gk_X1_parts gr_X1_parts dX3_lengthOf_32 (c_X1_parts (d := d - 1) hF hA hW.1 (j := j) (by omega) (by omega) hK) (gFsh hF) (gFlt hF) (by decide) rfl rfl rfl (Nat.le_of_ble_eq_true rfl) (by show _ ≤ d; omega) ⟨Nat.le_refl _, Nat.le_refl _⟩ (fun e15 μ' hc => ?_)
    obtain ⟨rfl, rfl⟩ := hc
    refine gg_toI (b := 2) (by rw [hk]; rfl) ?_
    refine gg_icmp_ge_f (tgt := 60) dX3_lengthOf_35 (by decide) (by decide) (by decide) ?_
    refine gg_iload dX3_lengthOf_38 1 rfl ?_
    refine gg_aload_n dX3_lengthOf_40 3 rfl ?_
    refine gg_aload_n dX3_lengthOf_41 4 rfl ?_
    refine gg_iload_n dX3_lengthOf_42 5 rfl ?_
    refine gg_iload dX3_lengthOf_43 0 rfl ?_
    refine gg_callVi (own := RX3) (yt := gm_X1_part) rfl gl_RX3_64 gk_X1_part gr_X1_part dX3_lengthOf_45 (c_X1_part0 (d := d - 1) hF hA hW.1 (j := j) hj (by omega)) (gFsh hF) (gFlt hF) (by decide) rfl rfl rfl (Nat.le_of_ble_eq_true rfl) (by show _ ≤ d; omega) ⟨Nat.le_refl _, Nat.le_refl _⟩ (fun e16 μ' hc => ?_)
    obtain ⟨rfl, rfl⟩ := hc
    refine gg_callVi (own := RX3) (yt := gm_X3_lengthAt) rfl gl_RX3_67 gk_X3_lengthAt gr_X3_lengthAt dX3_lengthOf_48 (c_X3_lengthAt (d := d - 1) (k := j + 1) (by have := (hc1 (by rw [hk]; decide)); omega)) sh_32 pl_32 (by decide) rfl rfl rfl (Nat.le_of_ble_eq_true rfl) (by show _ ≤ d; omega) ⟨Nat.le_refl _, Nat.le_refl _⟩ (fun e17 μ' hc => ?_)
    obtain ⟨rfl, rfl⟩ := hc
    refine gg_toI (b := (gLc n K Z (j + 1) : Int)) (by have hlt : j + 1 < n := (hc1 (by rw [hk]; decide)); rw [if_pos (show j + 1 < 200 by omega)]; exact ht _ (by omega) hlt) ?_
    refine gg_iadd dX3_lengthOf_51 ?_
    refine gg_istore (ls' := [(4, .int (iv (1 + (gLc n K Z (j + 1) : Int)))), (5, .int (iv 0)), (3, .int (iv 4)), (0, .ref (gad (gSS ad) 32)), (1, .ref (gad (gSS ad) a)), (2, .int (iv (j : Int)))]) dX3_lengthOf_52 (by decide) rfl ?_
    refine gg_iincv (ls' := [(5, .int (iv 1)), (4, .int (iv (1 + (gLc n K Z (j + 1) : Int)))), (3, .int (iv 4)), (0, .ref (gad (gSS ad) 32)), (1, .ref (gad (gSS ad) a)), (2, .int (iv (j : Int)))]) dX3_lengthOf_54 1 rfl rfl (by decide) rfl ?_
    refine gg_goto (tgt := 28) dX3_lengthOf_57 (by decide) ?_
    refine gg_iload dX3_lengthOf_28 0 rfl ?_
    refine gg_aload_n dX3_lengthOf_30 4 rfl ?_
    refine gg_iload_n dX3_lengthOf_31 5 rfl ?_
    refine gg_callVi (own := RX3) (yt := gm_X1_parts) rfl gl_RX3_61 gk_X1_parts gr_X1_parts dX3_lengthOf_32 (c_X1_parts (d := d - 1) hF hA hW.1 (j := j) (by omega) (by omega) hK) (gFsh hF) (gFlt hF) (by decide) rfl rfl rfl (Nat.le_of_ble_eq_true rfl) (by show _ ≤ d; omega) ⟨Nat.le_refl _, Nat.le_refl _⟩ (fun e18 μ' hc => ?_)
    obtain ⟨rfl, rfl⟩ := hc
    refine gg_toI (b := 2) (by rw [hk]; rfl) ?_
    refine gg_icmp_ge_f (tgt := 60) dX3_lengthOf_35 (by decide) (by decide) (by decide) ?_
    refine gg_iload dX3_lengthOf_38 1 rfl ?_
    refine gg_aload_n dX3_lengthOf_40 3 rfl ?_
    refine gg_aload_n dX3_lengthOf_41 4 rfl ?_
    refine gg_iload_n dX3_lengthOf_42 5 rfl ?_
    refine gg_iload dX3_lengthOf_43 0 rfl ?_
    refine gg_callVi (own := RX3) (yt := gm_X1_part) rfl gl_RX3_64 gk_X1_part gr_X1_part dX3_lengthOf_45 (c_X1_part1 (d := d - 1) hF hA hW.1 (j := j) (hc1 (by rw [hk]; decide)) hj (by omega)) (gFsh hF) (gFlt hF) (by decide) rfl rfl rfl (Nat.le_of_ble_eq_true rfl) (by show _ ≤ d; omega) ⟨Nat.le_refl _, Nat.le_refl _⟩ (fun e19 μ' hc => ?_)
    obtain ⟨rfl, rfl⟩ := hc
    refine gg_callVi (own := RX3) (yt := gm_X3_lengthAt) rfl gl_RX3_67 gk_X3_lengthAt gr_X3_lengthAt dX3_lengthOf_48 (c_X3_lengthAt (d := d - 1) (k := gPt Z j 1) (by have := (hc2 (by rw [hk]; decide)); omega)) sh_32 pl_32 (by decide) rfl rfl rfl (Nat.le_of_ble_eq_true rfl) (by show _ ≤ d; omega) ⟨Nat.le_refl _, Nat.le_refl _⟩ (fun e20 μ' hc => ?_)
    obtain ⟨rfl, rfl⟩ := hc
    refine gg_toI (b := (gLc n K Z (gPt Z j 1) : Int)) (by have hlt : gPt Z j 1 < n := (hc2 (by rw [hk]; decide)); rw [if_pos (show gPt Z j 1 < 200 by omega)]; exact ht _ (by simp only [gPt]; omega) hlt) ?_
    refine gg_iadd dX3_lengthOf_51 ?_
    refine gg_istore (ls' := [(4, .int (iv ((1 + (gLc n K Z (j + 1) : Int)) + (gLc n K Z (gPt Z j 1) : Int)))), (5, .int (iv 1)), (3, .int (iv 4)), (0, .ref (gad (gSS ad) 32)), (1, .ref (gad (gSS ad) a)), (2, .int (iv (j : Int)))]) dX3_lengthOf_52 (by decide) rfl ?_
    refine gg_iincv (ls' := [(5, .int (iv 2)), (4, .int (iv ((1 + (gLc n K Z (j + 1) : Int)) + (gLc n K Z (gPt Z j 1) : Int)))), (3, .int (iv 4)), (0, .ref (gad (gSS ad) 32)), (1, .ref (gad (gSS ad) a)), (2, .int (iv (j : Int)))]) dX3_lengthOf_54 1 rfl rfl (by decide) rfl ?_
    refine gg_goto (tgt := 28) dX3_lengthOf_57 (by decide) ?_
    refine gg_iload dX3_lengthOf_28 0 rfl ?_
    refine gg_aload_n dX3_lengthOf_30 4 rfl ?_
    refine gg_iload_n dX3_lengthOf_31 5 rfl ?_
    refine gg_callVi (own := RX3) (yt := gm_X1_parts) rfl gl_RX3_61 gk_X1_parts gr_X1_parts dX3_lengthOf_32 (c_X1_parts (d := d - 1) hF hA hW.1 (j := j) (by omega) (by omega) hK) (gFsh hF) (gFlt hF) (by decide) rfl rfl rfl (Nat.le_of_ble_eq_true rfl) (by show _ ≤ d; omega) ⟨Nat.le_refl _, Nat.le_refl _⟩ (fun e21 μ' hc => ?_)
    obtain ⟨rfl, rfl⟩ := hc
    refine gg_toI (b := 2) (by rw [hk]; rfl) ?_
    refine gg_icmp_ge_t (tgt := 60) dX3_lengthOf_35 (by decide) (by decide) (by decide) ?_
    refine gg_iload dX3_lengthOf_60 1 rfl ?_
    refine gg_ireti dX3_lengthOf_62 rfl ⟨rfl, rfl⟩ ?_
    refine ⟨rfl, ?_⟩
    have hL := gLc_is n K Z j hj
    unfold glF at hL
    rw [hk] at hL
    simp [gPar] at hL
    omega
  · refine gg_toI (b := 5) (by omega) ?_
    refine gg_istore_n (ls' := [(3, .int (iv 5)), (0, .ref (gad (gSS ad) 32)), (1, .ref (gad (gSS ad) a)), (2, .int (iv (j : Int)))]) dX3_lengthOf_5 rfl (by decide) rfl ?_
    refine gg_iload_n dX3_lengthOf_6 0 rfl ?_
    refine gg_bipush dX3_lengthOf_7 (by decide) ?_
    refine gg_icmp_eq_f (tgt := 18) dX3_lengthOf_9 (by decide) (by decide) (by decide) ?_
    refine gg_iload_n dX3_lengthOf_12 0 rfl ?_
    refine gg_bipush dX3_lengthOf_13 (by decide) ?_
    refine gg_icmp_ne_t (tgt := 22) dX3_lengthOf_15 (by decide) (by decide) (by decide) ?_
    refine gg_iconst dX3_lengthOf_22 ?_
    refine gg_istore (ls' := [(4, .int (iv 1)), (3, .int (iv 5)), (0, .ref (gad (gSS ad) 32)), (1, .ref (gad (gSS ad) a)), (2, .int (iv (j : Int)))]) dX3_lengthOf_23 (by decide) rfl ?_
    refine gg_iconst dX3_lengthOf_25 ?_
    refine gg_istore (ls' := [(5, .int (iv 0)), (4, .int (iv 1)), (3, .int (iv 5)), (0, .ref (gad (gSS ad) 32)), (1, .ref (gad (gSS ad) a)), (2, .int (iv (j : Int)))]) dX3_lengthOf_26 (by decide) rfl ?_
    refine gg_iload dX3_lengthOf_28 0 rfl ?_
    refine gg_aload_n dX3_lengthOf_30 4 rfl ?_
    refine gg_iload_n dX3_lengthOf_31 5 rfl ?_
    refine gg_callVi (own := RX3) (yt := gm_X1_parts) rfl gl_RX3_61 gk_X1_parts gr_X1_parts dX3_lengthOf_32 (c_X1_parts (d := d - 1) hF hA hW.1 (j := j) (by omega) (by omega) hK) (gFsh hF) (gFlt hF) (by decide) rfl rfl rfl (Nat.le_of_ble_eq_true rfl) (by show _ ≤ d; omega) ⟨Nat.le_refl _, Nat.le_refl _⟩ (fun e22 μ' hc => ?_)
    obtain ⟨rfl, rfl⟩ := hc
    refine gg_toI (b := 1) (by rw [hk]; rfl) ?_
    refine gg_icmp_ge_f (tgt := 60) dX3_lengthOf_35 (by decide) (by decide) (by decide) ?_
    refine gg_iload dX3_lengthOf_38 1 rfl ?_
    refine gg_aload_n dX3_lengthOf_40 3 rfl ?_
    refine gg_aload_n dX3_lengthOf_41 4 rfl ?_
    refine gg_iload_n dX3_lengthOf_42 5 rfl ?_
    refine gg_iload dX3_lengthOf_43 0 rfl ?_
    refine gg_callVi (own := RX3) (yt := gm_X1_part) rfl gl_RX3_64 gk_X1_part gr_X1_part dX3_lengthOf_45 (c_X1_part0 (d := d - 1) hF hA hW.1 (j := j) hj (by omega)) (gFsh hF) (gFlt hF) (by decide) rfl rfl rfl (Nat.le_of_ble_eq_true rfl) (by show _ ≤ d; omega) ⟨Nat.le_refl _, Nat.le_refl _⟩ (fun e23 μ' hc => ?_)
    obtain ⟨rfl, rfl⟩ := hc
    refine gg_callVi (own := RX3) (yt := gm_X3_lengthAt) rfl gl_RX3_67 gk_X3_lengthAt gr_X3_lengthAt dX3_lengthOf_48 (c_X3_lengthAt (d := d - 1) (k := j + 1) (by have := (hc1 (by rw [hk]; decide)); omega)) sh_32 pl_32 (by decide) rfl rfl rfl (Nat.le_of_ble_eq_true rfl) (by show _ ≤ d; omega) ⟨Nat.le_refl _, Nat.le_refl _⟩ (fun e24 μ' hc => ?_)
    obtain ⟨rfl, rfl⟩ := hc
    refine gg_toI (b := (gLc n K Z (j + 1) : Int)) (by have hlt : j + 1 < n := (hc1 (by rw [hk]; decide)); rw [if_pos (show j + 1 < 200 by omega)]; exact ht _ (by omega) hlt) ?_
    refine gg_iadd dX3_lengthOf_51 ?_
    refine gg_istore (ls' := [(4, .int (iv (1 + (gLc n K Z (j + 1) : Int)))), (5, .int (iv 0)), (3, .int (iv 5)), (0, .ref (gad (gSS ad) 32)), (1, .ref (gad (gSS ad) a)), (2, .int (iv (j : Int)))]) dX3_lengthOf_52 (by decide) rfl ?_
    refine gg_iincv (ls' := [(5, .int (iv 1)), (4, .int (iv (1 + (gLc n K Z (j + 1) : Int)))), (3, .int (iv 5)), (0, .ref (gad (gSS ad) 32)), (1, .ref (gad (gSS ad) a)), (2, .int (iv (j : Int)))]) dX3_lengthOf_54 1 rfl rfl (by decide) rfl ?_
    refine gg_goto (tgt := 28) dX3_lengthOf_57 (by decide) ?_
    refine gg_iload dX3_lengthOf_28 0 rfl ?_
    refine gg_aload_n dX3_lengthOf_30 4 rfl ?_
    refine gg_iload_n dX3_lengthOf_31 5 rfl ?_
    refine gg_callVi (own := RX3) (yt := gm_X1_parts) rfl gl_RX3_61 gk_X1_parts gr_X1_parts dX3_lengthOf_32 (c_X1_parts (d := d - 1) hF hA hW.1 (j := j) (by omega) (by omega) hK) (gFsh hF) (gFlt hF) (by decide) rfl rfl rfl (Nat.le_of_ble_eq_true rfl) (by show _ ≤ d; omega) ⟨Nat.le_refl _, Nat.le_refl _⟩ (fun e25 μ' hc => ?_)
    obtain ⟨rfl, rfl⟩ := hc
    refine gg_toI (b := 1) (by rw [hk]; rfl) ?_
    refine gg_icmp_ge_t (tgt := 60) dX3_lengthOf_35 (by decide) (by decide) (by decide) ?_
    refine gg_iload dX3_lengthOf_60 1 rfl ?_
    refine gg_ireti dX3_lengthOf_62 rfl ⟨rfl, rfl⟩ ?_
    refine ⟨rfl, ?_⟩
    have hL := gLc_is n K Z j hj
    unfold glF at hL
    rw [hk] at hL
    simp [gPar] at hL
    omega
  · refine gg_toI (b := 6) (by omega) ?_
    refine gg_istore_n (ls' := [(3, .int (iv 6)), (0, .ref (gad (gSS ad) 32)), (1, .ref (gad (gSS ad) a)), (2, .int (iv (j : Int)))]) dX3_lengthOf_5 rfl (by decide) rfl ?_
    refine gg_iload_n dX3_lengthOf_6 0 rfl ?_
    refine gg_bipush dX3_lengthOf_7 (by decide) ?_
    refine gg_icmp_eq_t (tgt := 18) dX3_lengthOf_9 (by decide) (by decide) (by decide) ?_
    refine gg_iconst dX3_lengthOf_18 ?_
    refine gg_goto (tgt := 23) dX3_lengthOf_19 (by decide) ?_
    refine gg_istore (ls' := [(4, .int (iv 2)), (3, .int (iv 6)), (0, .ref (gad (gSS ad) 32)), (1, .ref (gad (gSS ad) a)), (2, .int (iv (j : Int)))]) dX3_lengthOf_23 (by decide) rfl ?_
    refine gg_iconst dX3_lengthOf_25 ?_
    refine gg_istore (ls' := [(5, .int (iv 0)), (4, .int (iv 2)), (3, .int (iv 6)), (0, .ref (gad (gSS ad) 32)), (1, .ref (gad (gSS ad) a)), (2, .int (iv (j : Int)))]) dX3_lengthOf_26 (by decide) rfl ?_
    refine gg_iload dX3_lengthOf_28 0 rfl ?_
    refine gg_aload_n dX3_lengthOf_30 4 rfl ?_
    refine gg_iload_n dX3_lengthOf_31 5 rfl ?_
    refine gg_callVi (own := RX3) (yt := gm_X1_parts) rfl gl_RX3_61 gk_X1_parts gr_X1_parts dX3_lengthOf_32 (c_X1_parts (d := d - 1) hF hA hW.1 (j := j) (by omega) (by omega) hK) (gFsh hF) (gFlt hF) (by decide) rfl rfl rfl (Nat.le_of_ble_eq_true rfl) (by show _ ≤ d; omega) ⟨Nat.le_refl _, Nat.le_refl _⟩ (fun e26 μ' hc => ?_)
    obtain ⟨rfl, rfl⟩ := hc
    refine gg_toI (b := 3) (by rw [hk]; rfl) ?_
    refine gg_icmp_ge_f (tgt := 60) dX3_lengthOf_35 (by decide) (by decide) (by decide) ?_
    refine gg_iload dX3_lengthOf_38 1 rfl ?_
    refine gg_aload_n dX3_lengthOf_40 3 rfl ?_
    refine gg_aload_n dX3_lengthOf_41 4 rfl ?_
    refine gg_iload_n dX3_lengthOf_42 5 rfl ?_
    refine gg_iload dX3_lengthOf_43 0 rfl ?_
    refine gg_callVi (own := RX3) (yt := gm_X1_part) rfl gl_RX3_64 gk_X1_part gr_X1_part dX3_lengthOf_45 (c_X1_part0 (d := d - 1) hF hA hW.1 (j := j) hj (by omega)) (gFsh hF) (gFlt hF) (by decide) rfl rfl rfl (Nat.le_of_ble_eq_true rfl) (by show _ ≤ d; omega) ⟨Nat.le_refl _, Nat.le_refl _⟩ (fun e27 μ' hc => ?_)
    obtain ⟨rfl, rfl⟩ := hc
    refine gg_callVi (own := RX3) (yt := gm_X3_lengthAt) rfl gl_RX3_67 gk_X3_lengthAt gr_X3_lengthAt dX3_lengthOf_48 (c_X3_lengthAt (d := d - 1) (k := j + 1) (by have := (hc1 (by rw [hk]; decide)); omega)) sh_32 pl_32 (by decide) rfl rfl rfl (Nat.le_of_ble_eq_true rfl) (by show _ ≤ d; omega) ⟨Nat.le_refl _, Nat.le_refl _⟩ (fun e28 μ' hc => ?_)
    obtain ⟨rfl, rfl⟩ := hc
    refine gg_toI (b := (gLc n K Z (j + 1) : Int)) (by have hlt : j + 1 < n := (hc1 (by rw [hk]; decide)); rw [if_pos (show j + 1 < 200 by omega)]; exact ht _ (by omega) hlt) ?_
    refine gg_iadd dX3_lengthOf_51 ?_
    refine gg_istore (ls' := [(4, .int (iv (2 + (gLc n K Z (j + 1) : Int)))), (5, .int (iv 0)), (3, .int (iv 6)), (0, .ref (gad (gSS ad) 32)), (1, .ref (gad (gSS ad) a)), (2, .int (iv (j : Int)))]) dX3_lengthOf_52 (by decide) rfl ?_
    refine gg_iincv (ls' := [(5, .int (iv 1)), (4, .int (iv (2 + (gLc n K Z (j + 1) : Int)))), (3, .int (iv 6)), (0, .ref (gad (gSS ad) 32)), (1, .ref (gad (gSS ad) a)), (2, .int (iv (j : Int)))]) dX3_lengthOf_54 1 rfl rfl (by decide) rfl ?_
    refine gg_goto (tgt := 28) dX3_lengthOf_57 (by decide) ?_
    refine gg_iload dX3_lengthOf_28 0 rfl ?_
    refine gg_aload_n dX3_lengthOf_30 4 rfl ?_
    refine gg_iload_n dX3_lengthOf_31 5 rfl ?_
    refine gg_callVi (own := RX3) (yt := gm_X1_parts) rfl gl_RX3_61 gk_X1_parts gr_X1_parts dX3_lengthOf_32 (c_X1_parts (d := d - 1) hF hA hW.1 (j := j) (by omega) (by omega) hK) (gFsh hF) (gFlt hF) (by decide) rfl rfl rfl (Nat.le_of_ble_eq_true rfl) (by show _ ≤ d; omega) ⟨Nat.le_refl _, Nat.le_refl _⟩ (fun e29 μ' hc => ?_)
    obtain ⟨rfl, rfl⟩ := hc
    refine gg_toI (b := 3) (by rw [hk]; rfl) ?_
    refine gg_icmp_ge_f (tgt := 60) dX3_lengthOf_35 (by decide) (by decide) (by decide) ?_
    refine gg_iload dX3_lengthOf_38 1 rfl ?_
    refine gg_aload_n dX3_lengthOf_40 3 rfl ?_
    refine gg_aload_n dX3_lengthOf_41 4 rfl ?_
    refine gg_iload_n dX3_lengthOf_42 5 rfl ?_
    refine gg_iload dX3_lengthOf_43 0 rfl ?_
    refine gg_callVi (own := RX3) (yt := gm_X1_part) rfl gl_RX3_64 gk_X1_part gr_X1_part dX3_lengthOf_45 (c_X1_part1 (d := d - 1) hF hA hW.1 (j := j) (hc1 (by rw [hk]; decide)) hj (by omega)) (gFsh hF) (gFlt hF) (by decide) rfl rfl rfl (Nat.le_of_ble_eq_true rfl) (by show _ ≤ d; omega) ⟨Nat.le_refl _, Nat.le_refl _⟩ (fun e30 μ' hc => ?_)
    obtain ⟨rfl, rfl⟩ := hc
    refine gg_callVi (own := RX3) (yt := gm_X3_lengthAt) rfl gl_RX3_67 gk_X3_lengthAt gr_X3_lengthAt dX3_lengthOf_48 (c_X3_lengthAt (d := d - 1) (k := gPt Z j 1) (by have := (hc2 (by rw [hk]; decide)); omega)) sh_32 pl_32 (by decide) rfl rfl rfl (Nat.le_of_ble_eq_true rfl) (by show _ ≤ d; omega) ⟨Nat.le_refl _, Nat.le_refl _⟩ (fun e31 μ' hc => ?_)
    obtain ⟨rfl, rfl⟩ := hc
    refine gg_toI (b := (gLc n K Z (gPt Z j 1) : Int)) (by have hlt : gPt Z j 1 < n := (hc2 (by rw [hk]; decide)); rw [if_pos (show gPt Z j 1 < 200 by omega)]; exact ht _ (by simp only [gPt]; omega) hlt) ?_
    refine gg_iadd dX3_lengthOf_51 ?_
    refine gg_istore (ls' := [(4, .int (iv ((2 + (gLc n K Z (j + 1) : Int)) + (gLc n K Z (gPt Z j 1) : Int)))), (5, .int (iv 1)), (3, .int (iv 6)), (0, .ref (gad (gSS ad) 32)), (1, .ref (gad (gSS ad) a)), (2, .int (iv (j : Int)))]) dX3_lengthOf_52 (by decide) rfl ?_
    refine gg_iincv (ls' := [(5, .int (iv 2)), (4, .int (iv ((2 + (gLc n K Z (j + 1) : Int)) + (gLc n K Z (gPt Z j 1) : Int)))), (3, .int (iv 6)), (0, .ref (gad (gSS ad) 32)), (1, .ref (gad (gSS ad) a)), (2, .int (iv (j : Int)))]) dX3_lengthOf_54 1 rfl rfl (by decide) rfl ?_
    refine gg_goto (tgt := 28) dX3_lengthOf_57 (by decide) ?_
    refine gg_iload dX3_lengthOf_28 0 rfl ?_
    refine gg_aload_n dX3_lengthOf_30 4 rfl ?_
    refine gg_iload_n dX3_lengthOf_31 5 rfl ?_
    refine gg_callVi (own := RX3) (yt := gm_X1_parts) rfl gl_RX3_61 gk_X1_parts gr_X1_parts dX3_lengthOf_32 (c_X1_parts (d := d - 1) hF hA hW.1 (j := j) (by omega) (by omega) hK) (gFsh hF) (gFlt hF) (by decide) rfl rfl rfl (Nat.le_of_ble_eq_true rfl) (by show _ ≤ d; omega) ⟨Nat.le_refl _, Nat.le_refl _⟩ (fun e32 μ' hc => ?_)
    obtain ⟨rfl, rfl⟩ := hc
    refine gg_toI (b := 3) (by rw [hk]; rfl) ?_
    refine gg_icmp_ge_f (tgt := 60) dX3_lengthOf_35 (by decide) (by decide) (by decide) ?_
    refine gg_iload dX3_lengthOf_38 1 rfl ?_
    refine gg_aload_n dX3_lengthOf_40 3 rfl ?_
    refine gg_aload_n dX3_lengthOf_41 4 rfl ?_
    refine gg_iload_n dX3_lengthOf_42 5 rfl ?_
    refine gg_iload dX3_lengthOf_43 0 rfl ?_
    refine gg_callVi (own := RX3) (yt := gm_X1_part) rfl gl_RX3_64 gk_X1_part gr_X1_part dX3_lengthOf_45 (c_X1_part2 (d := d - 1) hF hA hW.1 (j := j) (hc1 (by rw [hk]; decide)) (hc2 (by rw [hk]; decide)) hj (by omega)) (gFsh hF) (gFlt hF) (by decide) rfl rfl rfl (Nat.le_of_ble_eq_true rfl) (by show _ ≤ d; omega) ⟨Nat.le_refl _, Nat.le_refl _⟩ (fun e33 μ' hc => ?_)
    obtain ⟨rfl, rfl⟩ := hc
    refine gg_callVi (own := RX3) (yt := gm_X3_lengthAt) rfl gl_RX3_67 gk_X3_lengthAt gr_X3_lengthAt dX3_lengthOf_48 (c_X3_lengthAt (d := d - 1) (k := gPt Z j 2) (by have := (hc3 (by rw [hk]; decide)); omega)) sh_32 pl_32 (by decide) rfl rfl rfl (Nat.le_of_ble_eq_true rfl) (by show _ ≤ d; omega) ⟨Nat.le_refl _, Nat.le_refl _⟩ (fun e34 μ' hc => ?_)
    obtain ⟨rfl, rfl⟩ := hc
    refine gg_toI (b := (gLc n K Z (gPt Z j 2) : Int)) (by have hlt : gPt Z j 2 < n := (hc3 (by rw [hk]; decide)); rw [if_pos (show gPt Z j 2 < 200 by omega)]; exact ht _ (by simp only [gPt]; omega) hlt) ?_
    refine gg_iadd dX3_lengthOf_51 ?_
    refine gg_istore (ls' := [(4, .int (iv (((2 + (gLc n K Z (j + 1) : Int)) + (gLc n K Z (gPt Z j 1) : Int)) + (gLc n K Z (gPt Z j 2) : Int)))), (5, .int (iv 2)), (3, .int (iv 6)), (0, .ref (gad (gSS ad) 32)), (1, .ref (gad (gSS ad) a)), (2, .int (iv (j : Int)))]) dX3_lengthOf_52 (by decide) rfl ?_
    refine gg_iincv (ls' := [(5, .int (iv 3)), (4, .int (iv (((2 + (gLc n K Z (j + 1) : Int)) + (gLc n K Z (gPt Z j 1) : Int)) + (gLc n K Z (gPt Z j 2) : Int)))), (3, .int (iv 6)), (0, .ref (gad (gSS ad) 32)), (1, .ref (gad (gSS ad) a)), (2, .int (iv (j : Int)))]) dX3_lengthOf_54 1 rfl rfl (by decide) rfl ?_
    refine gg_goto (tgt := 28) dX3_lengthOf_57 (by decide) ?_
    refine gg_iload dX3_lengthOf_28 0 rfl ?_
    refine gg_aload_n dX3_lengthOf_30 4 rfl ?_
    refine gg_iload_n dX3_lengthOf_31 5 rfl ?_
    refine gg_callVi (own := RX3) (yt := gm_X1_parts) rfl gl_RX3_61 gk_X1_parts gr_X1_parts dX3_lengthOf_32 (c_X1_parts (d := d - 1) hF hA hW.1 (j := j) (by omega) (by omega) hK) (gFsh hF) (gFlt hF) (by decide) rfl rfl rfl (Nat.le_of_ble_eq_true rfl) (by show _ ≤ d; omega) ⟨Nat.le_refl _, Nat.le_refl _⟩ (fun e35 μ' hc => ?_)
    obtain ⟨rfl, rfl⟩ := hc
    refine gg_toI (b := 3) (by rw [hk]; rfl) ?_
    refine gg_icmp_ge_t (tgt := 60) dX3_lengthOf_35 (by decide) (by decide) (by decide) ?_
    refine gg_iload dX3_lengthOf_60 1 rfl ?_
    refine gg_ireti dX3_lengthOf_62 rfl ⟨rfl, rfl⟩ ?_
    refine ⟨rfl, ?_⟩
    have hL := gLc_is n K Z j hj
    unfold glF at hL
    rw [hk] at hL
    simp [gPar] at hL
    omega
  · refine gg_toI (b := 7) (by omega) ?_
    refine gg_istore_n (ls' := [(3, .int (iv 7)), (0, .ref (gad (gSS ad) 32)), (1, .ref (gad (gSS ad) a)), (2, .int (iv (j : Int)))]) dX3_lengthOf_5 rfl (by decide) rfl ?_
    refine gg_iload_n dX3_lengthOf_6 0 rfl ?_
    refine gg_bipush dX3_lengthOf_7 (by decide) ?_
    refine gg_icmp_eq_f (tgt := 18) dX3_lengthOf_9 (by decide) (by decide) (by decide) ?_
    refine gg_iload_n dX3_lengthOf_12 0 rfl ?_
    refine gg_bipush dX3_lengthOf_13 (by decide) ?_
    refine gg_icmp_ne_f (tgt := 22) dX3_lengthOf_15 (by decide) (by decide) (by decide) ?_
    refine gg_iconst dX3_lengthOf_18 ?_
    refine gg_goto (tgt := 23) dX3_lengthOf_19 (by decide) ?_
    refine gg_istore (ls' := [(4, .int (iv 2)), (3, .int (iv 7)), (0, .ref (gad (gSS ad) 32)), (1, .ref (gad (gSS ad) a)), (2, .int (iv (j : Int)))]) dX3_lengthOf_23 (by decide) rfl ?_
    refine gg_iconst dX3_lengthOf_25 ?_
    refine gg_istore (ls' := [(5, .int (iv 0)), (4, .int (iv 2)), (3, .int (iv 7)), (0, .ref (gad (gSS ad) 32)), (1, .ref (gad (gSS ad) a)), (2, .int (iv (j : Int)))]) dX3_lengthOf_26 (by decide) rfl ?_
    refine gg_iload dX3_lengthOf_28 0 rfl ?_
    refine gg_aload_n dX3_lengthOf_30 4 rfl ?_
    refine gg_iload_n dX3_lengthOf_31 5 rfl ?_
    refine gg_callVi (own := RX3) (yt := gm_X1_parts) rfl gl_RX3_61 gk_X1_parts gr_X1_parts dX3_lengthOf_32 (c_X1_parts (d := d - 1) hF hA hW.1 (j := j) (by omega) (by omega) hK) (gFsh hF) (gFlt hF) (by decide) rfl rfl rfl (Nat.le_of_ble_eq_true rfl) (by show _ ≤ d; omega) ⟨Nat.le_refl _, Nat.le_refl _⟩ (fun e36 μ' hc => ?_)
    obtain ⟨rfl, rfl⟩ := hc
    refine gg_toI (b := 1) (by rw [hk]; rfl) ?_
    refine gg_icmp_ge_f (tgt := 60) dX3_lengthOf_35 (by decide) (by decide) (by decide) ?_
    refine gg_iload dX3_lengthOf_38 1 rfl ?_
    refine gg_aload_n dX3_lengthOf_40 3 rfl ?_
    refine gg_aload_n dX3_lengthOf_41 4 rfl ?_
    refine gg_iload_n dX3_lengthOf_42 5 rfl ?_
    refine gg_iload dX3_lengthOf_43 0 rfl ?_
    refine gg_callVi (own := RX3) (yt := gm_X1_part) rfl gl_RX3_64 gk_X1_part gr_X1_part dX3_lengthOf_45 (c_X1_part0 (d := d - 1) hF hA hW.1 (j := j) hj (by omega)) (gFsh hF) (gFlt hF) (by decide) rfl rfl rfl (Nat.le_of_ble_eq_true rfl) (by show _ ≤ d; omega) ⟨Nat.le_refl _, Nat.le_refl _⟩ (fun e37 μ' hc => ?_)
    obtain ⟨rfl, rfl⟩ := hc
    refine gg_callVi (own := RX3) (yt := gm_X3_lengthAt) rfl gl_RX3_67 gk_X3_lengthAt gr_X3_lengthAt dX3_lengthOf_48 (c_X3_lengthAt (d := d - 1) (k := j + 1) (by have := (hc1 (by rw [hk]; decide)); omega)) sh_32 pl_32 (by decide) rfl rfl rfl (Nat.le_of_ble_eq_true rfl) (by show _ ≤ d; omega) ⟨Nat.le_refl _, Nat.le_refl _⟩ (fun e38 μ' hc => ?_)
    obtain ⟨rfl, rfl⟩ := hc
    refine gg_toI (b := (gLc n K Z (j + 1) : Int)) (by have hlt : j + 1 < n := (hc1 (by rw [hk]; decide)); rw [if_pos (show j + 1 < 200 by omega)]; exact ht _ (by omega) hlt) ?_
    refine gg_iadd dX3_lengthOf_51 ?_
    refine gg_istore (ls' := [(4, .int (iv (2 + (gLc n K Z (j + 1) : Int)))), (5, .int (iv 0)), (3, .int (iv 7)), (0, .ref (gad (gSS ad) 32)), (1, .ref (gad (gSS ad) a)), (2, .int (iv (j : Int)))]) dX3_lengthOf_52 (by decide) rfl ?_
    refine gg_iincv (ls' := [(5, .int (iv 1)), (4, .int (iv (2 + (gLc n K Z (j + 1) : Int)))), (3, .int (iv 7)), (0, .ref (gad (gSS ad) 32)), (1, .ref (gad (gSS ad) a)), (2, .int (iv (j : Int)))]) dX3_lengthOf_54 1 rfl rfl (by decide) rfl ?_
    refine gg_goto (tgt := 28) dX3_lengthOf_57 (by decide) ?_
    refine gg_iload dX3_lengthOf_28 0 rfl ?_
    refine gg_aload_n dX3_lengthOf_30 4 rfl ?_
    refine gg_iload_n dX3_lengthOf_31 5 rfl ?_
    refine gg_callVi (own := RX3) (yt := gm_X1_parts) rfl gl_RX3_61 gk_X1_parts gr_X1_parts dX3_lengthOf_32 (c_X1_parts (d := d - 1) hF hA hW.1 (j := j) (by omega) (by omega) hK) (gFsh hF) (gFlt hF) (by decide) rfl rfl rfl (Nat.le_of_ble_eq_true rfl) (by show _ ≤ d; omega) ⟨Nat.le_refl _, Nat.le_refl _⟩ (fun e39 μ' hc => ?_)
    obtain ⟨rfl, rfl⟩ := hc
    refine gg_toI (b := 1) (by rw [hk]; rfl) ?_
    refine gg_icmp_ge_t (tgt := 60) dX3_lengthOf_35 (by decide) (by decide) (by decide) ?_
    refine gg_iload dX3_lengthOf_60 1 rfl ?_
    refine gg_ireti dX3_lengthOf_62 rfl ⟨rfl, rfl⟩ ?_
    refine ⟨rfl, ?_⟩
    have hL := gLc_is n K Z j hj
    unfold glF at hL
    rw [hk] at hL
    simp [gPar] at hL
    omega

theorem gAt_p2 {I I' : Nat → Nat → Int} {J J' : Nat → Nat → Int64} {a n : Nat} {K : Nat → Nat} {N : Nat → Int64} {Z : Nat → Nat} (hF : gF a) (h : gAt I J a n K N Z) (hI : ∀ p, p ≠ 33 → p ≠ 36 → I' p = I p) (hJ : ∀ p, p ≠ 34 → J' p = J p) : gAt I' J' a n K N Z := by
  have hr := gF_rng hF
  exact gAt_same h (hI _ (by omega) (by omega)) (hI _ (by omega) (by omega)) (hJ _ (by omega)) (hI _ (by omega) (by omega))
set_option maxRecDepth 10000 in
theorem c_X3_writePick {l : Launch} {Γ : gC} {ad : Nat → Nat} {I : Nat → Nat → Int} {J : Nat → Nat → Int64} {d : Nat} {a n : Nat} {K : Nat → Nat} {N : Nat → Int64} {Z : Nat → Nat} (hF : gF a) (hA : gAt I J a n K N Z) (hW : gWf n K N Z) {i s : Nat} (hi : i < n) (hs : s + gLc n K Z i ≤ 400) (ht : ∀ t, t < n → I 35 t = (gLc n K Z t : Int)) (hk : K i = 6) (hd : 3 ≤ d) : gKv l Γ gm_X3_writePick d [.ref (gad (gSS ad) 32), .ref (gad (gSS ad) a), .int (iv (i : Int)), .int (iv (s : Int)), .int (iv (gLc n K Z i : Int))] (gSS ad, I, J) (fun μ => ∃ I' J', μ = (gSS ad, I', J') ∧ gWn n K N Z i s I J I' J' ∧ (∀ p, p ≠ 33 → p ≠ 36 → I' p = I p) ∧ (∀ p, p ≠ 34 → J' p = J p)) := by
  refine gKv_of gk_X3_writePick.1 (Nat.le_of_ble_eq_true rfl) ?_
  show gG l Γ gm_X3_writePick (d, 0, 0, 0, 0) 0 [(0, .ref (gad (gSS ad) 32)), (1, .ref (gad (gSS ad) a)), (2, .int (iv (i : Int))), (3, .int (iv (s : Int))), (4, .int (iv (gLc n K Z i : Int)))] [] _ _
  obtain ⟨hK, hZ1, hZ2, he0, he1, he2, he3, hc1, hc2, hc3, -⟩ := hW.2.2 i hi
  have hn := hW.1
  have hL := gLc_is n K Z i hi
  unfold glF at hL
  have hl1 := (gL_rng hW i hi).1
  rw [hk] at hL
  simp [gPar] at hL
  have hp1 : i + 1 < gPt Z i 1 := by have := (hW.2.2 _ (hc1 (by rw [hk]; decide))).2.1; simp only [gPt]; omega
  have hp2 : gPt Z i 1 < gPt Z i 2 := by have := (hW.2.2 _ (hc2 (by rw [hk]; decide))).2.1; simp only [gPt] at this ⊢; omega
  refine gg_aload_n dX3_writePick_0 0 rfl ?_
  refine gg_iload_n dX3_writePick_1 2 rfl ?_
  refine gg_iconst dX3_writePick_2 ?_
  refine gg_iadd dX3_writePick_3 ?_
  refine gg_iload_n dX3_writePick_4 3 rfl ?_
  refine gg_callVi (own := RX3) (yt := gm_X3_place) rfl gl_RX3_78 gk_X3_place gr_X3_place dX3_writePick_5 (c_X3_place (d := d - 1) (k := (i + 1)) (s := s) (Lk := gLc n K Z (i + 1)) (by have := (hc1 (by rw [hk]; decide)); omega) (ht _ (hc1 (by rw [hk]; decide))) (by omega)) sh_32 pl_32 (by decide) rfl rfl rfl (Nat.le_of_ble_eq_true rfl) (by show _ ≤ d; omega) ⟨Nat.le_refl _, Nat.le_refl _⟩ (fun e1 μ' hc => ?_)
  obtain ⟨rfl, rfl⟩ := hc
  obtain ⟨jf, hjf⟩ : ∃ jf : Nat, jf = s + gLc n K Z (i + 1) := ⟨_, rfl⟩
  refine gg_toI (b := (jf : Int)) (by omega) ?_
  refine gg_istore (ls' := [(5, .int (iv (jf : Int))), (0, .ref (gad (gSS ad) 32)), (1, .ref (gad (gSS ad) a)), (2, .int (iv (i : Int))), (3, .int (iv (s : Int))), (4, .int (iv (gLc n K Z i : Int)))]) dX3_writePick_8 (by decide) rfl ?_
  refine gg_aload_n dX3_writePick_10 1 rfl ?_
  refine gg_aload_n dX3_writePick_11 2 rfl ?_
  refine gg_iload_n dX3_writePick_12 3 rfl ?_
  refine gg_iconst dX3_writePick_13 ?_
  refine gg_callVi (own := RX3) (yt := gm_X1_part) rfl gl_RX3_64 gk_X1_part gr_X1_part dX3_writePick_14 (c_X1_part1 (d := d - 1) hF (gAt_p2 hF hA (fun p h1 h2 => (gu_other (by omega)).trans (rfl)) (fun p h1 => rfl)) hW.1 (j := i) (hc1 (by rw [hk]; decide)) hi (by omega)) (gFsh hF) (gFlt hF) (by decide) rfl rfl rfl (Nat.le_of_ble_eq_true rfl) (by show _ ≤ d; omega) ⟨Nat.le_refl _, Nat.le_refl _⟩ (fun e2 μ' hc => ?_)
  obtain ⟨rfl, rfl⟩ := hc
  refine gg_iload dX3_writePick_17 0 rfl ?_
  refine gg_iconst dX3_writePick_19 ?_
  refine gg_iadd dX3_writePick_20 ?_
  refine gg_toI (b := (((s + gLc n K Z (i + 1) + 1) : Nat) : Int)) (by omega) ?_
  refine gg_callVi (own := RX3) (yt := gm_X3_place) rfl gl_RX3_78 gk_X3_place gr_X3_place dX3_writePick_21 (c_X3_place (d := d - 1) (k := (gPt Z i 1)) (s := (s + gLc n K Z (i + 1) + 1)) (Lk := gLc n K Z (gPt Z i 1)) (by have := (hc2 (by rw [hk]; decide)); omega) ((gu_n (by omega)).trans (ht _ (hc2 (by rw [hk]; decide)))) (by omega)) sh_32 pl_32 (by decide) rfl rfl rfl (Nat.le_of_ble_eq_true rfl) (by show _ ≤ d; omega) ⟨Nat.le_refl _, Nat.le_refl _⟩ (fun e3 μ' hc => ?_)
  obtain ⟨rfl, rfl⟩ := hc
  obtain ⟨jg, hjg⟩ : ∃ jg : Nat, jg = s + gLc n K Z (i + 1) + 1 + gLc n K Z (gPt Z i 1) := ⟨_, rfl⟩
  refine gg_toI (b := (jg : Int)) (by omega) ?_
  refine gg_istore (ls' := [(6, .int (iv (jg : Int))), (5, .int (iv (jf : Int))), (0, .ref (gad (gSS ad) 32)), (1, .ref (gad (gSS ad) a)), (2, .int (iv (i : Int))), (3, .int (iv (s : Int))), (4, .int (iv (gLc n K Z i : Int)))]) dX3_writePick_24 (by decide) rfl ?_
  refine gg_aload_n dX3_writePick_26 2 rfl ?_
  refine gg_aload_n dX3_writePick_27 3 rfl ?_
  refine gg_iload_n dX3_writePick_28 4 rfl ?_
  refine gg_iconst dX3_writePick_29 ?_
  refine gg_callVi (own := RX3) (yt := gm_X1_part) rfl gl_RX3_64 gk_X1_part gr_X1_part dX3_writePick_30 (c_X1_part2 (d := d - 1) hF (gAt_p2 hF hA (fun p h1 h2 => (gu_other (by omega)).trans ((gu_other (by omega)).trans (rfl))) (fun p h1 => rfl)) hW.1 (j := i) (hc1 (by rw [hk]; decide)) (hc2 (by rw [hk]; decide)) hi (by omega)) (gFsh hF) (gFlt hF) (by decide) rfl rfl rfl (Nat.le_of_ble_eq_true rfl) (by show _ ≤ d; omega) ⟨Nat.le_refl _, Nat.le_refl _⟩ (fun e4 μ' hc => ?_)
  obtain ⟨rfl, rfl⟩ := hc
  refine gg_iload dX3_writePick_33 0 rfl ?_
  refine gg_iconst dX3_writePick_35 ?_
  refine gg_iadd dX3_writePick_36 ?_
  refine gg_toI (b := (((s + gLc n K Z (i + 1) + 1 + gLc n K Z (gPt Z i 1) + 1) : Nat) : Int)) (by omega) ?_
  refine gg_callVi (own := RX3) (yt := gm_X3_place) rfl gl_RX3_78 gk_X3_place gr_X3_place dX3_writePick_37 (c_X3_place (d := d - 1) (k := (gPt Z i 2)) (s := (s + gLc n K Z (i + 1) + 1 + gLc n K Z (gPt Z i 1) + 1)) (Lk := gLc n K Z (gPt Z i 2)) (by have := (hc3 (by rw [hk]; decide)); omega) ((gu_n (by omega)).trans ((gu_n (by omega)).trans (ht _ (hc3 (by rw [hk]; decide))))) (by omega)) sh_32 pl_32 (by decide) rfl rfl rfl (Nat.le_of_ble_eq_true rfl) (by show _ ≤ d; omega) ⟨Nat.le_refl _, Nat.le_refl _⟩ (fun e5 μ' hc => ?_)
  obtain ⟨rfl, rfl⟩ := hc
  refine gg_pop dX3_writePick_40 rfl ?_
  refine gg_aload_n dX3_writePick_41 2 rfl ?_
  refine gg_iload dX3_writePick_42 1 rfl ?_
  refine gg_bipush dX3_writePick_44 (by decide) ?_
  refine gg_bipush dX3_writePick_46 (by decide) ?_
  refine gg_iload dX3_writePick_48 0 rfl ?_
  refine gg_iconst dX3_writePick_50 ?_
  refine gg_iadd dX3_writePick_51 ?_
  refine gg_imul dX3_writePick_52 ?_
  refine gg_toI (b := ((100 * (s + gLc n K Z (i + 1) + 1 + gLc n K Z (gPt Z i 1) + 1) : Nat) : Int)) (by omega) ?_
  refine gg_i2l dX3_writePick_53 ?_
  refine gg_toL (b := (Int64.ofNat (100 * (s + gLc n K Z (i + 1) + 1 + gLc n K Z (gPt Z i 1) + 1)))) (gi2l_nat (by omega)) ?_
  refine gg_callVv (own := RX3) (yt := gm_X3_write) rfl gl_RX3_74 gk_X3_write gr_X3_write dX3_writePick_54 (c_X3_write (d := d - 1) (q := jf) (or := 6) (w := (60 + 100 * (((s + gLc n K Z (i + 1) + 1 + gLc n K Z (gPt Z i 1) + 1) : Nat) : Int))) (by omega) (by omega) (by rw [if_neg (by decide), gl2i_nat (by omega)]; omega)) sh_32 pl_32 (by decide) rfl rfl rfl (Nat.le_of_ble_eq_true rfl) (by show _ ≤ d; omega) ⟨Nat.le_refl _, Nat.le_refl _⟩ (fun μ' hc => ?_)
  obtain rfl := hc
  refine gg_aload_n dX3_writePick_57 2 rfl ?_
  refine gg_iload dX3_writePick_58 0 rfl ?_
  refine gg_bipush dX3_writePick_60 (by decide) ?_
  refine gg_bipush dX3_writePick_62 (by decide) ?_
  refine gg_iload_n dX3_writePick_64 5 rfl ?_
  refine gg_iload dX3_writePick_65 6 rfl ?_
  refine gg_iadd dX3_writePick_67 ?_
  refine gg_imul dX3_writePick_68 ?_
  refine gg_toI (b := ((100 * (s + gLc n K Z i) : Nat) : Int)) (by omega) ?_
  refine gg_i2l dX3_writePick_69 ?_
  refine gg_toL (b := (Int64.ofNat (100 * (s + gLc n K Z i)))) (gi2l_nat (by omega)) ?_
  refine gg_callVv (own := RX3) (yt := gm_X3_write) rfl gl_RX3_74 gk_X3_write gr_X3_write dX3_writePick_70 (c_X3_write (d := d - 1) (q := jg) (or := 7) (w := (70 + 100 * (((s + gLc n K Z i) : Nat) : Int))) (by omega) (by omega) (by rw [if_neg (by decide), gl2i_nat (by omega)]; omega)) sh_32 pl_32 (by decide) rfl rfl rfl (Nat.le_of_ble_eq_true rfl) (by show _ ≤ d; omega) ⟨Nat.le_refl _, Nat.le_refl _⟩ (fun μ' hc => ?_)
  obtain rfl := hc
  refine gg_vretv dX3_writePick_73 rfl ⟨rfl, rfl⟩ ?_
  refine ⟨_, _, rfl, ⟨fun r sr h => ?_, fun t ht2 => ?_, fun q => ?_, fun q h1 h2 => ?_⟩, fun p h1 h2 => ?_, fun p h1 => ?_⟩
  · rcases h with ⟨g, e1, e2⟩ | ⟨g, e1, e2⟩ | ⟨g, e1, e2⟩
    · rw [e1, e2]; exact ((gu_n (by omega)).trans ((gu_n (by omega)).trans ((gu_n (by omega)).trans ((gu_n (by omega)).trans (gu_s)))))
    · rw [hk] at e2; rw [e1, e2]; exact ((gu_n (by omega)).trans ((gu_n (by omega)).trans ((gu_n (by omega)).trans (gu_s))))
    · rw [e1, e2]; exact ((gu_n (by omega)).trans ((gu_n (by omega)).trans (gu_s)))
  · have n1 : t ≠ (i + 1) := fun e => ht2 s (by rw [e]; exact (Or.inl ⟨by rw [hk]; decide, rfl, rfl⟩))
    have n2 : t ≠ (gPt Z i 1) := fun e => ht2 (s + gLc n K Z (i + 1) + 1) (by rw [e]; exact (Or.inr (Or.inl ⟨by rw [hk]; decide, rfl, by rw [hk]; rfl⟩)))
    have n3 : t ≠ (gPt Z i 2) := fun e => ht2 (s + gLc n K Z (i + 1) + 1 + gLc n K Z (gPt Z i 1) + 1) (by rw [e]; exact (Or.inr (Or.inr ⟨by rw [hk]; decide, rfl, rfl⟩)))
    exact ((gu_n (by omega)).trans ((gu_n (by omega)).trans ((gu_n (by omega)).trans ((gu_n (by omega)).trans ((gu_n (by omega)).trans (rfl))))))
  · by_cases q0 : q = jf
    · exact Or.inr ⟨by omega, by omega, (by rw [q0, gCv_6a hi hk hjf]; exact ⟨((gu_n (by omega)).trans (gu_s)), fun h => by have h : (60 : Int) + 100 * (((s + gLc n K Z (i + 1) + 1 + gLc n K Z (gPt Z i 1) + 1) : Nat) : Int) = 0 := h; omega⟩)⟩
    · skip
      by_cases q1 : q = jg
      · exact Or.inr ⟨by omega, by omega, (by rw [q1, gCv_6b hi hk hjg]; exact ⟨(gu_s), fun h => by have h : (70 : Int) + 100 * (((s + gLc n K Z i) : Nat) : Int) = 0 := h; omega⟩)⟩
      · skip
        exact Or.inl ⟨((gu_n (by omega)).trans ((gu_n (by omega)).trans ((gu_n (by omega)).trans ((gu_n (by omega)).trans ((gu_n (by omega)).trans (rfl)))))), ((gv_n (by omega)).trans ((gv_n (by omega)).trans (rfl)))⟩
  · by_cases q0 : q = jf
    · exact Or.inl (by rw [q0, gCv_6a hi hk hjf]; exact ⟨((gu_n (by omega)).trans (gu_s)), fun h => by have h : (60 : Int) + 100 * (((s + gLc n K Z (i + 1) + 1 + gLc n K Z (gPt Z i 1) + 1) : Nat) : Int) = 0 := h; omega⟩)
    · skip
      by_cases q1 : q = jg
      · exact Or.inl (by rw [q1, gCv_6b hi hk hjg]; exact ⟨(gu_s), fun h => by have h : (70 : Int) + 100 * (((s + gLc n K Z i) : Nat) : Int) = 0 := h; omega⟩)
      · skip
        by_cases qq : q < s + gLc n K Z (i + 1)
        · exact Or.inr ⟨_, _, (Or.inl ⟨by rw [hk]; decide, rfl, rfl⟩), by omega, by omega⟩
        · by_cases qr : q < s + gLc n K Z (i + 1) + 1 + gLc n K Z (gPt Z i 1)
          · exact Or.inr ⟨(gPt Z i 1), (s + gLc n K Z (i + 1) + 1), (Or.inr (Or.inl ⟨by rw [hk]; decide, rfl, by rw [hk]; rfl⟩)), by omega, by omega⟩
          · exact Or.inr ⟨_, _, (Or.inr (Or.inr ⟨by rw [hk]; decide, rfl, rfl⟩)), by omega, by omega⟩
  · exact (gu_other (by omega)).trans ((gu_other (by omega)).trans ((gu_other (by omega)).trans ((gu_other (by omega)).trans ((gu_other (by omega)).trans (rfl)))))
  · exact (gv_other (by omega)).trans ((gv_other (by omega)).trans (rfl))

set_option maxRecDepth 10000 in
theorem c_X3_writeNode {l : Launch} {Γ : gC} {ad : Nat → Nat} {I : Nat → Nat → Int} {J : Nat → Nat → Int64} {d : Nat} {a n : Nat} {K : Nat → Nat} {N : Nat → Int64} {Z : Nat → Nat} (hF : gF a) (hA : gAt I J a n K N Z) (hW : gWf n K N Z) {i s : Nat} (hi : i < n) (hs : s + gLc n K Z i ≤ 400) (ht : ∀ t, t < n → I 35 t = (gLc n K Z t : Int)) (hd : 4 ≤ d) : gKv l Γ gm_X3_writeNode d [.ref (gad (gSS ad) 32), .ref (gad (gSS ad) a), .int (iv (i : Int)), .int (iv (s : Int)), .int (iv (gLc n K Z i : Int))] (gSS ad, I, J) (fun μ => ∃ I' J', μ = (gSS ad, I', J') ∧ gWn n K N Z i s I J I' J' ∧ (∀ p, p ≠ 33 → p ≠ 36 → I' p = I p) ∧ (∀ p, p ≠ 34 → J' p = J p)) := by
  refine gKv_of gk_X3_writeNode.1 (Nat.le_of_ble_eq_true rfl) ?_
  show gG l Γ gm_X3_writeNode (d, 0, 0, 0, 0) 0 [(0, .ref (gad (gSS ad) 32)), (1, .ref (gad (gSS ad) a)), (2, .int (iv (i : Int))), (3, .int (iv (s : Int))), (4, .int (iv (gLc n K Z i : Int)))] [] _ _
  obtain ⟨hK, hZ1, hZ2, he0, he1, he2, he3, hc1, hc2, hc3, -⟩ := hW.2.2 i hi
  have hn := hW.1
  have hL := gLc_is n K Z i hi
  unfold glF at hL
  have hl1 := (gL_rng hW i hi).1
  refine gg_iload_n dX3_writeNode_0 3 rfl ?_
  refine gg_iload dX3_writeNode_1 4 rfl ?_
  refine gg_iadd dX3_writeNode_3 ?_
  refine gg_iconst dX3_writeNode_4 ?_
  refine gg_isub dX3_writeNode_5 ?_
  obtain ⟨la, hla⟩ : ∃ la : Nat, la + 1 = s + gLc n K Z i := ⟨s + gLc n K Z i - 1, by omega⟩
  refine gg_toI (b := (la : Int)) (by omega) ?_
  refine gg_istore (ls' := [(5, .int (iv (la : Int))), (0, .ref (gad (gSS ad) 32)), (1, .ref (gad (gSS ad) a)), (2, .int (iv (i : Int))), (3, .int (iv (s : Int))), (4, .int (iv (gLc n K Z i : Int)))]) dX3_writeNode_6 (by decide) rfl ?_
  refine gg_aload_n dX3_writeNode_8 2 rfl ?_
  refine gg_iload_n dX3_writeNode_9 3 rfl ?_
  refine gg_callVi (own := RX3) (yt := gm_X1_kind) rfl gl_RX3_57 gk_X1_kind gr_X1_kind dX3_writeNode_10 (c_X1_kind (d := d - 1) hF hA hW.1 (j := i) (by omega) (by omega)) (gFsh hF) (gFlt hF) (by decide) rfl rfl rfl (Nat.le_of_ble_eq_true rfl) (by show _ ≤ d; omega) ⟨Nat.le_refl _, Nat.le_refl _⟩ (fun e1 μ' hc => ?_)
  obtain ⟨rfl, rfl⟩ := hc
  obtain hk | hk | hk | hk | hk | hk | hk | hk := (by omega : K i = 0 ∨ K i = 1 ∨ K i = 2 ∨ K i = 3 ∨ K i = 4 ∨ K i = 5 ∨ K i = 6 ∨ K i = 7)
  · refine gg_toI (b := 0) (by omega) ?_
    refine gg_tsw (off := 43) (tgt := 56) dX3_writeNode_13 (by decide) (by decide) rfl (by decide) ?_
    rw [hk] at hL
    simp [gPar] at hL
    refine gg_aload_n dX3_writeNode_56 1 rfl ?_
    refine gg_iload dX3_writeNode_57 0 rfl ?_
    refine gg_iconst dX3_writeNode_59 ?_
    refine gg_aload_n dX3_writeNode_60 2 rfl ?_
    refine gg_iload_n dX3_writeNode_61 3 rfl ?_
    refine gg_callVl (own := RX3) (yt := gm_X1_number) rfl gl_RX3_70 gk_X1_number gr_X1_number dX3_writeNode_62 (c_X1_number (d := d - 1) hF hA hW.1 (j := i) hi (by omega)) (gFsh hF) (gFlt hF) (by decide) rfl rfl rfl (Nat.le_of_ble_eq_true rfl) (by show _ ≤ d; omega) ⟨Nat.le_refl _, Nat.le_refl _⟩ (fun e2 μ' hc => ?_)
    obtain ⟨rfl, rfl⟩ := hc
    refine gg_callVv (own := RX3) (yt := gm_X3_write) rfl gl_RX3_74 gk_X3_write gr_X3_write dX3_writeNode_65 (c_X3_write (d := d - 1) (q := la) (or := 0) (w := 0) (by omega) (by omega) (by simp)) sh_32 pl_32 (by decide) rfl rfl rfl (Nat.le_of_ble_eq_true rfl) (by show _ ≤ d; omega) ⟨Nat.le_refl _, Nat.le_refl _⟩ (fun μ' hc => ?_)
    obtain rfl := hc
    refine gg_goto (tgt := 225) dX3_writeNode_68 (by decide) ?_
    refine gg_vretv dX3_writeNode_225 rfl ⟨rfl, rfl⟩ ?_
    refine ⟨_, _, rfl, ⟨fun r sr h => ?_, fun t ht2 => ?_, fun q => ?_, fun q h1 h2 => ?_⟩, fun p h1 h2 => ?_, fun p h1 => ?_⟩
    · rcases h with ⟨g, e1, e2⟩ | ⟨g, e1, e2⟩ | ⟨g, e1, e2⟩
      · rw [hk] at g; exact absurd g (by decide)
      · rw [hk] at g; exact absurd g (by decide)
      · rw [hk] at g; exact absurd g (by decide)
    · exact ((gu_n (by omega)).trans (rfl))
    · by_cases q0 : q = la
      · exact Or.inr ⟨by omega, by omega, (by rw [q0, gCv_0 hi hk]; exact ⟨(gu_s), fun _ => (gv_s)⟩)⟩
      · skip
        exact Or.inl ⟨((gu_n (by omega)).trans (rfl)), ((gv_n (by omega)).trans (rfl))⟩
    · have q0 : q = la := by omega
      exact Or.inl (by rw [q0, gCv_0 hi hk]; exact ⟨(gu_s), fun _ => (gv_s)⟩)
    · exact (gu_other (by omega)).trans (rfl)
    · exact (gv_other (by omega)).trans (rfl)
  · refine gg_toI (b := 1) (by omega) ?_
    refine gg_tsw (off := 58) (tgt := 71) dX3_writeNode_13 (by decide) (by decide) rfl (by decide) ?_
    rw [hk] at hL
    simp [gPar] at hL
    refine gg_aload_n dX3_writeNode_71 1 rfl ?_
    refine gg_iload dX3_writeNode_72 0 rfl ?_
    refine gg_iconst dX3_writeNode_74 ?_
    refine gg_aload_n dX3_writeNode_75 2 rfl ?_
    refine gg_iload_n dX3_writeNode_76 3 rfl ?_
    refine gg_callVl (own := RX3) (yt := gm_X1_number) rfl gl_RX3_70 gk_X1_number gr_X1_number dX3_writeNode_77 (c_X1_number (d := d - 1) hF hA hW.1 (j := i) hi (by omega)) (gFsh hF) (gFlt hF) (by decide) rfl rfl rfl (Nat.le_of_ble_eq_true rfl) (by show _ ≤ d; omega) ⟨Nat.le_refl _, Nat.le_refl _⟩ (fun e4 μ' hc => ?_)
    obtain ⟨rfl, rfl⟩ := hc
    refine gg_callVv (own := RX3) (yt := gm_X3_write) rfl gl_RX3_74 gk_X3_write gr_X3_write dX3_writeNode_80 (c_X3_write (d := d - 1) (q := la) (or := 1) (w := (10 + gl2i (N i))) (by omega) (by omega) (by rw [if_neg (by decide)]; omega)) sh_32 pl_32 (by decide) rfl rfl rfl (Nat.le_of_ble_eq_true rfl) (by show _ ≤ d; omega) ⟨Nat.le_refl _, Nat.le_refl _⟩ (fun μ' hc => ?_)
    obtain rfl := hc
    refine gg_goto (tgt := 225) dX3_writeNode_83 (by decide) ?_
    refine gg_vretv dX3_writeNode_225 rfl ⟨rfl, rfl⟩ ?_
    refine ⟨_, _, rfl, ⟨fun r sr h => ?_, fun t ht2 => ?_, fun q => ?_, fun q h1 h2 => ?_⟩, fun p h1 h2 => ?_, fun p h1 => ?_⟩
    · rcases h with ⟨g, e1, e2⟩ | ⟨g, e1, e2⟩ | ⟨g, e1, e2⟩
      · rw [hk] at g; exact absurd g (by decide)
      · rw [hk] at g; exact absurd g (by decide)
      · rw [hk] at g; exact absurd g (by decide)
    · exact ((gu_n (by omega)).trans (rfl))
    · by_cases q0 : q = la
      · exact Or.inr ⟨by omega, by omega, (by rw [q0, gCv_1 hi hk]; exact ⟨(gu_s), fun h => absurd (show 10 + gl2i (N i) = 0 from h) (by have := gdg hW hi hk; omega)⟩)⟩
      · skip
        exact Or.inl ⟨((gu_n (by omega)).trans (rfl)), ((gv_n (by omega)).trans (rfl))⟩
    · have q0 : q = la := by omega
      exact Or.inl (by rw [q0, gCv_1 hi hk]; exact ⟨(gu_s), fun h => absurd (show 10 + gl2i (N i) = 0 from h) (by have := gdg hW hi hk; omega)⟩)
    · exact (gu_other (by omega)).trans (rfl)
    · exact (gv_other (by omega)).trans (rfl)
  · refine gg_toI (b := 2) (by omega) ?_
    refine gg_tsw (off := 73) (tgt := 86) dX3_writeNode_13 (by decide) (by decide) rfl (by decide) ?_
    rw [hk] at hL
    simp [gPar] at hL
    refine gg_aload_n dX3_writeNode_86 1 rfl ?_
    refine gg_iload_n dX3_writeNode_87 3 rfl ?_
    refine gg_iconst dX3_writeNode_88 ?_
    refine gg_iadd dX3_writeNode_89 ?_
    refine gg_iload_n dX3_writeNode_90 4 rfl ?_
    refine gg_callVi (own := RX3) (yt := gm_X3_place) rfl gl_RX3_78 gk_X3_place gr_X3_place dX3_writeNode_91 (c_X3_place (d := d - 1) (k := (i + 1)) (s := s) (Lk := gLc n K Z (i + 1)) (by have := (hc1 (by rw [hk]; decide)); omega) (ht _ (hc1 (by rw [hk]; decide))) (by omega)) sh_32 pl_32 (by decide) rfl rfl rfl (Nat.le_of_ble_eq_true rfl) (by show _ ≤ d; omega) ⟨Nat.le_refl _, Nat.le_refl _⟩ (fun e6 μ' hc => ?_)
    obtain ⟨rfl, rfl⟩ := hc
    refine gg_pop dX3_writeNode_94 rfl ?_
    refine gg_aload_n dX3_writeNode_95 1 rfl ?_
    refine gg_iload dX3_writeNode_96 0 rfl ?_
    refine gg_iconst dX3_writeNode_98 ?_
    refine gg_lconstv (x := 0) dX3_writeNode_99 rfl ?_
    refine gg_callVv (own := RX3) (yt := gm_X3_write) rfl gl_RX3_74 gk_X3_write gr_X3_write dX3_writeNode_100 (c_X3_write (d := d - 1) (q := la) (or := 2) (w := 20) (by omega) (by omega) (by decide)) sh_32 pl_32 (by decide) rfl rfl rfl (Nat.le_of_ble_eq_true rfl) (by show _ ≤ d; omega) ⟨Nat.le_refl _, Nat.le_refl _⟩ (fun μ' hc => ?_)
    obtain rfl := hc
    refine gg_goto (tgt := 225) dX3_writeNode_103 (by decide) ?_
    refine gg_vretv dX3_writeNode_225 rfl ⟨rfl, rfl⟩ ?_
    refine ⟨_, _, rfl, ⟨fun r sr h => ?_, fun t ht2 => ?_, fun q => ?_, fun q h1 h2 => ?_⟩, fun p h1 h2 => ?_, fun p h1 => ?_⟩
    · rcases h with ⟨g, e1, e2⟩ | ⟨g, e1, e2⟩ | ⟨g, e1, e2⟩
      · rw [e1, e2]; exact ((gu_n (by omega)).trans (gu_s))
      · rw [hk] at g; exact absurd g (by decide)
      · rw [hk] at g; exact absurd g (by decide)
    · have n1 : t ≠ (i + 1) := fun e => ht2 s (by rw [e]; exact (Or.inl ⟨by rw [hk]; decide, rfl, rfl⟩))
      exact ((gu_n (by omega)).trans ((gu_n (by omega)).trans (rfl)))
    · by_cases q0 : q = la
      · exact Or.inr ⟨by omega, by omega, (by rw [q0, gCv_2 hi hk (by omega)]; exact ⟨(gu_s), fun _ => (gv_s)⟩)⟩
      · skip
        exact Or.inl ⟨((gu_n (by omega)).trans ((gu_n (by omega)).trans (rfl))), ((gv_n (by omega)).trans (rfl))⟩
    · by_cases q0 : q = la
      · exact Or.inl (by rw [q0, gCv_2 hi hk (by omega)]; exact ⟨(gu_s), fun _ => (gv_s)⟩)
      · skip
        exact Or.inr ⟨_, _, (Or.inl ⟨by rw [hk]; decide, rfl, rfl⟩), by omega, by omega⟩
    · exact (gu_other (by omega)).trans ((gu_other (by omega)).trans (rfl))
    · exact (gv_other (by omega)).trans (rfl)
  · refine gg_toI (b := 3) (by omega) ?_
    refine gg_tsw (off := 93) (tgt := 106) dX3_writeNode_13 (by decide) (by decide) rfl (by decide) ?_
    rw [hk] at hL
    simp [gPar] at hL
    have hp1 : i + 1 < gPt Z i 1 := by have := (hW.2.2 _ (hc1 (by rw [hk]; decide))).2.1; simp only [gPt]; omega
    refine gg_aload_n dX3_writeNode_106 1 rfl ?_
    refine gg_aload_n dX3_writeNode_107 2 rfl ?_
    refine gg_iload_n dX3_writeNode_108 3 rfl ?_
    refine gg_iconst dX3_writeNode_109 ?_
    refine gg_callVi (own := RX3) (yt := gm_X1_part) rfl gl_RX3_64 gk_X1_part gr_X1_part dX3_writeNode_110 (c_X1_part1 (d := d - 1) hF hA hW.1 (j := i) (hc1 (by rw [hk]; decide)) hi (by omega)) (gFsh hF) (gFlt hF) (by decide) rfl rfl rfl (Nat.le_of_ble_eq_true rfl) (by show _ ≤ d; omega) ⟨Nat.le_refl _, Nat.le_refl _⟩ (fun e8 μ' hc => ?_)
    obtain ⟨rfl, rfl⟩ := hc
    refine gg_aload_n dX3_writeNode_113 1 rfl ?_
    refine gg_iload_n dX3_writeNode_114 3 rfl ?_
    refine gg_iconst dX3_writeNode_115 ?_
    refine gg_iadd dX3_writeNode_116 ?_
    refine gg_iload_n dX3_writeNode_117 4 rfl ?_
    refine gg_callVi (own := RX3) (yt := gm_X3_place) rfl gl_RX3_78 gk_X3_place gr_X3_place dX3_writeNode_118 (c_X3_place (d := d - 1) (k := (i + 1)) (s := s) (Lk := gLc n K Z (i + 1)) (by have := (hc1 (by rw [hk]; decide)); omega) (ht _ (hc1 (by rw [hk]; decide))) (by omega)) sh_32 pl_32 (by decide) rfl rfl rfl (Nat.le_of_ble_eq_true rfl) (by show _ ≤ d; omega) ⟨Nat.le_refl _, Nat.le_refl _⟩ (fun e9 μ' hc => ?_)
    obtain ⟨rfl, rfl⟩ := hc
    refine gg_callVi (own := RX3) (yt := gm_X3_place) rfl gl_RX3_78 gk_X3_place gr_X3_place dX3_writeNode_121 (c_X3_place (d := d - 1) (k := (gPt Z i 1)) (s := (s + gLc n K Z (i + 1))) (Lk := gLc n K Z (gPt Z i 1)) (by have := (hc2 (by rw [hk]; decide)); omega) ((gu_n (by omega)).trans (ht _ (hc2 (by rw [hk]; decide)))) (by omega)) sh_32 pl_32 (by decide) rfl rfl rfl (Nat.le_of_ble_eq_true rfl) (by show _ ≤ d; omega) ⟨Nat.le_refl _, Nat.le_refl _⟩ (fun e10 μ' hc => ?_)
    obtain ⟨rfl, rfl⟩ := hc
    refine gg_pop dX3_writeNode_124 rfl ?_
    refine gg_aload_n dX3_writeNode_125 1 rfl ?_
    refine gg_iload dX3_writeNode_126 0 rfl ?_
    refine gg_iconst dX3_writeNode_128 ?_
    refine gg_lconstv (x := 0) dX3_writeNode_129 rfl ?_
    refine gg_callVv (own := RX3) (yt := gm_X3_write) rfl gl_RX3_74 gk_X3_write gr_X3_write dX3_writeNode_130 (c_X3_write (d := d - 1) (q := la) (or := 3) (w := 30) (by omega) (by omega) (by decide)) sh_32 pl_32 (by decide) rfl rfl rfl (Nat.le_of_ble_eq_true rfl) (by show _ ≤ d; omega) ⟨Nat.le_refl _, Nat.le_refl _⟩ (fun μ' hc => ?_)
    obtain rfl := hc
    refine gg_goto (tgt := 225) dX3_writeNode_133 (by decide) ?_
    refine gg_vretv dX3_writeNode_225 rfl ⟨rfl, rfl⟩ ?_
    refine ⟨_, _, rfl, ⟨fun r sr h => ?_, fun t ht2 => ?_, fun q => ?_, fun q h1 h2 => ?_⟩, fun p h1 h2 => ?_, fun p h1 => ?_⟩
    · rcases h with ⟨g, e1, e2⟩ | ⟨g, e1, e2⟩ | ⟨g, e1, e2⟩
      · rw [e1, e2]; exact ((gu_n (by omega)).trans ((gu_n (by omega)).trans (gu_s)))
      · rw [hk] at e2; rw [e1, e2]; exact ((gu_n (by omega)).trans (gu_s))
      · rw [hk] at g; exact absurd g (by decide)
    · have n1 : t ≠ (i + 1) := fun e => ht2 s (by rw [e]; exact (Or.inl ⟨by rw [hk]; decide, rfl, rfl⟩))
      have n2 : t ≠ (gPt Z i 1) := fun e => ht2 (s + gLc n K Z (i + 1)) (by rw [e]; exact (Or.inr (Or.inl ⟨by rw [hk]; decide, rfl, by rw [hk]; rfl⟩)))
      exact ((gu_n (by omega)).trans ((gu_n (by omega)).trans ((gu_n (by omega)).trans (rfl))))
    · by_cases q0 : q = la
      · exact Or.inr ⟨by omega, by omega, (by rw [q0, gCv_3 hi hk (by omega) (by omega)]; exact ⟨(gu_s), fun _ => (gv_s)⟩)⟩
      · skip
        exact Or.inl ⟨((gu_n (by omega)).trans ((gu_n (by omega)).trans ((gu_n (by omega)).trans (rfl)))), ((gv_n (by omega)).trans (rfl))⟩
    · by_cases q0 : q = la
      · exact Or.inl (by rw [q0, gCv_3 hi hk (by omega) (by omega)]; exact ⟨(gu_s), fun _ => (gv_s)⟩)
      · skip
        by_cases qq : q < s + gLc n K Z (i + 1)
        · exact Or.inr ⟨_, _, (Or.inl ⟨by rw [hk]; decide, rfl, rfl⟩), by omega, by omega⟩
        · exact Or.inr ⟨(gPt Z i 1), (s + gLc n K Z (i + 1)), (Or.inr (Or.inl ⟨by rw [hk]; decide, rfl, by rw [hk]; rfl⟩)), by omega, by omega⟩
    · exact (gu_other (by omega)).trans ((gu_other (by omega)).trans ((gu_other (by omega)).trans (rfl)))
    · exact (gv_other (by omega)).trans (rfl)
  · refine gg_toI (b := 4) (by omega) ?_
    refine gg_tsw (off := 123) (tgt := 136) dX3_writeNode_13 (by decide) (by decide) rfl (by decide) ?_
    rw [hk] at hL
    simp [gPar] at hL
    have hp1 : i + 1 < gPt Z i 1 := by have := (hW.2.2 _ (hc1 (by rw [hk]; decide))).2.1; simp only [gPt]; omega
    refine gg_aload_n dX3_writeNode_136 1 rfl ?_
    refine gg_aload_n dX3_writeNode_137 2 rfl ?_
    refine gg_iload_n dX3_writeNode_138 3 rfl ?_
    refine gg_iconst dX3_writeNode_139 ?_
    refine gg_callVi (own := RX3) (yt := gm_X1_part) rfl gl_RX3_64 gk_X1_part gr_X1_part dX3_writeNode_140 (c_X1_part1 (d := d - 1) hF hA hW.1 (j := i) (hc1 (by rw [hk]; decide)) hi (by omega)) (gFsh hF) (gFlt hF) (by decide) rfl rfl rfl (Nat.le_of_ble_eq_true rfl) (by show _ ≤ d; omega) ⟨Nat.le_refl _, Nat.le_refl _⟩ (fun e12 μ' hc => ?_)
    obtain ⟨rfl, rfl⟩ := hc
    refine gg_aload_n dX3_writeNode_143 1 rfl ?_
    refine gg_iload_n dX3_writeNode_144 3 rfl ?_
    refine gg_iconst dX3_writeNode_145 ?_
    refine gg_iadd dX3_writeNode_146 ?_
    refine gg_iload_n dX3_writeNode_147 4 rfl ?_
    refine gg_callVi (own := RX3) (yt := gm_X3_place) rfl gl_RX3_78 gk_X3_place gr_X3_place dX3_writeNode_148 (c_X3_place (d := d - 1) (k := (i + 1)) (s := s) (Lk := gLc n K Z (i + 1)) (by have := (hc1 (by rw [hk]; decide)); omega) (ht _ (hc1 (by rw [hk]; decide))) (by omega)) sh_32 pl_32 (by decide) rfl rfl rfl (Nat.le_of_ble_eq_true rfl) (by show _ ≤ d; omega) ⟨Nat.le_refl _, Nat.le_refl _⟩ (fun e13 μ' hc => ?_)
    obtain ⟨rfl, rfl⟩ := hc
    refine gg_callVi (own := RX3) (yt := gm_X3_place) rfl gl_RX3_78 gk_X3_place gr_X3_place dX3_writeNode_151 (c_X3_place (d := d - 1) (k := (gPt Z i 1)) (s := (s + gLc n K Z (i + 1))) (Lk := gLc n K Z (gPt Z i 1)) (by have := (hc2 (by rw [hk]; decide)); omega) ((gu_n (by omega)).trans (ht _ (hc2 (by rw [hk]; decide)))) (by omega)) sh_32 pl_32 (by decide) rfl rfl rfl (Nat.le_of_ble_eq_true rfl) (by show _ ≤ d; omega) ⟨Nat.le_refl _, Nat.le_refl _⟩ (fun e14 μ' hc => ?_)
    obtain ⟨rfl, rfl⟩ := hc
    refine gg_pop dX3_writeNode_154 rfl ?_
    refine gg_aload_n dX3_writeNode_155 1 rfl ?_
    refine gg_iload dX3_writeNode_156 0 rfl ?_
    refine gg_iconst dX3_writeNode_158 ?_
    refine gg_lconstv (x := 0) dX3_writeNode_159 rfl ?_
    refine gg_callVv (own := RX3) (yt := gm_X3_write) rfl gl_RX3_74 gk_X3_write gr_X3_write dX3_writeNode_160 (c_X3_write (d := d - 1) (q := la) (or := 4) (w := 40) (by omega) (by omega) (by decide)) sh_32 pl_32 (by decide) rfl rfl rfl (Nat.le_of_ble_eq_true rfl) (by show _ ≤ d; omega) ⟨Nat.le_refl _, Nat.le_refl _⟩ (fun μ' hc => ?_)
    obtain rfl := hc
    refine gg_goto (tgt := 225) dX3_writeNode_163 (by decide) ?_
    refine gg_vretv dX3_writeNode_225 rfl ⟨rfl, rfl⟩ ?_
    refine ⟨_, _, rfl, ⟨fun r sr h => ?_, fun t ht2 => ?_, fun q => ?_, fun q h1 h2 => ?_⟩, fun p h1 h2 => ?_, fun p h1 => ?_⟩
    · rcases h with ⟨g, e1, e2⟩ | ⟨g, e1, e2⟩ | ⟨g, e1, e2⟩
      · rw [e1, e2]; exact ((gu_n (by omega)).trans ((gu_n (by omega)).trans (gu_s)))
      · rw [hk] at e2; rw [e1, e2]; exact ((gu_n (by omega)).trans (gu_s))
      · rw [hk] at g; exact absurd g (by decide)
    · have n1 : t ≠ (i + 1) := fun e => ht2 s (by rw [e]; exact (Or.inl ⟨by rw [hk]; decide, rfl, rfl⟩))
      have n2 : t ≠ (gPt Z i 1) := fun e => ht2 (s + gLc n K Z (i + 1)) (by rw [e]; exact (Or.inr (Or.inl ⟨by rw [hk]; decide, rfl, by rw [hk]; rfl⟩)))
      exact ((gu_n (by omega)).trans ((gu_n (by omega)).trans ((gu_n (by omega)).trans (rfl))))
    · by_cases q0 : q = la
      · exact Or.inr ⟨by omega, by omega, (by rw [q0, gCv_4 hi hk (by omega) (by omega)]; exact ⟨(gu_s), fun _ => (gv_s)⟩)⟩
      · skip
        exact Or.inl ⟨((gu_n (by omega)).trans ((gu_n (by omega)).trans ((gu_n (by omega)).trans (rfl)))), ((gv_n (by omega)).trans (rfl))⟩
    · by_cases q0 : q = la
      · exact Or.inl (by rw [q0, gCv_4 hi hk (by omega) (by omega)]; exact ⟨(gu_s), fun _ => (gv_s)⟩)
      · skip
        by_cases qq : q < s + gLc n K Z (i + 1)
        · exact Or.inr ⟨_, _, (Or.inl ⟨by rw [hk]; decide, rfl, rfl⟩), by omega, by omega⟩
        · exact Or.inr ⟨(gPt Z i 1), (s + gLc n K Z (i + 1)), (Or.inr (Or.inl ⟨by rw [hk]; decide, rfl, by rw [hk]; rfl⟩)), by omega, by omega⟩
    · exact (gu_other (by omega)).trans ((gu_other (by omega)).trans ((gu_other (by omega)).trans (rfl)))
    · exact (gv_other (by omega)).trans (rfl)
  · refine gg_toI (b := 5) (by omega) ?_
    refine gg_tsw (off := 153) (tgt := 166) dX3_writeNode_13 (by decide) (by decide) rfl (by decide) ?_
    rw [hk] at hL
    simp [gPar] at hL
    refine gg_aload_n dX3_writeNode_166 1 rfl ?_
    refine gg_iload_n dX3_writeNode_167 3 rfl ?_
    refine gg_iconst dX3_writeNode_168 ?_
    refine gg_iadd dX3_writeNode_169 ?_
    refine gg_iload_n dX3_writeNode_170 4 rfl ?_
    refine gg_callVi (own := RX3) (yt := gm_X3_place) rfl gl_RX3_78 gk_X3_place gr_X3_place dX3_writeNode_171 (c_X3_place (d := d - 1) (k := (i + 1)) (s := s) (Lk := gLc n K Z (i + 1)) (by have := (hc1 (by rw [hk]; decide)); omega) (ht _ (hc1 (by rw [hk]; decide))) (by omega)) sh_32 pl_32 (by decide) rfl rfl rfl (Nat.le_of_ble_eq_true rfl) (by show _ ≤ d; omega) ⟨Nat.le_refl _, Nat.le_refl _⟩ (fun e16 μ' hc => ?_)
    obtain ⟨rfl, rfl⟩ := hc
    refine gg_pop dX3_writeNode_174 rfl ?_
    refine gg_aload_n dX3_writeNode_175 1 rfl ?_
    refine gg_iload dX3_writeNode_176 0 rfl ?_
    refine gg_iconst dX3_writeNode_178 ?_
    refine gg_aload_n dX3_writeNode_179 2 rfl ?_
    refine gg_iload_n dX3_writeNode_180 3 rfl ?_
    refine gg_callVl (own := RX3) (yt := gm_X1_number) rfl gl_RX3_70 gk_X1_number gr_X1_number dX3_writeNode_181 (c_X1_number (d := d - 1) hF (gAt_p2 hF hA (fun p h1 h2 => (gu_other (by omega)).trans (rfl)) (fun p h1 => rfl)) hW.1 (j := i) hi (by omega)) (gFsh hF) (gFlt hF) (by decide) rfl rfl rfl (Nat.le_of_ble_eq_true rfl) (by show _ ≤ d; omega) ⟨Nat.le_refl _, Nat.le_refl _⟩ (fun e17 μ' hc => ?_)
    obtain ⟨rfl, rfl⟩ := hc
    refine gg_callVv (own := RX3) (yt := gm_X3_write) rfl gl_RX3_74 gk_X3_write gr_X3_write dX3_writeNode_184 (c_X3_write (d := d - 1) (q := la) (or := 5) (w := (50 + gl2i (N i))) (by omega) (by omega) (by rw [if_neg (by decide)]; omega)) sh_32 pl_32 (by decide) rfl rfl rfl (Nat.le_of_ble_eq_true rfl) (by show _ ≤ d; omega) ⟨Nat.le_refl _, Nat.le_refl _⟩ (fun μ' hc => ?_)
    obtain rfl := hc
    refine gg_goto (tgt := 225) dX3_writeNode_187 (by decide) ?_
    refine gg_vretv dX3_writeNode_225 rfl ⟨rfl, rfl⟩ ?_
    refine ⟨_, _, rfl, ⟨fun r sr h => ?_, fun t ht2 => ?_, fun q => ?_, fun q h1 h2 => ?_⟩, fun p h1 h2 => ?_, fun p h1 => ?_⟩
    · rcases h with ⟨g, e1, e2⟩ | ⟨g, e1, e2⟩ | ⟨g, e1, e2⟩
      · rw [e1, e2]; exact ((gu_n (by omega)).trans (gu_s))
      · rw [hk] at g; exact absurd g (by decide)
      · rw [hk] at g; exact absurd g (by decide)
    · have n1 : t ≠ (i + 1) := fun e => ht2 s (by rw [e]; exact (Or.inl ⟨by rw [hk]; decide, rfl, rfl⟩))
      exact ((gu_n (by omega)).trans ((gu_n (by omega)).trans (rfl)))
    · by_cases q0 : q = la
      · exact Or.inr ⟨by omega, by omega, (by rw [q0, gCv_5 hi hk (by omega)]; exact ⟨(gu_s), fun h => absurd (show 50 + gl2i (N i) = 0 from h) (by have := gdig hW hi hk; omega)⟩)⟩
      · skip
        exact Or.inl ⟨((gu_n (by omega)).trans ((gu_n (by omega)).trans (rfl))), ((gv_n (by omega)).trans (rfl))⟩
    · by_cases q0 : q = la
      · exact Or.inl (by rw [q0, gCv_5 hi hk (by omega)]; exact ⟨(gu_s), fun h => absurd (show 50 + gl2i (N i) = 0 from h) (by have := gdig hW hi hk; omega)⟩)
      · skip
        exact Or.inr ⟨_, _, (Or.inl ⟨by rw [hk]; decide, rfl, rfl⟩), by omega, by omega⟩
    · exact (gu_other (by omega)).trans ((gu_other (by omega)).trans (rfl))
    · exact (gv_other (by omega)).trans (rfl)
  · refine gg_toI (b := 6) (by omega) ?_
    refine gg_tsw (off := 177) (tgt := 190) dX3_writeNode_13 (by decide) (by decide) rfl (by decide) ?_
    refine gg_aload_n dX3_writeNode_190 1 rfl ?_
    refine gg_aload_n dX3_writeNode_191 2 rfl ?_
    refine gg_iload_n dX3_writeNode_192 3 rfl ?_
    refine gg_iload_n dX3_writeNode_193 4 rfl ?_
    refine gg_iload dX3_writeNode_194 5 rfl ?_
    refine gg_callVv (own := RX3) (yt := gm_X3_writePick) rfl gl_RX3_81 gk_X3_writePick gr_X3_writePick dX3_writeNode_196 (c_X3_writePick (d := d - 1) hF hA hW hi hs ht hk (by omega)) sh_32 pl_32 (by decide) rfl rfl rfl (Nat.le_of_ble_eq_true rfl) (by show _ ≤ d; omega) ⟨Nat.le_refl _, Nat.le_refl _⟩ (fun μ' hc => ?_)
    obtain ⟨I2, J2, rfl, hw2, hI2, hJ2⟩ := hc
    refine gg_goto (tgt := 225) dX3_writeNode_199 (by decide) ?_
    refine gg_vretv dX3_writeNode_225 rfl ⟨rfl, rfl⟩ ?_
    exact ⟨I2, J2, rfl, hw2, hI2, hJ2⟩
  · refine gg_toI (b := 7) (by omega) ?_
    refine gg_tsw_out (tgt := 202) dX3_writeNode_13 (by decide) (by decide) (by decide) ?_
    rw [hk] at hL
    simp [gPar] at hL
    refine gg_aload_n dX3_writeNode_202 1 rfl ?_
    refine gg_aload_n dX3_writeNode_203 1 rfl ?_
    refine gg_iload_n dX3_writeNode_204 3 rfl ?_
    refine gg_iconst dX3_writeNode_205 ?_
    refine gg_iadd dX3_writeNode_206 ?_
    refine gg_iload_n dX3_writeNode_207 4 rfl ?_
    refine gg_callVi (own := RX3) (yt := gm_X3_place) rfl gl_RX3_78 gk_X3_place gr_X3_place dX3_writeNode_208 (c_X3_place (d := d - 1) (k := (i + 1)) (s := s) (Lk := gLc n K Z (i + 1)) (by have := (hc1 (by rw [hk]; decide)); omega) (ht _ (hc1 (by rw [hk]; decide))) (by omega)) sh_32 pl_32 (by decide) rfl rfl rfl (Nat.le_of_ble_eq_true rfl) (by show _ ≤ d; omega) ⟨Nat.le_refl _, Nat.le_refl _⟩ (fun e20 μ' hc => ?_)
    obtain ⟨rfl, rfl⟩ := hc
    obtain ⟨lb, hlb⟩ : ∃ lb : Nat, lb = s + gLc n K Z (i + 1) := ⟨_, rfl⟩
    refine gg_toI (b := (lb : Int)) (by omega) ?_
    refine gg_bipush dX3_writeNode_211 (by decide) ?_
    refine gg_lconstv (x := 0) dX3_writeNode_213 rfl ?_
    refine gg_callVv (own := RX3) (yt := gm_X3_write) rfl gl_RX3_74 gk_X3_write gr_X3_write dX3_writeNode_214 (c_X3_write (d := d - 1) (q := lb) (or := 8) (w := 80) (by omega) (by omega) (by decide)) sh_32 pl_32 (by decide) rfl rfl rfl (Nat.le_of_ble_eq_true rfl) (by show _ ≤ d; omega) ⟨Nat.le_refl _, Nat.le_refl _⟩ (fun μ' hc => ?_)
    obtain rfl := hc
    refine gg_aload_n dX3_writeNode_217 1 rfl ?_
    refine gg_iload dX3_writeNode_218 0 rfl ?_
    refine gg_iconst dX3_writeNode_220 ?_
    refine gg_lconstv (x := 0) dX3_writeNode_221 rfl ?_
    refine gg_callVv (own := RX3) (yt := gm_X3_write) rfl gl_RX3_74 gk_X3_write gr_X3_write dX3_writeNode_222 (c_X3_write (d := d - 1) (q := la) (or := 4) (w := 40) (by omega) (by omega) (by decide)) sh_32 pl_32 (by decide) rfl rfl rfl (Nat.le_of_ble_eq_true rfl) (by show _ ≤ d; omega) ⟨Nat.le_refl _, Nat.le_refl _⟩ (fun μ' hc => ?_)
    obtain rfl := hc
    refine gg_vretv dX3_writeNode_225 rfl ⟨rfl, rfl⟩ ?_
    refine ⟨_, _, rfl, ⟨fun r sr h => ?_, fun t ht2 => ?_, fun q => ?_, fun q h1 h2 => ?_⟩, fun p h1 h2 => ?_, fun p h1 => ?_⟩
    · rcases h with ⟨g, e1, e2⟩ | ⟨g, e1, e2⟩ | ⟨g, e1, e2⟩
      · rw [e1, e2]; exact ((gu_n (by omega)).trans ((gu_n (by omega)).trans (gu_s)))
      · rw [hk] at g; exact absurd g (by decide)
      · rw [hk] at g; exact absurd g (by decide)
    · have n1 : t ≠ (i + 1) := fun e => ht2 s (by rw [e]; exact (Or.inl ⟨by rw [hk]; decide, rfl, rfl⟩))
      exact ((gu_n (by omega)).trans ((gu_n (by omega)).trans ((gu_n (by omega)).trans (rfl))))
    · by_cases q0 : q = lb
      · exact Or.inr ⟨by omega, by omega, (by rw [q0, gCv_7a hi hk hlb]; exact ⟨((gu_n (by omega)).trans (gu_s)), fun _ => ((gv_n (by omega)).trans (gv_s))⟩)⟩
      · skip
        by_cases q1 : q = la
        · exact Or.inr ⟨by omega, by omega, (by rw [q1, gCv_7b hi hk (by omega) (by omega)]; exact ⟨(gu_s), fun _ => (gv_s)⟩)⟩
        · skip
          exact Or.inl ⟨((gu_n (by omega)).trans ((gu_n (by omega)).trans ((gu_n (by omega)).trans (rfl)))), ((gv_n (by omega)).trans ((gv_n (by omega)).trans (rfl)))⟩
    · by_cases q0 : q = lb
      · exact Or.inl (by rw [q0, gCv_7a hi hk hlb]; exact ⟨((gu_n (by omega)).trans (gu_s)), fun _ => ((gv_n (by omega)).trans (gv_s))⟩)
      · skip
        by_cases q1 : q = la
        · exact Or.inl (by rw [q1, gCv_7b hi hk (by omega) (by omega)]; exact ⟨(gu_s), fun _ => (gv_s)⟩)
        · skip
          exact Or.inr ⟨_, _, (Or.inl ⟨by rw [hk]; decide, rfl, rfl⟩), by omega, by omega⟩
    · exact (gu_other (by omega)).trans ((gu_other (by omega)).trans ((gu_other (by omega)).trans (rfl)))
    · exact (gv_other (by omega)).trans ((gv_other (by omega)).trans (rfl))

/-- what is laid so far: the trees that wait have their starts, all other lines are right -/
def gWt (n : Nat) (K : Nat → Nat) (N : Nat → Int64) (Z : Nat → Nat) (i : Nat) (I : Nat → Nat → Int) (J : Nat → Nat → Int64) : Prop := ∃ A : List Nat, gChain Z n A i ∧
  (∀ r, r ∈ A → ∃ sr : Nat, I 36 r = (sr : Int) ∧ sr + gLc n K Z r ≤ gLc n K Z 0 ∧ ∀ q, sr ≤ q → q < sr + gLc n K Z r → gCv n K N Z 0 0 q = gCv n K N Z r sr q) ∧
  ∀ q, q < gLc n K Z 0 → gMch 33 34 I J q (gCv n K N Z 0 0 q) ∨ ∃ r sr, r ∈ A ∧ I 36 r = ((sr : Nat) : Int) ∧ sr ≤ q ∧ q < sr + gLc n K Z r
theorem gWt_0 {n : Nat} {K : Nat → Nat} {N : Nat → Int64} {Z : Nat → Nat} {I : Nat → Nat → Int} {J : Nat → Nat → Int64} (hW : gWf n K N Z) (hn : 0 < n) (h0 : I 36 0 = 0) : gWt n K N Z 0 I J := by
  have hz := hW.2.1 hn
  refine ⟨[0], ⟨rfl, hn, by show 0 + Z 0 = n; omega⟩, fun r hr => ?_, fun q hq => Or.inr ⟨0, 0, by simp, h0, by omega, by omega⟩⟩
  have : r = 0 := by simpa using hr
  subst this
  exact ⟨0, h0, by omega, fun q _ _ => rfl⟩
theorem gWt_n {n : Nat} {K : Nat → Nat} {N : Nat → Int64} {Z : Nat → Nat} {I : Nat → Nat → Int} {J : Nat → Nat → Int64} (h : gWt n K N Z n I J) : ∀ q, q < gLc n K Z 0 → gMch 33 34 I J q (gCv n K N Z 0 0 q) := by
  obtain ⟨A, hA, -, h3⟩ := h
  intro q hq
  rcases h3 q hq with h | ⟨r, sr, hr, -⟩
  · exact h
  · cases A with
    | nil => simp at hr
    | cons x t =>
      obtain ⟨rfl, h1, -⟩ := hA
      omega
theorem gWt_h {n : Nat} {K : Nat → Nat} {N : Nat → Int64} {Z : Nat → Nat} {i : Nat} {I : Nat → Nat → Int} {J : Nat → Nat → Int64} (hi : i < n) (h : gWt n K N Z i I J) : ∃ s : Nat, I 36 i = (s : Int) ∧ s + gLc n K Z i ≤ gLc n K Z 0 := by
  obtain ⟨A, hA, h2, -⟩ := h
  cases A with
  | nil => exact absurd hA (by show ¬ i = n; omega)
  | cons x t =>
    obtain ⟨rfl, h1, -⟩ := hA
    obtain ⟨sr, e, g, -⟩ := h2 x (by simp)
    exact ⟨sr, e, g⟩
theorem gWt_s {n : Nat} {K : Nat → Nat} {N : Nat → Int64} {Z : Nat → Nat} {i s : Nat} {I I' : Nat → Nat → Int} {J J' : Nat → Nat → Int64} (hW : gWf n K N Z) (hi : i < n) (h : gWt n K N Z i I J) (hs : I 36 i = (s : Int)) (hw : gWn n K N Z i s I J I' J') : gWt n K N Z (i + 1) I' J' := by
  obtain ⟨A, hA, h2, h3⟩ := h
  obtain ⟨w1, w2, w3, w4⟩ := hw
  cases A with
  | nil => exact absurd hA (by show ¬ i = n; omega)
  | cons x t =>
    obtain ⟨rfl, -, hA⟩ := hA
    obtain ⟨s0, e0, g0, c0⟩ := h2 x (by simp)
    have hs0 : s0 = s := by omega
    subst hs0
    obtain ⟨A0, hA0, hE, hR⟩ := gKids hW hi hA
    have hK := (hW.2.2 x hi).1
    have hp := gPar3 hK
    have kin : ∀ r sr, gKd K Z (gLc n K Z) x s0 r sr → r ∈ A0 := by
      intro r sr hk
      rcases hk with ⟨g, e, -⟩ | ⟨g, e, -⟩ | ⟨g, e, -⟩ <;> rw [hE, e] <;> rcases hp with p | p | p | p <;> rw [p] at g ⊢ <;> first | omega | simp
    have kof : ∀ r, r ∈ A0 → ∃ sr, gKd K Z (gLc n K Z) x s0 r sr := by
      intro r hr
      rw [hE] at hr
      rcases hp with p | p | p | p
      · simp [p] at hr
      · simp [p] at hr
        exact ⟨_, Or.inl ⟨by omega, hr, rfl⟩⟩
      · simp [p] at hr
        rcases hr with hr | hr
        · exact ⟨_, Or.inl ⟨by omega, hr, rfl⟩⟩
        · exact ⟨_, Or.inr (Or.inl ⟨by omega, hr, rfl⟩)⟩
      · simp [p] at hr
        rcases hr with hr | hr | hr
        · exact ⟨_, Or.inl ⟨by omega, hr, rfl⟩⟩
        · exact ⟨_, Or.inr (Or.inl ⟨by omega, hr, rfl⟩)⟩
        · exact ⟨_, Or.inr (Or.inr ⟨by omega, hr, rfl⟩)⟩
    have hfar : ∀ r, r ∈ t → I' 36 r = I 36 r := by
      intro r hr
      refine w2 r (fun sr hk => ?_)
      have a1 := (hR r (kin r sr hk)).2
      have a2 := gChain_ge hA r hr
      omega
    refine ⟨A0 ++ t, hA0, fun r hr => ?_, fun q hq => ?_⟩
    · rcases List.mem_append.mp hr with hr | hr
      · obtain ⟨sr, hk⟩ := kof r hr
        have a3 : sr + gLc n K Z r ≤ s0 + gLc n K Z x := by
          have hrn : r < n := by have := (hR r hr).2; have := (hW.2.2 x hi).2.2.1; omega
          have l1 := (gL_rng hW r hrn).1
          have := (gKd_eq hW hi hk (q := sr + gLc n K Z r - 1) (by omega) (by omega)).2.2
          omega
        refine ⟨sr, w1 r sr hk, by omega, fun q q1 q2 => ?_⟩
        obtain ⟨e, b1, b2⟩ := gKd_eq hW hi hk q1 q2
        rw [c0 q b1 b2, e]
      · obtain ⟨sr, e, g, c⟩ := h2 r (by simp [hr])
        exact ⟨sr, by rw [hfar r hr]; exact e, g, c⟩
    · have keep : gMch 33 34 I J q (gCv n K N Z 0 0 q) → gMch 33 34 I' J' q (gCv n K N Z 0 0 q) := by
        intro hm
        rcases w3 q with ⟨e1, e2⟩ | ⟨b1, b2, hm2⟩
        · exact ⟨by rw [e1]; exact hm.1, fun h => by rw [e2]; exact hm.2 h⟩
        · rw [c0 q b1 b2]
          exact hm2
      rcases h3 q hq with hm | ⟨r, sr, hr, e, b1, b2⟩
      · exact Or.inl (keep hm)
      · rcases List.mem_cons.mp hr with hr | hr
        · subst hr
          have hsr : sr = s0 := by omega
          subst hsr
          rcases w4 q b1 b2 with hm | ⟨r, sr2, hk, d1, d2⟩
          · left
            rw [c0 q b1 b2]
            exact hm
          · exact Or.inr ⟨r, sr2, List.mem_append.mpr (Or.inl (kin r sr2 hk)), w1 r sr2 hk, d1, d2⟩
        · exact Or.inr ⟨r, sr, List.mem_append.mpr (Or.inr hr), by rw [hfar r hr]; exact e, b1, b2⟩
theorem gAt_p3 {I I' : Nat → Nat → Int} {J J' : Nat → Nat → Int64} {a n : Nat} {K : Nat → Nat} {N : Nat → Int64} {Z : Nat → Nat} (hF : gF a) (h : gAt I J a n K N Z) (hI : ∀ p, p ≠ 33 → p ≠ 35 → p ≠ 36 → p ≠ 32 → I' p = I p) (hJ : ∀ p, p ≠ 34 → J' p = J p) : gAt I' J' a n K N Z := by
  have hr := gF_rng hF
  exact gAt_same h (hI _ (by omega) (by omega) (by omega) (by omega)) (hI _ (by omega) (by omega) (by omega) (by omega)) (hJ _ (by omega)) (hI _ (by omega) (by omega) (by omega) (by omega))
set_option maxRecDepth 10000 in
theorem w_X3_translate2 {l : Launch} {Γ : gC} {ad : Nat → Nat} {I0 : Nat → Nat → Int} {J0 : Nat → Nat → Int64} {d : Nat} {a n : Nat} {K : Nat → Nat} {N : Nat → Int64} {Z : Nat → Nat} (hF : gF a) (hA : gAt I0 J0 a n K N Z) (hW : gWf n K N Z) (hn0 : 0 < n) (hd : 5 ≤ d) : ∀ (m : Nat) (i : Nat) (I : Nat → Nat → Int) (J : Nat → Nat → Int64), n - i < m → (i ≤ n) → (∀ p, p ≠ 33 → p ≠ 35 → p ≠ 36 → p ≠ 32 → I p = I0 p) → (∀ q, q ≠ 2 → I 32 q = I0 32 q) → (∀ p, p ≠ 34 → J p = J0 p) → (I 32 2 = (gLc n K Z 0 : Int)) → (∀ t, t < n → I 35 t = (gLc n K Z t : Int)) → (gWt n K N Z i I J) → gG l Γ gm_X3_translate (d, 0, 0, 0, 0) 54 [(2, .int (iv (i : Int))), (0, .ref (gad (gSS ad) 32)), (1, .ref (gad (gSS ad) a))] [] (gSS ad, I, J) (gDv (fun μ => ∃ I1 J1, μ = (gSS ad, I1, J1) ∧ (∀ p, p ≠ 33 → p ≠ 35 → p ≠ 36 → p ≠ 32 → I1 p = I0 p) ∧ (∀ q, q ≠ 2 → I1 32 q = I0 32 q) ∧ (∀ p, p ≠ 34 → J1 p = J0 p) ∧ I1 32 2 = (gLc n K Z 0 : Int) ∧ (∀ q, q < gLc n K Z 0 → gMch 33 34 I1 J1 q (gCv n K N Z 0 0 q)))) := by
  intro m
  induction m with
  | zero => intros; omega
  | succ m ih =>
    intro i I J hm hi hI hI2 hJ hsz ht hw
    have hn := hW.1
    refine gg_iload_n dX3_translate_54 0 rfl ?_
    refine gg_aload_n dX3_translate_55 2 rfl ?_
    refine gg_callVi (own := RX3) (yt := gm_X1_size) rfl gl_RX3_38 gk_X1_size gr_X1_size dX3_translate_56 (c_X1_size (d := d - 1) hF (gAt_p3 hF hA (fun p h1 h2 h3 h4 => hI p h1 h2 h3 h4) (fun p h1 => hJ p h1))) (gFsh hF) (gFlt hF) (by decide) rfl rfl rfl (Nat.le_of_ble_eq_true rfl) (by show _ ≤ d; omega) ⟨Nat.le_refl _, Nat.le_refl _⟩ (fun e1 μ' hc => ?_)
    obtain ⟨rfl, rfl⟩ := hc
    refine gg_icmp_ge (tgt := 86) dX3_translate_59 (by decide) (by omega) (fun hb => ?_) (fun hb => ?_)
    · have hin : i = n := by omega
      subst hin
      refine gg_vretv dX3_translate_86 rfl ⟨rfl, rfl⟩ ?_
      exact ⟨I, J, rfl, hI, hI2, hJ, hsz, gWt_n hw⟩
    · have hin : i < n := by omega
      obtain ⟨s, hs, hs2⟩ := gWt_h hin hw
      have hl4 : gLc n K Z 0 ≤ 400 := by have := (gL_rng hW 0 hn0).2; have := hW.2.1 hn0; have := hW.1; omega
      refine gg_aload_n dX3_translate_62 1 rfl ?_
      refine gg_aload_n dX3_translate_63 2 rfl ?_
      refine gg_iload_n dX3_translate_64 0 rfl ?_
      refine gg_aload_n dX3_translate_65 1 rfl ?_
      refine gg_getR (k' := 36) rfl gf_RX3_22 dX3_translate_66 sh_32 pl_32 (by decide) (by decide) rr_32_4 ?_
      refine gg_iload_n dX3_translate_69 0 rfl ?_
      refine gg_ialdj i dX3_translate_70 sh_36 pl_36 (by decide) rfl (by omega) ?_
      refine gg_toI (b := (s : Int)) hs ?_
      refine gg_aload_n dX3_translate_71 1 rfl ?_
      refine gg_getR (k' := 35) rfl gf_RX3_19 dX3_translate_72 sh_32 pl_32 (by decide) (by decide) rr_32_3 ?_
      refine gg_iload_n dX3_translate_75 0 rfl ?_
      refine gg_ialdj i dX3_translate_76 sh_35 pl_35 (by decide) rfl (by omega) ?_
      refine gg_toI (b := (gLc n K Z i : Int)) (ht i hin) ?_
      refine gg_callVv (own := RX3) (yt := gm_X3_writeNode) rfl gl_RX3_53 gk_X3_writeNode gr_X3_writeNode dX3_translate_77 (c_X3_writeNode (d := d - 1) hF (gAt_p3 hF hA (fun p h1 h2 h3 h4 => hI p h1 h2 h3 h4) (fun p h1 => hJ p h1)) hW (i := i) (s := s) hin (by omega) ht (by omega)) sh_32 pl_32 (by decide) rfl rfl rfl (Nat.le_of_ble_eq_true rfl) (by show _ ≤ d; omega) ⟨Nat.le_refl _, Nat.le_refl _⟩ (fun μ' hc => ?_)
      obtain ⟨I2, J2, rfl, hw2, hg2, hk2⟩ := hc
      refine gg_iincv (ls' := [(2, .int (iv ((i + 1 : Nat) : Int))), (0, .ref (gad (gSS ad) 32)), (1, .ref (gad (gSS ad) a))]) dX3_translate_80 0 rfl (by omega) (by decide) rfl ?_
      refine gg_goto (tgt := 54) dX3_translate_83 (by decide) ?_
      exact ih (i + 1) I2 J2 (by omega) (by omega) (fun p h1 h2 h3 h4 => by rw [hg2 p h1 h3]; exact hI p h1 h2 h3 h4) (fun q hq => by rw [hg2 32 (by omega) (by omega)]; exact hI2 q hq) (fun p hp => by rw [hk2 p hp]; exact hJ p hp) (by rw [hg2 32 (by omega) (by omega)]; exact hsz) (fun t h => by rw [hg2 35 (by omega) (by omega)]; exact ht t h) (gWt_s hW hin hw hs hw2)

set_option maxRecDepth 10000 in
theorem w_X3_translate {l : Launch} {Γ : gC} {ad : Nat → Nat} {I0 : Nat → Nat → Int} {J0 : Nat → Nat → Int64} {d : Nat} {a n : Nat} {K : Nat → Nat} {N : Nat → Int64} {Z : Nat → Nat} (hF : gF a) (hA : gAt I0 J0 a n K N Z) (hW : gWf n K N Z) (hn0 : 0 < n) (hd : 5 ≤ d) : ∀ (m : Nat) (k : Nat) (I : Nat → Nat → Int), k < m → (k ≤ n) → (∀ p, p ≠ 35 → I p = I0 p) → (∀ t, k ≤ t → t < n → I 35 t = (gLc n K Z t : Int)) → gG l Γ gm_X3_translate (d, 0, 0, 0, 0) 7 [(2, .int (iv ((k : Int) - 1))), (0, .ref (gad (gSS ad) 32)), (1, .ref (gad (gSS ad) a))] [] (gSS ad, I, J0) (gDv (fun μ => ∃ I1 J1, μ = (gSS ad, I1, J1) ∧ (∀ p, p ≠ 33 → p ≠ 35 → p ≠ 36 → p ≠ 32 → I1 p = I0 p) ∧ (∀ q, q ≠ 2 → I1 32 q = I0 32 q) ∧ (∀ p, p ≠ 34 → J1 p = J0 p) ∧ I1 32 2 = (gLc n K Z 0 : Int) ∧ (∀ q, q < gLc n K Z 0 → gMch 33 34 I1 J1 q (gCv n K N Z 0 0 q)))) := by
  intro m
  induction m with
  | zero => intros; omega
  | succ m ih =>
    intro k I hm hk hI ht
    have hn := hW.1
    refine gg_iload_n dX3_translate_7 0 rfl ?_
    refine gg_if_lt (tgt := 29) dX3_translate_8 (by decide) (by omega) (fun hb => ?_) (fun hb => ?_)
    · have hk0 : k = 0 := by omega
      subst hk0
      have hl4 := gL_rng hW 0 hn0
      have hz0 := hW.2.1 hn0
      refine gg_aload_n dX3_translate_29 1 rfl ?_
      refine gg_sipush dX3_translate_30 (by decide) ?_
      refine gg_aload_n dX3_translate_33 1 rfl ?_
      refine gg_getR (k' := 35) rfl gf_RX3_19 dX3_translate_34 sh_32 pl_32 (by decide) (by decide) rr_32_3 ?_
      refine gg_iconst dX3_translate_37 ?_
      refine gg_ialdj 0 dX3_translate_38 sh_35 pl_35 (by decide) rfl (by omega) ?_
      refine gg_toI (b := (gLc n K Z 0 : Int)) (ht 0 (by omega) hn0) ?_
      refine gg_mmin rfl gl_RX3_47 dX3_translate_39 (by omega) (Nat.le_of_ble_eq_true rfl) (by omega) ⟨Nat.le_refl _, Nat.le_refl _⟩ ?_
      refine gg_toI (b := (gLc n K Z 0 : Int)) (by omega) ?_
      refine gg_putI rfl gf_RX3_28 dX3_translate_42 sh_32 pl_32 (by decide) (by decide) (by decide) (gfit_i _) ?_
      refine gg_aload_n dX3_translate_45 1 rfl ?_
      refine gg_getR (k' := 36) rfl gf_RX3_22 dX3_translate_46 sh_32 pl_32 (by decide) (by decide) rr_32_4 ?_
      refine gg_iconst dX3_translate_49 ?_
      refine gg_iconst dX3_translate_50 ?_
      refine gg_iastj 0 dX3_translate_51 sh_36 pl_36 (by decide) rfl (by omega) ?_
      refine gg_iconst dX3_translate_52 ?_
      refine gg_istore_n (ls' := [(2, .int (iv 0)), (0, .ref (gad (gSS ad) 32)), (1, .ref (gad (gSS ad) a))]) dX3_translate_53 rfl (by decide) rfl ?_
      have e36 : ∀ p, p ≠ 36 → p ≠ 32 → gu (gu I 32 2 (gLc n K Z 0 : Int)) 36 0 0 p = I p := fun p h1 h2 => (gu_other h1).trans (gu_other h2)
      refine gg_sub [0, 1, 2] rfl ?_
      exact w_X3_translate2 hF hA hW hn0 hd (n + 1) 0 _ J0 (by omega) (by omega) (fun p h1 h2 h3 h4 => by rw [e36 p h3 h4]; exact hI p h2) (fun q hq => by rw [gu_other (by omega), gu_n (by omega)]; rw [hI 32 (by omega)]) (fun p _ => rfl) (by rw [gu_other (by omega)]; exact gu_s) (fun t h => by rw [e36 35 (by omega) (by omega)]; exact ht t (by omega) h) (gWt_0 hW hn0 gu_s)
    · obtain ⟨j, rfl⟩ : ∃ j : Nat, k = j + 1 := ⟨k - 1, by omega⟩
      rw [show (((j + 1 : Nat) : Int) - 1) = (j : Int) by omega]
      refine gg_aload_n dX3_translate_11 1 rfl ?_
      refine gg_getR (k' := 35) rfl gf_RX3_19 dX3_translate_12 sh_32 pl_32 (by decide) (by decide) rr_32_3 ?_
      refine gg_iload_n dX3_translate_15 0 rfl ?_
      refine gg_aload_n dX3_translate_16 1 rfl ?_
      refine gg_aload_n dX3_translate_17 2 rfl ?_
      refine gg_iload_n dX3_translate_18 0 rfl ?_
      refine gg_callVi (own := RX3) (yt := gm_X3_lengthOf) rfl gl_RX3_43 gk_X3_lengthOf gr_X3_lengthOf dX3_translate_19 (c_X3_lengthOf (d := d - 1) hF (gAt_p3 hF hA (fun p h1 h2 h3 h4 => hI p h2) (fun p h1 => rfl)) hW (j := j) (by omega) (fun t h1 h2 => ht t (by omega) h2) (by omega)) sh_32 pl_32 (by decide) rfl rfl rfl (Nat.le_of_ble_eq_true rfl) (by show _ ≤ d; omega) ⟨Nat.le_refl _, Nat.le_refl _⟩ (fun e1 μ' hc => ?_)
      obtain ⟨rfl, rfl⟩ := hc
      refine gg_iastj j dX3_translate_22 sh_35 pl_35 (by decide) rfl (by omega) ?_
      refine gg_memI (fun I2 hI2 => ?_)
      refine gg_iincv (ls' := [(2, .int (iv ((j : Int) - 1))), (0, .ref (gad (gSS ad) 32)), (1, .ref (gad (gSS ad) a))]) dX3_translate_23 0 rfl (by omega) (by decide) rfl ?_
      refine gg_goto (tgt := 7) dX3_translate_26 (by decide) ?_
      refine ih j I2 (by omega) (by omega) (fun p hp => by rw [hI2, gu_other hp]; exact hI p hp) (fun t h1 h2 => ?_)
      rw [hI2]
      by_cases htj : t = j
      · rw [htj, gu_s]
      · rw [gu_n (by omega)]
        exact ht t (by omega) h2

set_option maxRecDepth 10000 in
theorem c_X3_translate {l : Launch} {Γ : gC} {ad : Nat → Nat} {I : Nat → Nat → Int} {J : Nat → Nat → Int64} {d : Nat} {a n : Nat} {K : Nat → Nat} {N : Nat → Int64} {Z : Nat → Nat} (hF : gF a) (hA : gAt I J a n K N Z) (hW : gWf n K N Z) (hn0 : 0 < n) (hd : 5 ≤ d) : gKv l Γ gm_X3_translate d [.ref (gad (gSS ad) 32), .ref (gad (gSS ad) a)] (gSS ad, I, J) (fun μ => ∃ I1 J1, μ = (gSS ad, I1, J1) ∧ (∀ p, p ≠ 33 → p ≠ 35 → p ≠ 36 → p ≠ 32 → I1 p = I p) ∧ (∀ q, q ≠ 2 → I1 32 q = I 32 q) ∧ (∀ p, p ≠ 34 → J1 p = J p) ∧ I1 32 2 = (gLc n K Z 0 : Int) ∧ (∀ q, q < gLc n K Z 0 → gMch 33 34 I1 J1 q (gCv n K N Z 0 0 q))) := by
  refine gKv_of gk_X3_translate.1 (Nat.le_of_ble_eq_true rfl) ?_
  show gG l Γ gm_X3_translate (d, 0, 0, 0, 0) 0 [(0, .ref (gad (gSS ad) 32)), (1, .ref (gad (gSS ad) a))] [] _ _
  refine gg_aload_n dX3_translate_0 1 rfl ?_
  refine gg_callVi (own := RX3) (yt := gm_X1_size) rfl gl_RX3_38 gk_X1_size gr_X1_size dX3_translate_1 (c_X1_size (d := d - 1) hF hA) (gFsh hF) (gFlt hF) (by decide) rfl rfl rfl (Nat.le_of_ble_eq_true rfl) (by show _ ≤ d; omega) ⟨Nat.le_refl _, Nat.le_refl _⟩ (fun e1 μ' hc => ?_)
  obtain ⟨rfl, rfl⟩ := hc
  refine gg_iconst dX3_translate_4 ?_
  refine gg_isub dX3_translate_5 ?_
  refine gg_istore_n (ls' := [(2, .int (iv ((n : Int) - 1))), (0, .ref (gad (gSS ad) 32)), (1, .ref (gad (gSS ad) a))]) dX3_translate_6 rfl (by decide) rfl ?_
  refine gg_sub [0, 1, 2] rfl ?_
  exact w_X3_translate hF hA hW hn0 hd (n + 1) n I (by omega) (by omega) (fun _ _ => rfl) (fun t h1 h2 => by omega)

