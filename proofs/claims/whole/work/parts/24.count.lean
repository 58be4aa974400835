/-! count, image, back on both sides -/
def gMi (I : Nat → Nat → Int) (J : Nat → Nat → Int64) (f n : Nat) (K : Nat → Nat) (N : Nat → Int64) (Z : Nat → Nat) : Prop := I 196 f = (n : Int) ∧ ∀ j, j < n → I (199 + f) j = (K j : Int) ∧ J (225 + f) j = N j ∧ I (212 + f) j = (j : Int) + Z j
theorem gNE_le (nf : Nat → Nat) : ∀ k, gNE nf k ≤ k
  | 0 => Nat.le_refl _
  | k + 1 => by
    have := gNE_le nf k
    simp only [gNE]
    split <;> omega
theorem gNS_le {nf : Nat → Nat} : ∀ k, (∀ f, f < k → nf f ≤ 200) → gNS nf k ≤ 200 * k
  | 0, _ => Nat.le_refl _
  | k + 1, h => by
    have h1 := gNS_le k (fun f hf => h f (by omega))
    have h2 := h k (by omega)
    simp only [gNS]
    omega
set_option maxRecDepth 10000 in
theorem c_X1_size_ {l : Launch} {Γ : gC} {ad : Nat → Nat} {I : Nat → Nat → Int} {J : Nat → Nat → Int64} {d : Nat} {a n : Nat} (hF : gF a) (hs : I a 3 = (n : Int)) (hn : n ≤ 200) : gKi l Γ gm_X1_size d [.ref (gad (gSS ad) a)] (gSS ad, I, J) (fun e μ => μ = (gSS ad, I, J) ∧ e = (n : Int)) := by
  refine gKi_of gk_X1_size.1 (Nat.le_of_ble_eq_true rfl) ?_
  show gG l Γ gm_X1_size (d, 0, 0, 0, 0) 0 [(0, .ref (gad (gSS ad) a))] [] _ _
  refine gg_aload_n dX1_size_0 0 rfl ?_
  refine gg_getI rfl gf_RX1_22 dX1_size_1 (gFsh hF) (gFlt hF) (by decide) (by decide) ?_
  refine gg_toI (b := (n : Int)) hs ?_
  refine gg_ireti dX1_size_4 rfl ⟨rfl, rfl⟩ ?_
  exact ⟨rfl, rfl⟩

set_option maxRecDepth 10000 in
theorem c_X1_isEmpty_ {l : Launch} {Γ : gC} {ad : Nat → Nat} {I : Nat → Nat → Int} {J : Nat → Nat → Int64} {d : Nat} {a n : Nat} (hF : gF a) (hs : I a 3 = (n : Int)) (hn : n ≤ 200) : gKi l Γ gm_X1_isEmpty d [.ref (gad (gSS ad) a)] (gSS ad, I, J) (fun e μ => μ = (gSS ad, I, J) ∧ ((e = 1 ∧ n = 0) ∨ (e = 0 ∧ ¬ n = 0))) := by
  refine gKi_of gk_X1_isEmpty.1 (Nat.le_of_ble_eq_true rfl) ?_
  show gG l Γ gm_X1_isEmpty (d, 0, 0, 0, 0) 0 [(0, .ref (gad (gSS ad) a))] [] _ _
  refine gg_aload_n dX1_isEmpty_0 0 rfl ?_
  refine gg_getI rfl gf_RX1_22 dX1_isEmpty_1 (gFsh hF) (gFlt hF) (by decide) (by decide) ?_
  refine gg_toI (b := (n : Int)) hs ?_
  refine gg_if_ne (tgt := 11) dX1_isEmpty_4 (by decide) (by omega) (fun hb1 => ?_) (fun hb1 => ?_)
  · refine gg_iconst dX1_isEmpty_11 ?_
    refine gg_iretz dX1_isEmpty_12 rfl (by decide) ⟨rfl, rfl⟩ ?_
    refine ⟨rfl, ?_⟩ <;> omega
  · refine gg_iconst dX1_isEmpty_7 ?_
    refine gg_goto (tgt := 12) dX1_isEmpty_8 (by decide) ?_
    refine gg_iretz dX1_isEmpty_12 rfl (by decide) ⟨rfl, rfl⟩ ?_
    refine ⟨rfl, ?_⟩ <;> omega

set_option maxRecDepth 10000 in
theorem w_X9_fullFormulas {l : Launch} {Γ : gC} {ad : Nat → Nat} {I : Nat → Nat → Int} {J : Nat → Nat → Int64} {d : Nat} {nf : Nat → Nat} (hnf : ∀ f, f < 12 → I (41 + 8 * f) 3 = (nf f : Int) ∧ nf f ≤ 200) (hd : 1 ≤ d) : ∀ (m : Nat) (i : Nat), 12 - i < m → (i ≤ 12) → gG l Γ gm_X9_fullFormulas (d, 0, 0, 0, 0) 4 [(2, .int (iv (i : Int))), (1, .int (iv (gNE nf i : Int))), (0, .ref (gad (gSS ad) 0))] [] (gSS ad, I, J) (gDi (fun e μ => μ = (gSS ad, I, J) ∧ e = (gNE nf 12 : Int))) := by
  intro m
  induction m with
  | zero => intros; omega
  | succ m ih =>
    intro i hm hi
    refine gg_iload_n dX9_fullFormulas_4 0 rfl ?_
    refine gg_bipush dX9_fullFormulas_5 (by decide) ?_
    refine gg_icmp_ge (tgt := 31) dX9_fullFormulas_7 (by decide) (by omega) (fun hx => ?_) (fun hx => ?_)
    · have he : i = 12 := by omega
      subst he
      refine gg_iload_n dX9_fullFormulas_31 1 rfl ?_
      refine gg_ireti dX9_fullFormulas_32 rfl ⟨rfl, rfl⟩ ?_
      exact ⟨rfl, rfl⟩
    · have hi2 : i < 12 := by omega
      refine gg_aload_n dX9_fullFormulas_10 2 rfl ?_
      refine gg_getR (k' := 1) rfl gf_RX9_11 dX9_fullFormulas_11 sh_0 pl_0 (by decide) (by decide) rr_0_0 ?_
      refine gg_iload_n dX9_fullFormulas_14 0 rfl ?_
      refine gg_aaldj (t := 4) i (k' := (41 + 8 * i)) dX9_fullFormulas_15 sh_1 (by decide) pl_1 (by decide) rfl hi2 (rr_1 hi2) ?_
      refine gg_callVi (own := RX9) (yt := gm_X1_isEmpty) rfl gl_RX9_128 gk_X1_isEmpty gr_X1_isEmpty dX9_fullFormulas_16 (c_X1_isEmpty_ (d := d - 1) (gF_fo i hi2) (hnf i hi2).1 (hnf i hi2).2) (gFsh (gF_fo i hi2)) (gFlt (gF_fo i hi2)) (by decide) rfl rfl rfl (Nat.le_of_ble_eq_true rfl) (by show _ ≤ d; omega) ⟨Nat.le_refl _, Nat.le_refl _⟩ (fun e1 μ' hc => ?_)
      obtain ⟨rfl, ⟨rfl, hz⟩ | ⟨rfl, hz⟩⟩ := hc
      · refine gg_if_ne_t (tgt := 25) dX9_fullFormulas_19 (by decide) (by decide) (by decide) ?_
        refine gg_iincv (ls' := [(2, .int (iv ((i + 1 : Nat) : Int))), (1, .int (iv (gNE nf i : Int))), (0, .ref (gad (gSS ad) 0))]) dX9_fullFormulas_25 0 rfl (by omega) (by decide) rfl ?_
        refine gg_goto (tgt := 4) dX9_fullFormulas_28 (by decide) ?_
        rw [show gNE nf i = gNE nf (i + 1) by simp only [gNE]; rw [if_pos hz]; rfl]
        exact ih (i + 1) (by omega) (by omega)
      · refine gg_if_ne_f (tgt := 25) dX9_fullFormulas_19 (by decide) (by decide) (by decide) ?_
        refine gg_iincv (ls' := [(1, .int (iv (gNE nf (i + 1) : Int))), (2, .int (iv (i : Int))), (0, .ref (gad (gSS ad) 0))]) dX9_fullFormulas_22 1 rfl (by simp only [gNE]; rw [if_neg hz]; rfl) (by decide) rfl ?_
        refine gg_iincv (ls' := [(2, .int (iv ((i + 1 : Nat) : Int))), (1, .int (iv (gNE nf (i + 1) : Int))), (0, .ref (gad (gSS ad) 0))]) dX9_fullFormulas_25 1 rfl (by omega) (by decide) rfl ?_
        refine gg_goto (tgt := 4) dX9_fullFormulas_28 (by decide) ?_
        exact ih (i + 1) (by omega) (by omega)

set_option maxRecDepth 10000 in
theorem c_X9_fullFormulas {l : Launch} {Γ : gC} {ad : Nat → Nat} {I : Nat → Nat → Int} {J : Nat → Nat → Int64} {d : Nat} {nf : Nat → Nat} (hnf : ∀ f, f < 12 → I (41 + 8 * f) 3 = (nf f : Int) ∧ nf f ≤ 200) (hd : 1 ≤ d) : gKi l Γ gm_X9_fullFormulas d [.ref (gad (gSS ad) 0)] (gSS ad, I, J) (fun e μ => μ = (gSS ad, I, J) ∧ e = (gNE nf 12 : Int)) := by
  refine gKi_of gk_X9_fullFormulas.1 (Nat.le_of_ble_eq_true rfl) ?_
  show gG l Γ gm_X9_fullFormulas (d, 0, 0, 0, 0) 0 [(0, .ref (gad (gSS ad) 0))] [] _ _
  refine gg_iconst dX9_fullFormulas_0 ?_
  refine gg_istore_n (ls' := [(1, .int (iv 0)), (0, .ref (gad (gSS ad) 0))]) dX9_fullFormulas_1 rfl (by decide) rfl ?_
  refine gg_iconst dX9_fullFormulas_2 ?_
  refine gg_istore_n (ls' := [(2, .int (iv 0)), (1, .int (iv 0)), (0, .ref (gad (gSS ad) 0))]) dX9_fullFormulas_3 rfl (by decide) rfl ?_
  refine gg_sub [0, 1, 2] rfl ?_
  exact w_X9_fullFormulas hnf hd 13 0 (by omega) (by omega)

set_option maxRecDepth 10000 in
theorem w_X9_allNodes {l : Launch} {Γ : gC} {ad : Nat → Nat} {I : Nat → Nat → Int} {J : Nat → Nat → Int64} {d : Nat} {nf : Nat → Nat} (hnf : ∀ f, f < 12 → I (41 + 8 * f) 3 = (nf f : Int) ∧ nf f ≤ 200) (hd : 1 ≤ d) : ∀ (m : Nat) (i : Nat), 12 - i < m → (i ≤ 12) → gG l Γ gm_X9_allNodes (d, 0, 0, 0, 0) 4 [(2, .int (iv (i : Int))), (1, .int (iv (gNS nf i : Int))), (0, .ref (gad (gSS ad) 0))] [] (gSS ad, I, J) (gDi (fun e μ => μ = (gSS ad, I, J) ∧ e = (gNS nf 12 : Int))) := by
  intro m
  induction m with
  | zero => intros; omega
  | succ m ih =>
    intro i hm hi
    refine gg_iload_n dX9_allNodes_4 0 rfl ?_
    refine gg_bipush dX9_allNodes_5 (by decide) ?_
    refine gg_icmp_ge (tgt := 28) dX9_allNodes_7 (by decide) (by omega) (fun hx => ?_) (fun hx => ?_)
    · have he : i = 12 := by omega
      subst he
      refine gg_iload_n dX9_allNodes_28 1 rfl ?_
      refine gg_ireti dX9_allNodes_29 rfl ⟨rfl, rfl⟩ ?_
      exact ⟨rfl, rfl⟩
    · have hi2 : i < 12 := by omega
      refine gg_iload_n dX9_allNodes_10 1 rfl ?_
      refine gg_aload_n dX9_allNodes_11 2 rfl ?_
      refine gg_getR (k' := 1) rfl gf_RX9_11 dX9_allNodes_12 sh_0 pl_0 (by decide) (by decide) rr_0_0 ?_
      refine gg_iload_n dX9_allNodes_15 0 rfl ?_
      refine gg_aaldj (t := 4) i (k' := (41 + 8 * i)) dX9_allNodes_16 sh_1 (by decide) pl_1 (by decide) rfl hi2 (rr_1 hi2) ?_
      refine gg_callVi (own := RX9) (yt := gm_X1_size) rfl gl_RX9_119 gk_X1_size gr_X1_size dX9_allNodes_17 (c_X1_size_ (d := d - 1) (gF_fo i hi2) (hnf i hi2).1 (hnf i hi2).2) (gFsh (gF_fo i hi2)) (gFlt (gF_fo i hi2)) (by decide) rfl rfl rfl (Nat.le_of_ble_eq_true rfl) (by show _ ≤ d; omega) ⟨Nat.le_refl _, Nat.le_refl _⟩ (fun e1 μ' hc => ?_)
      obtain ⟨rfl, rfl⟩ := hc
      refine gg_iadd dX9_allNodes_20 ?_
      refine gg_toI (b := (gNS nf (i + 1) : Int)) (by simp only [gNS]; omega) ?_
      refine gg_istore_n (ls' := [(1, .int (iv (gNS nf (i + 1) : Int))), (2, .int (iv (i : Int))), (0, .ref (gad (gSS ad) 0))]) dX9_allNodes_21 rfl (by decide) rfl ?_
      refine gg_iincv (ls' := [(2, .int (iv ((i + 1 : Nat) : Int))), (1, .int (iv (gNS nf (i + 1) : Int))), (0, .ref (gad (gSS ad) 0))]) dX9_allNodes_22 1 rfl (by omega) (by decide) rfl ?_
      refine gg_goto (tgt := 4) dX9_allNodes_25 (by decide) ?_
      exact ih (i + 1) (by omega) (by omega)

set_option maxRecDepth 10000 in
theorem c_X9_allNodes {l : Launch} {Γ : gC} {ad : Nat → Nat} {I : Nat → Nat → Int} {J : Nat → Nat → Int64} {d : Nat} {nf : Nat → Nat} (hnf : ∀ f, f < 12 → I (41 + 8 * f) 3 = (nf f : Int) ∧ nf f ≤ 200) (hd : 1 ≤ d) : gKi l Γ gm_X9_allNodes d [.ref (gad (gSS ad) 0)] (gSS ad, I, J) (fun e μ => μ = (gSS ad, I, J) ∧ e = (gNS nf 12 : Int)) := by
  refine gKi_of gk_X9_allNodes.1 (Nat.le_of_ble_eq_true rfl) ?_
  show gG l Γ gm_X9_allNodes (d, 0, 0, 0, 0) 0 [(0, .ref (gad (gSS ad) 0))] [] _ _
  refine gg_iconst dX9_allNodes_0 ?_
  refine gg_istore_n (ls' := [(1, .int (iv 0)), (0, .ref (gad (gSS ad) 0))]) dX9_allNodes_1 rfl (by decide) rfl ?_
  refine gg_iconst dX9_allNodes_2 ?_
  refine gg_istore_n (ls' := [(2, .int (iv 0)), (1, .int (iv 0)), (0, .ref (gad (gSS ad) 0))]) dX9_allNodes_3 rfl (by decide) rfl ?_
  refine gg_sub [0, 1, 2] rfl ?_
  exact w_X9_allNodes hnf hd 13 0 (by omega) (by omega)

set_option maxRecDepth 10000 in
theorem t_X9_count {l : Launch} {Γ : gC} {ad : Nat → Nat} {I : Nat → Nat → Int} {J : Nat → Nat → Int64} {d : Nat} {nf : Nat → Nat} (hnf : ∀ f, f < 12 → I (41 + 8 * f) 3 = (nf f : Int) ∧ nf f ≤ 200) {w t : Int} (hw0 : -2147483648 ≤ w ∧ w ≤ 2147483647) (hw1 : w < 10 ∨ 17 < w) (ht : I 20 2 = t) (hd : 2 ≤ d) : gG l Γ gm_X9_count (d, 0, 0, 0, 0) 27 [(0, .ref (gad (gSS ad) 0)), (1, .int (iv w))] [.int (iv w)] (gSS ad, I, J) (gDi (fun e μ => μ = (gSS ad, I, J) ∧ e = (if w = 0 then (gNE nf 12 : Int) else if w = 1 then t else if w = 2 then (gNS nf 12 : Int) else if 10 ≤ w ∧ w ≤ 17 then I 3 (w - 10).toNat else -2))) := by
  obtain hw | hw | hw | hw : w = 0 ∨ w = 1 ∨ w = 2 ∨ (w < 0 ∨ 2 < w) := by omega
  · refine gg_toI (b := 0) hw ?_
    refine gg_tsw (off := 25) (tgt := 52) dX9_count_27 (by decide) (by decide) rfl (by decide) ?_
    refine gg_aload_n dX9_count_52 0 rfl ?_
    refine gg_callVi (own := RX9) (yt := gm_X9_fullFormulas) rfl gl_RX9_282 gk_X9_fullFormulas gr_X9_fullFormulas dX9_count_53 (c_X9_fullFormulas (d := d - 1) hnf (by omega)) sh_0 pl_0 (by decide) rfl rfl rfl (Nat.le_of_ble_eq_true rfl) (by show _ ≤ d; omega) ⟨Nat.le_refl _, Nat.le_refl _⟩ (fun e1 μ' hc => ?_)
    obtain ⟨rfl, rfl⟩ := hc
    refine gg_ireti dX9_count_56 rfl ⟨rfl, rfl⟩ ?_
    refine ⟨rfl, ?_⟩
    first | rw [if_pos (by omega)] | rw [if_neg (by omega), if_pos (by omega)] | rw [if_neg (by omega), if_neg (by omega), if_pos (by omega)] | rw [if_neg (by omega), if_neg (by omega), if_neg (by omega), if_pos (by omega)] | rw [if_neg (by omega), if_neg (by omega), if_neg (by omega), if_neg (by omega)]
  · refine gg_toI (b := 1) hw ?_
    refine gg_tsw (off := 30) (tgt := 57) dX9_count_27 (by decide) (by decide) rfl (by decide) ?_
    refine gg_aload_n dX9_count_57 0 rfl ?_
    refine gg_getR (k' := 20) rfl gf_RX9_54 dX9_count_58 sh_0 pl_0 (by decide) (by decide) rr_0_10 ?_
    refine gg_callVi (own := RX9) (yt := gm_X5_tapeSize) rfl gl_RX9_98 gk_X5_tapeSize gr_X5_tapeSize dX9_count_61 (c_X5_tapeSize (d := d - 1)) sh_20 pl_20 (by decide) rfl rfl rfl (Nat.le_of_ble_eq_true rfl) (by show _ ≤ d; omega) ⟨Nat.le_refl _, Nat.le_refl _⟩ (fun e1 μ' hc => ?_)
    obtain ⟨rfl, rfl⟩ := hc
    refine gg_toI (b := t) ht ?_
    refine gg_ireti dX9_count_64 rfl ⟨rfl, rfl⟩ ?_
    refine ⟨rfl, ?_⟩
    first | rw [if_pos (by omega)] | rw [if_neg (by omega), if_pos (by omega)] | rw [if_neg (by omega), if_neg (by omega), if_pos (by omega)] | rw [if_neg (by omega), if_neg (by omega), if_neg (by omega), if_pos (by omega)] | rw [if_neg (by omega), if_neg (by omega), if_neg (by omega), if_neg (by omega)]
  · refine gg_toI (b := 2) hw ?_
    refine gg_tsw (off := 38) (tgt := 65) dX9_count_27 (by decide) (by decide) rfl (by decide) ?_
    refine gg_aload_n dX9_count_65 0 rfl ?_
    refine gg_callVi (own := RX9) (yt := gm_X9_allNodes) rfl gl_RX9_285 gk_X9_allNodes gr_X9_allNodes dX9_count_66 (c_X9_allNodes (d := d - 1) hnf (by omega)) sh_0 pl_0 (by decide) rfl rfl rfl (Nat.le_of_ble_eq_true rfl) (by show _ ≤ d; omega) ⟨Nat.le_refl _, Nat.le_refl _⟩ (fun e1 μ' hc => ?_)
    obtain ⟨rfl, rfl⟩ := hc
    refine gg_ireti dX9_count_69 rfl ⟨rfl, rfl⟩ ?_
    refine ⟨rfl, ?_⟩
    first | rw [if_pos (by omega)] | rw [if_neg (by omega), if_pos (by omega)] | rw [if_neg (by omega), if_neg (by omega), if_pos (by omega)] | rw [if_neg (by omega), if_neg (by omega), if_neg (by omega), if_pos (by omega)] | rw [if_neg (by omega), if_neg (by omega), if_neg (by omega), if_neg (by omega)]
  · refine gg_tsw_out (tgt := 70) dX9_count_27 (by omega) (by omega) (by decide) ?_
    refine gg_bipush dX9_count_70 (by decide) ?_
    refine gg_ireti dX9_count_72 rfl ⟨rfl, rfl⟩ ?_
    refine ⟨rfl, ?_⟩
    first | rw [if_pos (by omega)] | rw [if_neg (by omega), if_pos (by omega)] | rw [if_neg (by omega), if_neg (by omega), if_pos (by omega)] | rw [if_neg (by omega), if_neg (by omega), if_neg (by omega), if_pos (by omega)] | rw [if_neg (by omega), if_neg (by omega), if_neg (by omega), if_neg (by omega)]

set_option maxRecDepth 10000 in
theorem c_X9_count {l : Launch} {Γ : gC} {ad : Nat → Nat} {I : Nat → Nat → Int} {J : Nat → Nat → Int64} {d : Nat} {nf : Nat → Nat} (hnf : ∀ f, f < 12 → I (41 + 8 * f) 3 = (nf f : Int) ∧ nf f ≤ 200) {w t : Int} (hw0 : -2147483648 ≤ w ∧ w ≤ 2147483647) (ht : I 20 2 = t) (hd : 2 ≤ d) : gKi l Γ gm_X9_count d [.ref (gad (gSS ad) 0), .int (iv w)] (gSS ad, I, J) (fun e μ => μ = (gSS ad, I, J) ∧ e = (if w = 0 then (gNE nf 12 : Int) else if w = 1 then t else if w = 2 then (gNS nf 12 : Int) else if 10 ≤ w ∧ w ≤ 17 then I 3 (w - 10).toNat else -2)) := by
  refine gKi_of gk_X9_count.1 (Nat.le_of_ble_eq_true rfl) ?_
  show gG l Γ gm_X9_count (d, 0, 0, 0, 0) 0 [(0, .ref (gad (gSS ad) 0)), (1, .int (iv w))] [] _ _
  refine gg_iload_n dX9_count_0 1 rfl ?_
  refine gg_bipush dX9_count_1 (by decide) ?_
  refine gg_icmp_lt (tgt := 26) dX9_count_3 (by decide) (by omega) (fun hb1 => ?_) (fun hb1 => ?_)
  · refine gg_iload_n dX9_count_26 1 rfl ?_
    exact t_X9_count hnf hw0 (by omega) ht hd
  · refine gg_iload_n dX9_count_6 1 rfl ?_
    refine gg_bipush dX9_count_7 (by decide) ?_
    refine gg_isub dX9_count_9 ?_
    refine gg_callSi (own := RX9) (yt := gm_X9_isName) rfl gl_RX9_122 gk_X9_isName gr_X9_isName dX9_count_10 (c_X9_isName (d := d - 1) (by omega)) rfl rfl (Nat.le_of_ble_eq_true rfl) (by show _ ≤ d; omega) ⟨Nat.le_refl _, Nat.le_refl _⟩ (fun e2 μ' hc => ?_)
    obtain ⟨rfl, ⟨rfl, hb3⟩ | ⟨rfl, hb3⟩⟩ := hc
    · refine gg_if_eq_f (tgt := 26) dX9_count_13 (by decide) (by decide) (by decide) ?_
      refine gg_aload_n dX9_count_16 0 rfl ?_
      refine gg_getR (k' := 3) rfl gf_RX9_18 dX9_count_17 sh_0 pl_0 (by decide) (by decide) rr_0_2 ?_
      refine gg_iload_n dX9_count_20 1 rfl ?_
      refine gg_bipush dX9_count_21 (by decide) ?_
      refine gg_isub dX9_count_23 ?_
      refine gg_ialdj (w - 10).toNat dX9_count_24 sh_3 pl_3 (by decide) (by omega) (by omega) ?_
      refine gg_ireti dX9_count_25 rfl ⟨rfl, rfl⟩ ?_
      refine ⟨rfl, ?_⟩
      first | rw [if_pos (by omega)] | rw [if_neg (by omega), if_pos (by omega)] | rw [if_neg (by omega), if_neg (by omega), if_pos (by omega)] | rw [if_neg (by omega), if_neg (by omega), if_neg (by omega), if_pos (by omega)] | rw [if_neg (by omega), if_neg (by omega), if_neg (by omega), if_neg (by omega)]
    · refine gg_if_eq_t (tgt := 26) dX9_count_13 (by decide) (by decide) (by decide) ?_
      refine gg_iload_n dX9_count_26 1 rfl ?_
      exact t_X9_count hnf hw0 (by omega) ht hd

set_option maxRecDepth 10000 in
theorem w_X10_notEmpty {l : Launch} {Γ : gC} {ad : Nat → Nat} {I : Nat → Nat → Int} {J : Nat → Nat → Int64} {d : Nat} {nf : Nat → Nat} (hnf : ∀ f, f < 12 → I 146 f = (nf f : Int) ∧ nf f ≤ 200) : ∀ (m : Nat) (i : Nat), 12 - i < m → (i ≤ 12) → gG l Γ gm_X10_notEmpty (d, 0, 0, 0, 0) 4 [(2, .int (iv (i : Int))), (1, .int (iv (gNE nf i : Int))), (0, .ref (gad (gSS ad) 145))] [] (gSS ad, I, J) (gDi (fun e μ => μ = (gSS ad, I, J) ∧ e = (gNE nf 12 : Int))) := by
  intro m
  induction m with
  | zero => intros; omega
  | succ m ih =>
    intro i hm hi
    refine gg_iload_n dX10_notEmpty_4 0 rfl ?_
    refine gg_bipush dX10_notEmpty_5 (by decide) ?_
    refine gg_icmp_ge (tgt := 28) dX10_notEmpty_7 (by decide) (by omega) (fun hx => ?_) (fun hx => ?_)
    · have he : i = 12 := by omega
      subst he
      refine gg_iload_n dX10_notEmpty_28 1 rfl ?_
      refine gg_ireti dX10_notEmpty_29 rfl ⟨rfl, rfl⟩ ?_
      exact ⟨rfl, rfl⟩
    · have hi2 : i < 12 := by omega
      have hb9 := (hnf i hi2).2
      refine gg_aload_n dX10_notEmpty_10 2 rfl ?_
      refine gg_getR (k' := 146) rfl gf_RX10_9 dX10_notEmpty_11 sh_145 pl_145 (by decide) (by decide) rr_145_0 ?_
      refine gg_iload_n dX10_notEmpty_14 0 rfl ?_
      refine gg_ialdj i dX10_notEmpty_15 sh_146 pl_146 (by decide) rfl hi2 ?_
      refine gg_toI (b := (nf i : Int)) (hnf i hi2).1 ?_
      refine gg_if_le (tgt := 22) dX10_notEmpty_16 (by decide) (by omega) (fun hz => ?_) (fun hz => ?_)
      · have hz0 : nf i = 0 := by omega
        refine gg_iincv (ls' := [(2, .int (iv ((i + 1 : Nat) : Int))), (1, .int (iv (gNE nf i : Int))), (0, .ref (gad (gSS ad) 145))]) dX10_notEmpty_22 0 rfl (by omega) (by decide) rfl ?_
        refine gg_goto (tgt := 4) dX10_notEmpty_25 (by decide) ?_
        rw [show gNE nf i = gNE nf (i + 1) by simp only [gNE]; rw [if_pos hz0]; rfl]
        exact ih (i + 1) (by omega) (by omega)
      · have hz0 : ¬ nf i = 0 := by omega
        refine gg_iincv (ls' := [(1, .int (iv (gNE nf (i + 1) : Int))), (2, .int (iv (i : Int))), (0, .ref (gad (gSS ad) 145))]) dX10_notEmpty_19 1 rfl (by simp only [gNE]; rw [if_neg hz0]; rfl) (by decide) rfl ?_
        refine gg_iincv (ls' := [(2, .int (iv ((i + 1 : Nat) : Int))), (1, .int (iv (gNE nf (i + 1) : Int))), (0, .ref (gad (gSS ad) 145))]) dX10_notEmpty_22 1 rfl (by omega) (by decide) rfl ?_
        refine gg_goto (tgt := 4) dX10_notEmpty_25 (by decide) ?_
        exact ih (i + 1) (by omega) (by omega)

set_option maxRecDepth 10000 in
theorem c_X10_notEmpty {l : Launch} {Γ : gC} {ad : Nat → Nat} {I : Nat → Nat → Int} {J : Nat → Nat → Int64} {d : Nat} {nf : Nat → Nat} (hnf : ∀ f, f < 12 → I 146 f = (nf f : Int) ∧ nf f ≤ 200) : gKi l Γ gm_X10_notEmpty d [.ref (gad (gSS ad) 145)] (gSS ad, I, J) (fun e μ => μ = (gSS ad, I, J) ∧ e = (gNE nf 12 : Int)) := by
  refine gKi_of gk_X10_notEmpty.1 (Nat.le_of_ble_eq_true rfl) ?_
  show gG l Γ gm_X10_notEmpty (d, 0, 0, 0, 0) 0 [(0, .ref (gad (gSS ad) 145))] [] _ _
  refine gg_iconst dX10_notEmpty_0 ?_
  refine gg_istore_n (ls' := [(1, .int (iv 0)), (0, .ref (gad (gSS ad) 145))]) dX10_notEmpty_1 rfl (by decide) rfl ?_
  refine gg_iconst dX10_notEmpty_2 ?_
  refine gg_istore_n (ls' := [(2, .int (iv 0)), (1, .int (iv 0)), (0, .ref (gad (gSS ad) 145))]) dX10_notEmpty_3 rfl (by decide) rfl ?_
  refine gg_sub [0, 1, 2] rfl ?_
  exact w_X10_notEmpty hnf 13 0 (by omega) (by omega)

set_option maxRecDepth 10000 in
theorem w_X10_count {l : Launch} {Γ : gC} {ad : Nat → Nat} {I : Nat → Nat → Int} {J : Nat → Nat → Int64} {d : Nat} {nf : Nat → Nat} (hnf : ∀ f, f < 12 → I 146 f = (nf f : Int) ∧ nf f ≤ 200) {w t : Int} (hw2 : w = 2) : ∀ (m : Nat) (i : Nat), 12 - i < m → (i ≤ 12) → gG l Γ gm_X10_count (d, 0, 0, 0, 0) 52 [(3, .int (iv (i : Int))), (2, .int (iv (gNS nf i : Int))), (0, .ref (gad (gSS ad) 145))] [] (gSS ad, I, J) (gDi (fun e μ => μ = (gSS ad, I, J) ∧ e = (if w = 0 then (gNE nf 12 : Int) else if w = 1 then t else if w = 2 then (gNS nf 12 : Int) else if 10 ≤ w ∧ w ≤ 17 then I 186 (w - 10).toNat else -2))) := by
  intro m
  induction m with
  | zero => intros; omega
  | succ m ih =>
    intro i hm hi
    refine gg_iload_n dX10_count_52 0 rfl ?_
    refine gg_bipush dX10_count_53 (by decide) ?_
    refine gg_icmp_ge (tgt := 73) dX10_count_55 (by decide) (by omega) (fun hx => ?_) (fun hx => ?_)
    · have he : i = 12 := by omega
      subst he
      refine gg_iload_n dX10_count_73 1 rfl ?_
      refine gg_ireti dX10_count_74 rfl ⟨rfl, rfl⟩ ?_
      refine ⟨rfl, ?_⟩
      first | rw [if_pos (by omega)] | rw [if_neg (by omega), if_pos (by omega)] | rw [if_neg (by omega), if_neg (by omega), if_pos (by omega)] | rw [if_neg (by omega), if_neg (by omega), if_neg (by omega), if_pos (by omega)] | rw [if_neg (by omega), if_neg (by omega), if_neg (by omega), if_neg (by omega)]
    · have hi2 : i < 12 := by omega
      refine gg_iload_n dX10_count_58 1 rfl ?_
      refine gg_aload_n dX10_count_59 2 rfl ?_
      refine gg_getR (k' := 146) rfl gf_RX10_9 dX10_count_60 sh_145 pl_145 (by decide) (by decide) rr_145_0 ?_
      refine gg_iload_n dX10_count_63 0 rfl ?_
      refine gg_ialdj i dX10_count_64 sh_146 pl_146 (by decide) rfl hi2 ?_
      refine gg_toI (b := (nf i : Int)) (hnf i hi2).1 ?_
      refine gg_iadd dX10_count_65 ?_
      refine gg_toI (b := (gNS nf (i + 1) : Int)) (by simp only [gNS]; omega) ?_
      refine gg_istore_n (ls' := [(2, .int (iv (gNS nf (i + 1) : Int))), (3, .int (iv (i : Int))), (0, .ref (gad (gSS ad) 145))]) dX10_count_66 rfl (by decide) rfl ?_
      refine gg_iincv (ls' := [(3, .int (iv ((i + 1 : Nat) : Int))), (2, .int (iv (gNS nf (i + 1) : Int))), (0, .ref (gad (gSS ad) 145))]) dX10_count_67 1 rfl (by omega) (by decide) rfl ?_
      refine gg_goto (tgt := 52) dX10_count_70 (by decide) ?_
      exact ih (i + 1) (by omega) (by omega)

set_option maxRecDepth 10000 in
theorem c_X10_count {l : Launch} {Γ : gC} {ad : Nat → Nat} {I : Nat → Nat → Int} {J : Nat → Nat → Int64} {d : Nat} {nf : Nat → Nat} (hnf : ∀ f, f < 12 → I 146 f = (nf f : Int) ∧ nf f ≤ 200) {w t : Int} (hw0 : -2147483648 ≤ w ∧ w ≤ 2147483647) (ht : I 145 10 = t) (hd : 2 ≤ d) : gKi l Γ gm_X10_count d [.ref (gad (gSS ad) 145), .int (iv w)] (gSS ad, I, J) (fun e μ => μ = (gSS ad, I, J) ∧ e = (if w = 0 then (gNE nf 12 : Int) else if w = 1 then t else if w = 2 then (gNS nf 12 : Int) else if 10 ≤ w ∧ w ≤ 17 then I 186 (w - 10).toNat else -2)) := by
  refine gKi_of gk_X10_count.1 (Nat.le_of_ble_eq_true rfl) ?_
  show gG l Γ gm_X10_count (d, 0, 0, 0, 0) 0 [(0, .ref (gad (gSS ad) 145)), (1, .int (iv w))] [] _ _
  refine gg_iload_n dX10_count_0 1 rfl ?_
  refine gg_if_ne (tgt := 9) dX10_count_1 (by decide) (by omega) (fun hb1 => ?_) (fun hb1 => ?_)
  · refine gg_iload_n dX10_count_9 1 rfl ?_
    refine gg_iconst dX10_count_10 ?_
    refine gg_icmp_ne (tgt := 19) dX10_count_11 (by decide) (by omega) (fun hb2 => ?_) (fun hb2 => ?_)
    · refine gg_iload_n dX10_count_19 1 rfl ?_
      refine gg_bipush dX10_count_20 (by decide) ?_
      refine gg_bipush dX10_count_22 (by decide) ?_
      refine gg_callSi (own := RX10) (yt := gm_X10_in) rfl gl_RX10_84 gk_X10_in gr_X10_in dX10_count_24 (c_X10_in (d := d - 1) (by omega)) rfl rfl (Nat.le_of_ble_eq_true rfl) (by show _ ≤ d; omega) ⟨Nat.le_refl _, Nat.le_refl _⟩ (fun e3 μ' hc => ?_)
      obtain ⟨rfl, ⟨rfl, hb4⟩ | ⟨rfl, hb4⟩⟩ := hc
      · refine gg_if_eq_f (tgt := 40) dX10_count_27 (by decide) (by decide) (by decide) ?_
        refine gg_aload_n dX10_count_30 0 rfl ?_
        refine gg_getR (k' := 186) rfl gf_RX10_26 dX10_count_31 sh_145 pl_145 (by decide) (by decide) rr_145_4 ?_
        refine gg_iload_n dX10_count_34 1 rfl ?_
        refine gg_bipush dX10_count_35 (by decide) ?_
        refine gg_isub dX10_count_37 ?_
        refine gg_ialdj (w - 10).toNat dX10_count_38 sh_186 pl_186 (by decide) (by omega) (by omega) ?_
        refine gg_ireti dX10_count_39 rfl ⟨rfl, rfl⟩ ?_
        refine ⟨rfl, ?_⟩
        first | rw [if_pos (by omega)] | rw [if_neg (by omega), if_pos (by omega)] | rw [if_neg (by omega), if_neg (by omega), if_pos (by omega)] | rw [if_neg (by omega), if_neg (by omega), if_neg (by omega), if_pos (by omega)] | rw [if_neg (by omega), if_neg (by omega), if_neg (by omega), if_neg (by omega)]
      · refine gg_if_eq_t (tgt := 40) dX10_count_27 (by decide) (by decide) (by decide) ?_
        refine gg_iload_n dX10_count_40 1 rfl ?_
        refine gg_iconst dX10_count_41 ?_
        refine gg_icmp_eq (tgt := 48) dX10_count_42 (by decide) (by omega) (fun hb5 => ?_) (fun hb5 => ?_)
        · refine gg_iconst dX10_count_48 ?_
          refine gg_istore_n (ls' := [(2, .int (iv 0)), (0, .ref (gad (gSS ad) 145)), (1, .int (iv w))]) dX10_count_49 rfl (by decide) rfl ?_
          refine gg_iconst dX10_count_50 ?_
          refine gg_istore_n (ls' := [(3, .int (iv 0)), (2, .int (iv 0)), (0, .ref (gad (gSS ad) 145)), (1, .int (iv w))]) dX10_count_51 rfl (by decide) rfl ?_
          refine gg_sub [0, 1, 2] rfl ?_
          exact w_X10_count hnf (by omega) 13 0 (by omega) (by omega)
        · refine gg_bipush dX10_count_45 (by decide) ?_
          refine gg_ireti dX10_count_47 rfl ⟨rfl, rfl⟩ ?_
          refine ⟨rfl, ?_⟩
          first | rw [if_pos (by omega)] | rw [if_neg (by omega), if_pos (by omega)] | rw [if_neg (by omega), if_neg (by omega), if_pos (by omega)] | rw [if_neg (by omega), if_neg (by omega), if_neg (by omega), if_pos (by omega)] | rw [if_neg (by omega), if_neg (by omega), if_neg (by omega), if_neg (by omega)]
    · refine gg_aload_n dX10_count_14 0 rfl ?_
      refine gg_getI rfl gf_RX10_117 dX10_count_15 sh_145 pl_145 (by decide) (by decide) ?_
      refine gg_toI (b := t) ht ?_
      refine gg_ireti dX10_count_18 rfl ⟨rfl, rfl⟩ ?_
      refine ⟨rfl, ?_⟩
      first | rw [if_pos (by omega)] | rw [if_neg (by omega), if_pos (by omega)] | rw [if_neg (by omega), if_neg (by omega), if_pos (by omega)] | rw [if_neg (by omega), if_neg (by omega), if_neg (by omega), if_pos (by omega)] | rw [if_neg (by omega), if_neg (by omega), if_neg (by omega), if_neg (by omega)]
  · refine gg_aload_n dX10_count_4 0 rfl ?_
    refine gg_callVi (own := RX10) (yt := gm_X10_notEmpty) rfl gl_RX10_366 gk_X10_notEmpty gr_X10_notEmpty dX10_count_5 (c_X10_notEmpty (d := d - 1) hnf) sh_145 pl_145 (by decide) rfl rfl rfl (Nat.le_of_ble_eq_true rfl) (by show _ ≤ d; omega) ⟨Nat.le_refl _, Nat.le_refl _⟩ (fun e6 μ' hc => ?_)
    obtain ⟨rfl, rfl⟩ := hc
    refine gg_ireti dX10_count_8 rfl ⟨rfl, rfl⟩ ?_
    refine ⟨rfl, ?_⟩
    first | rw [if_pos (by omega)] | rw [if_neg (by omega), if_pos (by omega)] | rw [if_neg (by omega), if_neg (by omega), if_pos (by omega)] | rw [if_neg (by omega), if_neg (by omega), if_neg (by omega), if_pos (by omega)] | rw [if_neg (by omega), if_neg (by omega), if_neg (by omega), if_neg (by omega)]

