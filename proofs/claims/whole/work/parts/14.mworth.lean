/-! the reference: formula f is sizes[f], kinds[f], figures[f], ends[f] -/
def gMt (I : Nat → Nat → Int) (J : Nat → Nat → Int64) (f n : Nat) (K : Nat → Nat) (N : Nat → Int64) (Z : Nat → Nat) : Prop := I 146 f = (n : Int) ∧ ∀ j, j < n → I (148 + f) j = (K j : Int) ∧ J (161 + f) j = N j ∧ I (174 + f) j = (j : Int) + Z j
theorem gMt_I {I I' : Nat → Nat → Int} {J : Nat → Nat → Int64} {f n : Nat} {K : Nat → Nat} {N : Nat → Int64} {Z : Nat → Nat} {k : Nat} (hk : k = 190) (hf : f < 12) (h : gMt I J f n K N Z) (hI : ∀ p, p ≠ k → I' p = I p) : gMt I' J f n K N Z := by
  subst hk
  refine ⟨by rw [hI 146 (by omega)]; exact h.1, fun j hj => ?_⟩
  rw [hI (148 + f) (by omega), hI (174 + f) (by omega)]
  exact h.2 j hj
set_option maxRecDepth 10000 in
theorem c_X10_in {l : Launch} {Γ : gC} {ad : Nat → Nat} {I : Nat → Nat → Int} {J : Nat → Nat → Int64} {d : Nat} {i x y : Int} (hi : -2147483648 ≤ i ∧ i ≤ 2147483647 ∧ -2147483648 ≤ x ∧ x ≤ 2147483647 ∧ -2147483648 ≤ y ∧ y ≤ 2147483647) : gKi l Γ gm_X10_in d [.int (iv i), .int (iv x), .int (iv y)] (gSS ad, I, J) (fun e μ => μ = (gSS ad, I, J) ∧ ((e = 1 ∧ (x ≤ i ∧ i ≤ y)) ∨ (e = 0 ∧ ¬ (x ≤ i ∧ i ≤ y)))) := by
  refine gKi_of gk_X10_in.1 (Nat.le_of_ble_eq_true rfl) ?_
  show gG l Γ gm_X10_in (d, 0, 0, 0, 0) 0 [(0, .int (iv i)), (1, .int (iv x)), (2, .int (iv y))] [] _ _
  refine gg_iload_n dX10_in_0 0 rfl ?_
  refine gg_iload_n dX10_in_1 1 rfl ?_
  refine gg_icmp_lt (tgt := 14) dX10_in_2 (by decide) (by omega) (fun hb1 => ?_) (fun hb1 => ?_)
  · refine gg_iconst dX10_in_14 ?_
    refine gg_iretz dX10_in_15 rfl (by decide) ⟨rfl, rfl⟩ ?_
    refine ⟨rfl, ?_⟩ <;> omega
  · refine gg_iload_n dX10_in_5 0 rfl ?_
    refine gg_iload_n dX10_in_6 2 rfl ?_
    refine gg_icmp_gt (tgt := 14) dX10_in_7 (by decide) (by omega) (fun hb2 => ?_) (fun hb2 => ?_)
    · refine gg_iconst dX10_in_14 ?_
      refine gg_iretz dX10_in_15 rfl (by decide) ⟨rfl, rfl⟩ ?_
      refine ⟨rfl, ?_⟩ <;> omega
    · refine gg_iconst dX10_in_10 ?_
      refine gg_goto (tgt := 15) dX10_in_11 (by decide) ?_
      refine gg_iretz dX10_in_15 rfl (by decide) ⟨rfl, rfl⟩ ?_
      refine ⟨rfl, ?_⟩ <;> omega

set_option maxRecDepth 10000 in
theorem c_X10_isFormula {l : Launch} {Γ : gC} {ad : Nat → Nat} {I : Nat → Nat → Int} {J : Nat → Nat → Int64} {d : Nat} {i : Int} (hi : -2147483648 ≤ i ∧ i ≤ 2147483647) (hd : 1 ≤ d) : gKi l Γ gm_X10_isFormula d [.int (iv i)] (gSS ad, I, J) (fun e μ => μ = (gSS ad, I, J) ∧ ((e = 1 ∧ (0 ≤ i ∧ i ≤ 11)) ∨ (e = 0 ∧ ¬ (0 ≤ i ∧ i ≤ 11)))) := by
  refine gKi_of gk_X10_isFormula.1 (Nat.le_of_ble_eq_true rfl) ?_
  show gG l Γ gm_X10_isFormula (d, 0, 0, 0, 0) 0 [(0, .int (iv i))] [] _ _
  refine gg_iload_n dX10_isFormula_0 0 rfl ?_
  refine gg_iconst dX10_isFormula_1 ?_
  refine gg_bipush dX10_isFormula_2 (by decide) ?_
  refine gg_callSi (own := RX10) (yt := gm_X10_in) rfl gl_RX10_84 gk_X10_in gr_X10_in dX10_isFormula_4 (c_X10_in (d := d - 1) (by omega)) rfl rfl (Nat.le_of_ble_eq_true rfl) (by show _ ≤ d; omega) ⟨Nat.le_refl _, Nat.le_refl _⟩ (fun e1 μ' hc => ?_)
  obtain ⟨rfl, ⟨rfl, hb2⟩ | ⟨rfl, hb2⟩⟩ := hc
  · refine gg_iretz dX10_isFormula_7 rfl (by decide) ⟨rfl, rfl⟩ ?_
    refine ⟨rfl, ?_⟩ <;> omega
  · refine gg_iretz dX10_isFormula_7 rfl (by decide) ⟨rfl, rfl⟩ ?_
    refine ⟨rfl, ?_⟩ <;> omega

set_option maxRecDepth 10000 in
theorem c_X10_isName {l : Launch} {Γ : gC} {ad : Nat → Nat} {I : Nat → Nat → Int} {J : Nat → Nat → Int64} {d : Nat} {i : Int} (hi : -2147483648 ≤ i ∧ i ≤ 2147483647) (hd : 1 ≤ d) : gKi l Γ gm_X10_isName d [.int (iv i)] (gSS ad, I, J) (fun e μ => μ = (gSS ad, I, J) ∧ ((e = 1 ∧ (0 ≤ i ∧ i ≤ 7)) ∨ (e = 0 ∧ ¬ (0 ≤ i ∧ i ≤ 7)))) := by
  refine gKi_of gk_X10_isName.1 (Nat.le_of_ble_eq_true rfl) ?_
  show gG l Γ gm_X10_isName (d, 0, 0, 0, 0) 0 [(0, .int (iv i))] [] _ _
  refine gg_iload_n dX10_isName_0 0 rfl ?_
  refine gg_iconst dX10_isName_1 ?_
  refine gg_bipush dX10_isName_2 (by decide) ?_
  refine gg_callSi (own := RX10) (yt := gm_X10_in) rfl gl_RX10_84 gk_X10_in gr_X10_in dX10_isName_4 (c_X10_in (d := d - 1) (by omega)) rfl rfl (Nat.le_of_ble_eq_true rfl) (by show _ ≤ d; omega) ⟨Nat.le_refl _, Nat.le_refl _⟩ (fun e1 μ' hc => ?_)
  obtain ⟨rfl, ⟨rfl, hb2⟩ | ⟨rfl, hb2⟩⟩ := hc
  · refine gg_iretz dX10_isName_7 rfl (by decide) ⟨rfl, rfl⟩ ?_
    refine ⟨rfl, ?_⟩ <;> omega
  · refine gg_iretz dX10_isName_7 rfl (by decide) ⟨rfl, rfl⟩ ?_
    refine ⟨rfl, ?_⟩ <;> omega

set_option maxRecDepth 10000 in
theorem c_X10_isByte {l : Launch} {Γ : gC} {ad : Nat → Nat} {I : Nat → Nat → Int} {J : Nat → Nat → Int64} {d : Nat} {i : Int} (hi : -2147483648 ≤ i ∧ i ≤ 2147483647) (hd : 1 ≤ d) : gKi l Γ gm_X10_isByte d [.int (iv i)] (gSS ad, I, J) (fun e μ => μ = (gSS ad, I, J) ∧ ((e = 1 ∧ (0 ≤ i ∧ i ≤ 255)) ∨ (e = 0 ∧ ¬ (0 ≤ i ∧ i ≤ 255)))) := by
  refine gKi_of gk_X10_isByte.1 (Nat.le_of_ble_eq_true rfl) ?_
  show gG l Γ gm_X10_isByte (d, 0, 0, 0, 0) 0 [(0, .int (iv i))] [] _ _
  refine gg_iload_n dX10_isByte_0 0 rfl ?_
  refine gg_iconst dX10_isByte_1 ?_
  refine gg_sipush dX10_isByte_2 (by decide) ?_
  refine gg_callSi (own := RX10) (yt := gm_X10_in) rfl gl_RX10_84 gk_X10_in gr_X10_in dX10_isByte_5 (c_X10_in (d := d - 1) (by omega)) rfl rfl (Nat.le_of_ble_eq_true rfl) (by show _ ≤ d; omega) ⟨Nat.le_refl _, Nat.le_refl _⟩ (fun e1 μ' hc => ?_)
  obtain ⟨rfl, ⟨rfl, hb2⟩ | ⟨rfl, hb2⟩⟩ := hc
  · refine gg_iretz dX10_isByte_8 rfl (by decide) ⟨rfl, rfl⟩ ?_
    refine ⟨rfl, ?_⟩ <;> omega
  · refine gg_iretz dX10_isByte_8 rfl (by decide) ⟨rfl, rfl⟩ ?_
    refine ⟨rfl, ?_⟩ <;> omega

set_option maxRecDepth 10000 in
theorem c_X10_isSheet {l : Launch} {Γ : gC} {ad : Nat → Nat} {I : Nat → Nat → Int} {J : Nat → Nat → Int64} {d : Nat} {i : Int} (hi : -2147483648 ≤ i ∧ i ≤ 2147483647) (hd : 1 ≤ d) : gKi l Γ gm_X10_isSheet d [.int (iv i)] (gSS ad, I, J) (fun e μ => μ = (gSS ad, I, J) ∧ ((e = 1 ∧ (0 ≤ i ∧ i ≤ 3)) ∨ (e = 0 ∧ ¬ (0 ≤ i ∧ i ≤ 3)))) := by
  refine gKi_of gk_X10_isSheet.1 (Nat.le_of_ble_eq_true rfl) ?_
  show gG l Γ gm_X10_isSheet (d, 0, 0, 0, 0) 0 [(0, .int (iv i))] [] _ _
  refine gg_iload_n dX10_isSheet_0 0 rfl ?_
  refine gg_iconst dX10_isSheet_1 ?_
  refine gg_iconst dX10_isSheet_2 ?_
  refine gg_callSi (own := RX10) (yt := gm_X10_in) rfl gl_RX10_84 gk_X10_in gr_X10_in dX10_isSheet_3 (c_X10_in (d := d - 1) (by omega)) rfl rfl (Nat.le_of_ble_eq_true rfl) (by show _ ≤ d; omega) ⟨Nat.le_refl _, Nat.le_refl _⟩ (fun e1 μ' hc => ?_)
  obtain ⟨rfl, ⟨rfl, hb2⟩ | ⟨rfl, hb2⟩⟩ := hc
  · refine gg_iretz dX10_isSheet_6 rfl (by decide) ⟨rfl, rfl⟩ ?_
    refine ⟨rfl, ?_⟩ <;> omega
  · refine gg_iretz dX10_isSheet_6 rfl (by decide) ⟨rfl, rfl⟩ ?_
    refine ⟨rfl, ?_⟩ <;> omega

set_option maxRecDepth 10000 in
theorem c_X10_parts {l : Launch} {Γ : gC} {ad : Nat → Nat} {I : Nat → Nat → Int} {J : Nat → Nat → Int64} {d : Nat} {k : Nat} (hk : k < 8) : gKi l Γ gm_X10_parts d [.int (iv (k : Int))] (gSS ad, I, J) (fun e μ => μ = (gSS ad, I, J) ∧ e = (gPar k : Int)) := by
  refine gKi_of gk_X10_parts.1 (Nat.le_of_ble_eq_true rfl) ?_
  show gG l Γ gm_X10_parts (d, 0, 0, 0, 0) 0 [(0, .int (iv (k : Int)))] [] _ _
  have hkk := hk
  clear hk
  obtain hk | hk | hk | hk | hk | hk | hk | hk : k = 0 ∨ k = 1 ∨ k = 2 ∨ k = 3 ∨ k = 4 ∨ k = 5 ∨ k = 6 ∨ k = 7 := by omega
  · subst hk
    show gG l Γ gm_X10_parts (d, 0, 0, 0, 0) 0 [(0, .int (iv 0))] [] _ _
    refine gg_iload_n dX10_parts_0 0 rfl ?_
    refine gg_iconst dX10_parts_1 ?_
    refine gg_icmp_ge_f (tgt := 9) dX10_parts_2 (by decide) (by decide) (by decide) ?_
    refine gg_iconst dX10_parts_5 ?_
    refine gg_goto (tgt := 34) dX10_parts_6 (by decide) ?_
    refine gg_ireti dX10_parts_34 rfl ⟨rfl, rfl⟩ ?_
    exact ⟨rfl, rfl⟩
  · subst hk
    show gG l Γ gm_X10_parts (d, 0, 0, 0, 0) 0 [(0, .int (iv 1))] [] _ _
    refine gg_iload_n dX10_parts_0 0 rfl ?_
    refine gg_iconst dX10_parts_1 ?_
    refine gg_icmp_ge_f (tgt := 9) dX10_parts_2 (by decide) (by decide) (by decide) ?_
    refine gg_iconst dX10_parts_5 ?_
    refine gg_goto (tgt := 34) dX10_parts_6 (by decide) ?_
    refine gg_ireti dX10_parts_34 rfl ⟨rfl, rfl⟩ ?_
    exact ⟨rfl, rfl⟩
  · subst hk
    show gG l Γ gm_X10_parts (d, 0, 0, 0, 0) 0 [(0, .int (iv 2))] [] _ _
    refine gg_iload_n dX10_parts_0 0 rfl ?_
    refine gg_iconst dX10_parts_1 ?_
    refine gg_icmp_ge_t (tgt := 9) dX10_parts_2 (by decide) (by decide) (by decide) ?_
    refine gg_iload_n dX10_parts_9 0 rfl ?_
    refine gg_iconst dX10_parts_10 ?_
    refine gg_icmp_eq_f (tgt := 19) dX10_parts_11 (by decide) (by decide) (by decide) ?_
    refine gg_iload_n dX10_parts_14 0 rfl ?_
    refine gg_iconst dX10_parts_15 ?_
    refine gg_icmp_ne_t (tgt := 23) dX10_parts_16 (by decide) (by decide) (by decide) ?_
    refine gg_iload_n dX10_parts_23 0 rfl ?_
    refine gg_bipush dX10_parts_24 (by decide) ?_
    refine gg_icmp_ne_t (tgt := 33) dX10_parts_26 (by decide) (by decide) (by decide) ?_
    refine gg_iconst dX10_parts_33 ?_
    refine gg_ireti dX10_parts_34 rfl ⟨rfl, rfl⟩ ?_
    exact ⟨rfl, rfl⟩
  · subst hk
    show gG l Γ gm_X10_parts (d, 0, 0, 0, 0) 0 [(0, .int (iv 3))] [] _ _
    refine gg_iload_n dX10_parts_0 0 rfl ?_
    refine gg_iconst dX10_parts_1 ?_
    refine gg_icmp_ge_t (tgt := 9) dX10_parts_2 (by decide) (by decide) (by decide) ?_
    refine gg_iload_n dX10_parts_9 0 rfl ?_
    refine gg_iconst dX10_parts_10 ?_
    refine gg_icmp_eq_t (tgt := 19) dX10_parts_11 (by decide) (by decide) (by decide) ?_
    refine gg_iconst dX10_parts_19 ?_
    refine gg_goto (tgt := 34) dX10_parts_20 (by decide) ?_
    refine gg_ireti dX10_parts_34 rfl ⟨rfl, rfl⟩ ?_
    exact ⟨rfl, rfl⟩
  · subst hk
    show gG l Γ gm_X10_parts (d, 0, 0, 0, 0) 0 [(0, .int (iv 4))] [] _ _
    refine gg_iload_n dX10_parts_0 0 rfl ?_
    refine gg_iconst dX10_parts_1 ?_
    refine gg_icmp_ge_t (tgt := 9) dX10_parts_2 (by decide) (by decide) (by decide) ?_
    refine gg_iload_n dX10_parts_9 0 rfl ?_
    refine gg_iconst dX10_parts_10 ?_
    refine gg_icmp_eq_f (tgt := 19) dX10_parts_11 (by decide) (by decide) (by decide) ?_
    refine gg_iload_n dX10_parts_14 0 rfl ?_
    refine gg_iconst dX10_parts_15 ?_
    refine gg_icmp_ne_f (tgt := 23) dX10_parts_16 (by decide) (by decide) (by decide) ?_
    refine gg_iconst dX10_parts_19 ?_
    refine gg_goto (tgt := 34) dX10_parts_20 (by decide) ?_
    refine gg_ireti dX10_parts_34 rfl ⟨rfl, rfl⟩ ?_
    exact ⟨rfl, rfl⟩
  · subst hk
    show gG l Γ gm_X10_parts (d, 0, 0, 0, 0) 0 [(0, .int (iv 5))] [] _ _
    refine gg_iload_n dX10_parts_0 0 rfl ?_
    refine gg_iconst dX10_parts_1 ?_
    refine gg_icmp_ge_t (tgt := 9) dX10_parts_2 (by decide) (by decide) (by decide) ?_
    refine gg_iload_n dX10_parts_9 0 rfl ?_
    refine gg_iconst dX10_parts_10 ?_
    refine gg_icmp_eq_f (tgt := 19) dX10_parts_11 (by decide) (by decide) (by decide) ?_
    refine gg_iload_n dX10_parts_14 0 rfl ?_
    refine gg_iconst dX10_parts_15 ?_
    refine gg_icmp_ne_t (tgt := 23) dX10_parts_16 (by decide) (by decide) (by decide) ?_
    refine gg_iload_n dX10_parts_23 0 rfl ?_
    refine gg_bipush dX10_parts_24 (by decide) ?_
    refine gg_icmp_ne_t (tgt := 33) dX10_parts_26 (by decide) (by decide) (by decide) ?_
    refine gg_iconst dX10_parts_33 ?_
    refine gg_ireti dX10_parts_34 rfl ⟨rfl, rfl⟩ ?_
    exact ⟨rfl, rfl⟩
  · subst hk
    show gG l Γ gm_X10_parts (d, 0, 0, 0, 0) 0 [(0, .int (iv 6))] [] _ _
    refine gg_iload_n dX10_parts_0 0 rfl ?_
    refine gg_iconst dX10_parts_1 ?_
    refine gg_icmp_ge_t (tgt := 9) dX10_parts_2 (by decide) (by decide) (by decide) ?_
    refine gg_iload_n dX10_parts_9 0 rfl ?_
    refine gg_iconst dX10_parts_10 ?_
    refine gg_icmp_eq_f (tgt := 19) dX10_parts_11 (by decide) (by decide) (by decide) ?_
    refine gg_iload_n dX10_parts_14 0 rfl ?_
    refine gg_iconst dX10_parts_15 ?_
    refine gg_icmp_ne_t (tgt := 23) dX10_parts_16 (by decide) (by decide) (by decide) ?_
    refine gg_iload_n dX10_parts_23 0 rfl ?_
    refine gg_bipush dX10_parts_24 (by decide) ?_
    refine gg_icmp_ne_f (tgt := 33) dX10_parts_26 (by decide) (by decide) (by decide) ?_
    refine gg_iconst dX10_parts_29 ?_
    refine gg_goto (tgt := 34) dX10_parts_30 (by decide) ?_
    refine gg_ireti dX10_parts_34 rfl ⟨rfl, rfl⟩ ?_
    exact ⟨rfl, rfl⟩
  · subst hk
    show gG l Γ gm_X10_parts (d, 0, 0, 0, 0) 0 [(0, .int (iv 7))] [] _ _
    refine gg_iload_n dX10_parts_0 0 rfl ?_
    refine gg_iconst dX10_parts_1 ?_
    refine gg_icmp_ge_t (tgt := 9) dX10_parts_2 (by decide) (by decide) (by decide) ?_
    refine gg_iload_n dX10_parts_9 0 rfl ?_
    refine gg_iconst dX10_parts_10 ?_
    refine gg_icmp_eq_f (tgt := 19) dX10_parts_11 (by decide) (by decide) (by decide) ?_
    refine gg_iload_n dX10_parts_14 0 rfl ?_
    refine gg_iconst dX10_parts_15 ?_
    refine gg_icmp_ne_t (tgt := 23) dX10_parts_16 (by decide) (by decide) (by decide) ?_
    refine gg_iload_n dX10_parts_23 0 rfl ?_
    refine gg_bipush dX10_parts_24 (by decide) ?_
    refine gg_icmp_ne_t (tgt := 33) dX10_parts_26 (by decide) (by decide) (by decide) ?_
    refine gg_iconst dX10_parts_33 ?_
    refine gg_ireti dX10_parts_34 rfl ⟨rfl, rfl⟩ ?_
    exact ⟨rfl, rfl⟩

set_option maxRecDepth 10000 in
theorem c_X10_second {l : Launch} {Γ : gC} {ad : Nat → Nat} {I : Nat → Nat → Int} {J : Nat → Nat → Int64} {d : Nat} {f n : Nat} {K : Nat → Nat} {N : Nat → Int64} {Z : Nat → Nat} (hf : f < 12) (hM : gMt I J f n K N Z) (hW : gWf n K N Z) {i : Nat} (hi : i + 1 < n) : gKi l Γ gm_X10_second d [.ref (gad (gSS ad) 145), .int (iv (f : Int)), .int (iv (i : Int))] (gSS ad, I, J) (fun e μ => μ = (gSS ad, I, J) ∧ e = (gPt Z i 1 : Int)) := by
  refine gKi_of gk_X10_second.1 (Nat.le_of_ble_eq_true rfl) ?_
  show gG l Γ gm_X10_second (d, 0, 0, 0, 0) 0 [(0, .ref (gad (gSS ad) 145)), (1, .int (iv (f : Int))), (2, .int (iv (i : Int)))] [] _ _
  refine gg_aload_n dX10_second_0 0 rfl ?_
  refine gg_getR (k' := 173) rfl gf_RX10_23 dX10_second_1 sh_145 pl_145 (by decide) (by decide) rr_145_3 ?_
  refine gg_iload_n dX10_second_4 1 rfl ?_
  refine gg_aaldj (t := 6) f (k' := (174 + f)) dX10_second_5 sh_173 (by decide) pl_173 (by decide) rfl hf (rr_173 hf) ?_
  refine gg_iload_n dX10_second_6 2 rfl ?_
  refine gg_iconst dX10_second_7 ?_
  refine gg_iadd dX10_second_8 ?_
  refine gg_ialdj (i + 1) dX10_second_9 (rs_173 hf) (rl_173 hf) (by decide) (by omega) (by have := hW.1; omega) ?_
  refine gg_ireti dX10_second_10 rfl ⟨rfl, rfl⟩ ?_
  exact ⟨rfl, by have := (hM.2 (i + 1) hi).2.2; simp only [gPt]; omega⟩

set_option maxRecDepth 10000 in
theorem c_X10_third {l : Launch} {Γ : gC} {ad : Nat → Nat} {I : Nat → Nat → Int} {J : Nat → Nat → Int64} {d : Nat} {f n : Nat} {K : Nat → Nat} {N : Nat → Int64} {Z : Nat → Nat} (hf : f < 12) (hM : gMt I J f n K N Z) (hW : gWf n K N Z) {i : Nat} (hi : i + 1 < n) (hi2 : gPt Z i 1 < n) (hd : 1 ≤ d) : gKi l Γ gm_X10_third d [.ref (gad (gSS ad) 145), .int (iv (f : Int)), .int (iv (i : Int))] (gSS ad, I, J) (fun e μ => μ = (gSS ad, I, J) ∧ e = (gPt Z i 2 : Int)) := by
  refine gKi_of gk_X10_third.1 (Nat.le_of_ble_eq_true rfl) ?_
  show gG l Γ gm_X10_third (d, 0, 0, 0, 0) 0 [(0, .ref (gad (gSS ad) 145)), (1, .int (iv (f : Int))), (2, .int (iv (i : Int)))] [] _ _
  refine gg_aload_n dX10_third_0 0 rfl ?_
  refine gg_getR (k' := 173) rfl gf_RX10_23 dX10_third_1 sh_145 pl_145 (by decide) (by decide) rr_145_3 ?_
  refine gg_iload_n dX10_third_4 1 rfl ?_
  refine gg_aaldj (t := 6) f (k' := (174 + f)) dX10_third_5 sh_173 (by decide) pl_173 (by decide) rfl hf (rr_173 hf) ?_
  refine gg_aload_n dX10_third_6 0 rfl ?_
  refine gg_iload_n dX10_third_7 1 rfl ?_
  refine gg_iload_n dX10_third_8 2 rfl ?_
  refine gg_callVi (own := RX10) (yt := gm_X10_second) rfl gl_RX10_109 gk_X10_second gr_X10_second dX10_third_9 (c_X10_second (d := d - 1) hf hM hW hi) sh_145 pl_145 (by decide) rfl rfl rfl (Nat.le_of_ble_eq_true rfl) (by show _ ≤ d; omega) ⟨Nat.le_refl _, Nat.le_refl _⟩ (fun e1 μ' hc => ?_)
  obtain ⟨rfl, rfl⟩ := hc
  refine gg_ialdj (gPt Z i 1) dX10_third_12 (rs_173 hf) (rl_173 hf) (by decide) rfl (by have := hW.1; omega) ?_
  refine gg_ireti dX10_third_13 rfl ⟨rfl, rfl⟩ ?_
  exact ⟨rfl, by have := (hM.2 (gPt Z i 1) hi2).2.2; simp only [gPt] at this ⊢; omega⟩

set_option maxRecDepth 10000 in
theorem w_X10_power {l : Launch} {Γ : gC} {ad : Nat → Nat} {I : Nat → Nat → Int} {J : Nat → Nat → Int64} {d : Nat} {v : Int64} {m0 : Nat} (hm0 : m0 < 1000) : ∀ (m : Nat) (i : Nat), m0 - i < m → (i ≤ m0) → gG l Γ gm_X10_power (d, 0, 0, 0, 0) 5 [(5, .int (iv (i : Int))), (3, .long (gpow v i)), (0, .long v), (2, .int (iv (m0 : Int)))] [] (gSS ad, I, J) (gDl (fun e μ => μ = (gSS ad, I, J) ∧ e = gpow v m0)) := by
  intro m
  induction m with
  | zero => intros; omega
  | succ m ih =>
    intro i hm hi
    refine gg_iload dX10_power_5 0 rfl ?_
    refine gg_iload_n dX10_power_7 3 rfl ?_
    refine gg_icmp_ge (tgt := 21) dX10_power_8 (by decide) (by omega) (fun hb => ?_) (fun hb => ?_)
    · have he : i = m0 := by omega
      subst he
      refine gg_lload_n dX10_power_21 1 rfl ?_
      refine gg_lretl dX10_power_22 rfl ⟨rfl, rfl⟩ ?_
      exact ⟨rfl, rfl⟩
    · have hb2 : i < m0 := by omega
      refine gg_lload_n dX10_power_11 1 rfl ?_
      refine gg_lload_n dX10_power_12 2 rfl ?_
      refine gg_lmul dX10_power_13 ?_
      refine gg_toL (b := gpow v (i + 1)) rfl ?_
      refine gg_lstore_n (ls' := [(3, .long (gpow v (i + 1))), (5, .int (iv (i : Int))), (0, .long v), (2, .int (iv (m0 : Int)))]) dX10_power_14 rfl (by decide) rfl ?_
      refine gg_iincv (ls' := [(5, .int (iv ((i + 1 : Nat) : Int))), (3, .long (gpow v (i + 1))), (0, .long v), (2, .int (iv (m0 : Int)))]) dX10_power_15 1 rfl (by omega) (by decide) rfl ?_
      refine gg_goto (tgt := 5) dX10_power_18 (by decide) ?_
      exact ih (i + 1) (by omega) (by omega)

set_option maxRecDepth 10000 in
theorem c_X10_power {l : Launch} {Γ : gC} {ad : Nat → Nat} {I : Nat → Nat → Int} {J : Nat → Nat → Int64} {d : Nat} {v : Int64} {m0 : Nat} (hm0 : m0 < 1000) : gKl l Γ gm_X10_power d [.long v, .int (iv (m0 : Int))] (gSS ad, I, J) (fun e μ => μ = (gSS ad, I, J) ∧ e = gpow v m0) := by
  refine gKl_of gk_X10_power.1 (Nat.le_of_ble_eq_true rfl) ?_
  show gG l Γ gm_X10_power (d, 0, 0, 0, 0) 0 [(0, .long v), (2, .int (iv (m0 : Int)))] [] _ _
  refine gg_lconstv (x := 1) dX10_power_0 rfl ?_
  refine gg_lstore_n (ls' := [(3, .long 1), (0, .long v), (2, .int (iv (m0 : Int)))]) dX10_power_1 rfl (by decide) rfl ?_
  refine gg_iconst dX10_power_2 ?_
  refine gg_istore (ls' := [(5, .int (iv 0)), (3, .long 1), (0, .long v), (2, .int (iv (m0 : Int)))]) dX10_power_3 (by decide) rfl ?_
  refine gg_sub [0, 1, 2, 3] rfl ?_
  exact w_X10_power hm0 (m0 + 1) 0 (by omega) (by omega)

/-- which a node counts for of kind q, alone -/
def gOwn (q k : Nat) : Nat := (if k = q then 1 else 0) + (if k = 7 ∧ q = 4 then 1 else 0)
/-- how many of kind q are met from node j on, by what is met behind it -/
def gmF (K : Nat → Nat) (Z : Nat → Nat) (W : Nat → Int64) (q : Nat) (M : Nat → Nat) (j : Nat) : Nat :=
  gOwn q (K j) + (if gPar (K j) = 0 then 0 else if gPar (K j) = 1 then M (j + 1) else if gPar (K j) = 2 then M (j + 1) + M (gPt Z j 1) else M (j + 1) + (if W (j + 1) = 0 then M (gPt Z j 2) else M (gPt Z j 1)))
def gIsM (n : Nat) (K : Nat → Nat) (Z : Nat → Nat) (W : Nat → Int64) (q : Nat) (M : Nat → Nat) : Prop := ∀ j, j < n → M j = gmF K Z W q M j
theorem gmF_loc {K : Nat → Nat} {Z : Nat → Nat} {W : Nat → Int64} {q : Nat} {M M' : Nat → Nat} {j : Nat} (h : ∀ t, j < t → M t = M' t) : gmF K Z W q M j = gmF K Z W q M' j := by
  unfold gmF
  rw [h (j + 1) (by omega), h _ (gPt_gt Z j 1), h _ (gPt_gt Z j 2)]
/-- what is told of each node by those behind it can be told of all -/
theorem gfix_ex {α : Type} (x0 : α) (n : Nat) (F : (Nat → α) → Nat → α) (hF : ∀ g h i, (∀ t, i < t → g t = h t) → F g i = F h i) : ∃ W : Nat → α, ∀ j, j < n → W j = F W j := by
  have key : ∀ k, k ≤ n → ∃ W : Nat → α, ∀ j, n - k ≤ j → j < n → W j = F W j := by
    intro k
    induction k with
    | zero => exact fun _ => ⟨fun _ => x0, fun j h1 h2 => absurd h1 (by omega)⟩
    | succ k ih =>
      intro hk
      obtain ⟨W, hW⟩ := ih (by omega)
      refine ⟨fun t => if t = n - (k + 1) then F W t else W t, fun j h1 h2 => ?_⟩
      by_cases hj : j = n - (k + 1)
      · show (if j = n - (k + 1) then F W j else W j) = _
        rw [if_pos hj]
        exact hF _ _ _ (fun t ht => by show _ = (if t = n - (k + 1) then F W t else W t); rw [if_neg (by omega)])
      · show (if j = n - (k + 1) then F W j else W j) = _
        rw [if_neg hj, hW j (by omega) h2]
        exact hF _ _ _ (fun t ht => by show _ = (if t = n - (k + 1) then F W t else W t); rw [if_neg (by omega)])
  obtain ⟨W, hW⟩ := key n (Nat.le_refl _)
  exact ⟨W, fun j hj => hW j (by omega) hj⟩
theorem gIsW_ex (n : Nat) (K : Nat → Nat) (N : Nat → Int64) (Z : Nat → Nat) (v : Nat → Int) : ∃ W, gIsW n K N Z v W := gfix_ex 0 n (gwF K N Z v) (fun _ _ _ h => gwF_loc h)
theorem gIsM_ex (n : Nat) (K : Nat → Nat) (Z : Nat → Nat) (W : Nat → Int64) (q : Nat) : ∃ M, gIsM n K Z W q M := gfix_ex 0 n (gmF K Z W q) (fun _ _ _ h => gmF_loc h)
set_option maxRecDepth 10000 in
set_option maxHeartbeats 4000000 in
theorem r_X10_worthOf {l : Launch} {Γ : gC} {ad : Nat → Nat} {J : Nat → Nat → Int64} {f n : Nat} {K : Nat → Nat} {N : Nat → Int64} {Z : Nat → Nat} (hf : f < 12) (hW : gWf n K N Z) {v : Nat → Int} {W : Nat → Int64} (hWs : gIsW n K N Z v W) {M : Nat → Nat → Nat} (hMs : ∀ q, q < 8 → gIsM n K Z W q (M q)) : ∀ (m i : Nat), i < n → Z i ≤ m → ∀ d, m + 2 ≤ d → ∀ I0 : Nat → Nat → Int, gMt I0 J f n K N Z → (∀ q, I0 186 q = v q) → gKl l Γ gm_X10_worthOf d [.ref (gad (gSS ad) 145), .int (iv (f : Int)), .int (iv (i : Int))] (gSS ad, I0, J) (fun e μ => ∃ I', μ = (gSS ad, I', J) ∧ e = W i ∧ (∀ p, p ≠ 190 → I' p = I0 p) ∧ ∀ q, q < 8 → I' 190 q = I0 190 q + (M q i : Int)) := by
  intro m
  induction m with
  | zero => intro i hi hz; have := (hW.2.2 i hi).2.1; omega
  | succ m ih =>
    intro i hi hz d hd I0 hM0 hv
    obtain ⟨hK, hZ1, hZ2, he0, he1, he2, he3, hc1, hc2, hc3, hnm, hpw, hzz⟩ := hW.2.2 i hi
    have hn := hW.1
    refine gKl_of gk_X10_worthOf.1 (Nat.le_of_ble_eq_true rfl) ?_
    show gG l Γ gm_X10_worthOf (d, 0, 0, 0, 0) 0 [(0, .ref (gad (gSS ad) 145)), (1, .int (iv (f : Int))), (2, .int (iv (i : Int)))] [] _ _
    refine gg_iload_n dX10_worthOf_0 2 rfl ?_
    refine gg_iconst dX10_worthOf_1 ?_
    refine gg_iadd dX10_worthOf_2 ?_
    refine gg_toI (b := ((i + 1 : Nat) : Int)) (by omega) ?_
    refine gg_istore_n (ls' := [(3, .int (iv ((i + 1 : Nat) : Int))), (0, .ref (gad (gSS ad) 145)), (1, .int (iv (f : Int))), (2, .int (iv (i : Int)))]) dX10_worthOf_3 rfl (by decide) rfl ?_
    refine gg_aload_n dX10_worthOf_4 1 rfl ?_
    refine gg_getR (k' := 190) rfl gf_RX10_39 dX10_worthOf_5 sh_145 pl_145 (by decide) (by decide) rr_145_17 ?_
    refine gg_aload_n dX10_worthOf_8 1 rfl ?_
    refine gg_getR (k' := 147) rfl gf_RX10_15 dX10_worthOf_9 sh_145 pl_145 (by decide) (by decide) rr_145_1 ?_
    refine gg_iload_n dX10_worthOf_12 2 rfl ?_
    refine gg_aaldj (t := 6) f (k' := (148 + f)) dX10_worthOf_13 sh_147 (by decide) pl_147 (by decide) rfl hf (rr_147 hf) ?_
    refine gg_iload_n dX10_worthOf_14 3 rfl ?_
    refine gg_ialdj i dX10_worthOf_15 (rs_147 hf) (rl_147 hf) (by decide) rfl (by omega) ?_
    refine gg_toI (b := (K i : Int)) (hM0.2 i hi).1 ?_
    refine gg_dup2 dX10_worthOf_16 rfl rfl ?_
    refine gg_ialdj (K i) dX10_worthOf_17 sh_190 pl_190 (by decide) rfl hK ?_
    refine gg_iconst dX10_worthOf_18 ?_
    refine gg_iadd dX10_worthOf_19 ?_
    refine gg_iastj (K i) dX10_worthOf_20 sh_190 pl_190 (by decide) rfl hK ?_
    refine gg_memI (fun I1 hI1 => ?_)
    have hI1' : ∀ p, p ≠ 190 → I1 p = I0 p := fun p hp => by rw [hI1]; exact gu_other hp
    have hM1 : gMt I1 J f n K N Z := gMt_I rfl hf hM0 hI1'
    have hvI1 : ∀ q, I1 186 q = v q := fun q => by rw [hI1' 186 (by omega)]; exact hv q
    have hq1 : ∀ q, I1 190 q = I0 190 q + (if q = K i then 1 else 0) := fun q => by
      rw [hI1]
      by_cases h : q = K i <;> simp [gu, h]
    clear hI1
    refine gg_aload_n dX10_worthOf_21 1 rfl ?_
    refine gg_getR (k' := 147) rfl gf_RX10_15 dX10_worthOf_22 sh_145 pl_145 (by decide) (by decide) rr_145_1 ?_
    refine gg_iload_n dX10_worthOf_25 2 rfl ?_
    refine gg_aaldj (t := 6) f (k' := (148 + f)) dX10_worthOf_26 sh_147 (by decide) pl_147 (by decide) rfl hf (rr_147 hf) ?_
    refine gg_iload_n dX10_worthOf_27 3 rfl ?_
    refine gg_ialdj i dX10_worthOf_28 (rs_147 hf) (rl_147 hf) (by decide) rfl (by omega) ?_
    refine gg_toI (b := (K i : Int)) (hM1.2 i hi).1 ?_
    obtain hk | hk | hk | hk | hk | hk | hk | hk := (by omega : K i = 0 ∨ K i = 1 ∨ K i = 2 ∨ K i = 3 ∨ K i = 4 ∨ K i = 5 ∨ K i = 6 ∨ K i = 7)
    · refine gg_toI (b := 0) (by omega) ?_
      refine gg_tsw (off := 43) (tgt := 72) dX10_worthOf_29 (by decide) (by decide) rfl (by decide) ?_
      refine gg_aload_n dX10_worthOf_72 1 rfl ?_
      refine gg_getR (k' := 160) rfl gf_RX10_20 dX10_worthOf_73 sh_145 pl_145 (by decide) (by decide) rr_145_2 ?_
      refine gg_iload_n dX10_worthOf_76 2 rfl ?_
      refine gg_aaldj (t := 7) f (k' := (161 + f)) dX10_worthOf_77 sh_160 (by decide) pl_160 (by decide) rfl hf (rr_160 hf) ?_
      refine gg_iload_n dX10_worthOf_78 3 rfl ?_
      refine gg_laldj i dX10_worthOf_79 (rs_160 hf) (rl_160 hf) (by decide) rfl (by omega) ?_
      refine gg_toL (b := N i) (hM1.2 i hi).2.1 ?_
      refine gg_lretl dX10_worthOf_80 rfl ⟨rfl, rfl⟩ ?_
      refine ⟨I1, rfl, ?_, ?_, ?_⟩
      · rw [hWs i hi]
        simp_all [gwF, gnum_of, gpow]
      · intro p hp
        simp_all
      · intro q hq
        rw [hMs q hq i hi]
        clear hWs hMs ih
        have hqv : q = 0 ∨ q = 1 ∨ q = 2 ∨ q = 3 ∨ q = 4 ∨ q = 5 ∨ q = 6 ∨ q = 7 := by omega
        rcases hqv with rfl | rfl | rfl | rfl | rfl | rfl | rfl | rfl <;> simp_all [gmF, gPar, gOwn] <;> omega
    · refine gg_toI (b := 1) (by omega) ?_
      refine gg_tsw (off := 52) (tgt := 81) dX10_worthOf_29 (by decide) (by decide) rfl (by decide) ?_
      refine gg_aload_n dX10_worthOf_81 1 rfl ?_
      refine gg_getR (k' := 186) rfl gf_RX10_26 dX10_worthOf_82 sh_145 pl_145 (by decide) (by decide) rr_145_4 ?_
      refine gg_aload_n dX10_worthOf_85 1 rfl ?_
      refine gg_getR (k' := 160) rfl gf_RX10_20 dX10_worthOf_86 sh_145 pl_145 (by decide) (by decide) rr_145_2 ?_
      refine gg_iload_n dX10_worthOf_89 2 rfl ?_
      refine gg_aaldj (t := 7) f (k' := (161 + f)) dX10_worthOf_90 sh_160 (by decide) pl_160 (by decide) rfl hf (rr_160 hf) ?_
      refine gg_iload_n dX10_worthOf_91 3 rfl ?_
      refine gg_laldj i dX10_worthOf_92 (rs_160 hf) (rl_160 hf) (by decide) rfl (by omega) ?_
      refine gg_toL (b := N i) (hM1.2 i hi).2.1 ?_
      obtain ⟨m0, hm0, hNm⟩ := hnm hk
      rw [hNm]
      have hgn : gnum (Int64.ofNat m0) = m0 := gnum_of (by omega)
      refine gg_l2i dX10_worthOf_93 ?_
      refine gg_ialdj m0 dX10_worthOf_94 sh_186 pl_186 (by decide) (gl2i_nat (by omega)) hm0 ?_
      refine gg_toI (b := v m0) (by have := congrFun (hI1' 186 (by omega)) m0; rw [this]; exact hv m0) ?_
      refine gg_i2l dX10_worthOf_95 ?_
      refine gg_lretl dX10_worthOf_96 rfl ⟨rfl, rfl⟩ ?_
      refine ⟨I1, rfl, ?_, ?_, ?_⟩
      · rw [hWs i hi]
        simp_all [gwF, gnum_of, gpow]
      · intro p hp
        simp_all
      · intro q hq
        rw [hMs q hq i hi]
        clear hWs hMs ih
        have hqv : q = 0 ∨ q = 1 ∨ q = 2 ∨ q = 3 ∨ q = 4 ∨ q = 5 ∨ q = 6 ∨ q = 7 := by omega
        rcases hqv with rfl | rfl | rfl | rfl | rfl | rfl | rfl | rfl <;> simp_all [gmF, gPar, gOwn] <;> omega
    · refine gg_toI (b := 2) (by omega) ?_
      refine gg_tsw (off := 68) (tgt := 97) dX10_worthOf_29 (by decide) (by decide) rfl (by decide) ?_
      refine gg_aload_n dX10_worthOf_97 1 rfl ?_
      refine gg_iload_n dX10_worthOf_98 2 rfl ?_
      refine gg_iload_n dX10_worthOf_99 0 rfl ?_
      refine gg_callVl (own := RX10) (yt := gm_X10_worthOf) rfl gl_RX10_243 gk_X10_worthOf gr_X10_worthOf dX10_worthOf_100 (ih (i + 1) (hc1 (by rw [hk]; decide)) (by have := he1 (by rw [hk]; decide); omega) (d - 1) (by omega) I1 hM1 hvI1) sh_145 pl_145 (by decide) rfl rfl rfl (Nat.le_of_ble_eq_true rfl) (by show _ ≤ d; omega) ⟨Nat.le_refl _, Nat.le_refl _⟩ (fun e4 μ' hc => ?_)
      obtain ⟨I3, rfl, rfl, hI3, hq3⟩ := hc
      have hM3 : gMt I3 J f n K N Z := gMt_I rfl hf hM1 hI3
      have hvI3 : ∀ q, I3 186 q = v q := fun q => by rw [hI3 186 (by omega)]; exact hvI1 q
      refine gg_lneg dX10_worthOf_103 ?_
      refine gg_lretl dX10_worthOf_104 rfl ⟨rfl, rfl⟩ ?_
      refine ⟨I3, rfl, ?_, ?_, ?_⟩
      · rw [hWs i hi]
        simp_all [gwF, gnum_of, gpow]
      · intro p hp
        simp_all
      · intro q hq
        rw [hMs q hq i hi]
        clear hWs hMs ih
        have hqv : q = 0 ∨ q = 1 ∨ q = 2 ∨ q = 3 ∨ q = 4 ∨ q = 5 ∨ q = 6 ∨ q = 7 := by omega
        rcases hqv with rfl | rfl | rfl | rfl | rfl | rfl | rfl | rfl <;> simp_all [gmF, gPar, gOwn] <;> omega
    · refine gg_toI (b := 3) (by omega) ?_
      refine gg_tsw (off := 76) (tgt := 105) dX10_worthOf_29 (by decide) (by decide) rfl (by decide) ?_
      refine gg_aload_n dX10_worthOf_105 1 rfl ?_
      refine gg_iload_n dX10_worthOf_106 2 rfl ?_
      refine gg_iload_n dX10_worthOf_107 0 rfl ?_
      refine gg_callVl (own := RX10) (yt := gm_X10_worthOf) rfl gl_RX10_243 gk_X10_worthOf gr_X10_worthOf dX10_worthOf_108 (ih (i + 1) (hc1 (by rw [hk]; decide)) (by have := he2 (by rw [hk]; decide); omega) (d - 1) (by omega) I1 hM1 hvI1) sh_145 pl_145 (by decide) rfl rfl rfl (Nat.le_of_ble_eq_true rfl) (by show _ ≤ d; omega) ⟨Nat.le_refl _, Nat.le_refl _⟩ (fun e6 μ' hc => ?_)
      obtain ⟨I5, rfl, rfl, hI5, hq5⟩ := hc
      have hM5 : gMt I5 J f n K N Z := gMt_I rfl hf hM1 hI5
      have hvI5 : ∀ q, I5 186 q = v q := fun q => by rw [hI5 186 (by omega)]; exact hvI1 q
      refine gg_aload_n dX10_worthOf_111 1 rfl ?_
      refine gg_iload_n dX10_worthOf_112 2 rfl ?_
      refine gg_aload_n dX10_worthOf_113 1 rfl ?_
      refine gg_iload_n dX10_worthOf_114 2 rfl ?_
      refine gg_iload_n dX10_worthOf_115 3 rfl ?_
      refine gg_callVi (own := RX10) (yt := gm_X10_second) rfl gl_RX10_109 gk_X10_second gr_X10_second dX10_worthOf_116 (c_X10_second (d := d - 1) hf hM5 hW (i := i) (hc1 (by rw [hk]; decide))) sh_145 pl_145 (by decide) rfl rfl rfl (Nat.le_of_ble_eq_true rfl) (by show _ ≤ d; omega) ⟨Nat.le_refl _, Nat.le_refl _⟩ (fun e7 μ' hc => ?_)
      obtain ⟨rfl, rfl⟩ := hc
      refine gg_callVl (own := RX10) (yt := gm_X10_worthOf) rfl gl_RX10_243 gk_X10_worthOf gr_X10_worthOf dX10_worthOf_119 (ih (gPt Z i 1) (hc2 (by rw [hk]; decide)) (by have := he2 (by rw [hk]; decide); omega) (d - 1) (by omega) I5 hM5 hvI5) sh_145 pl_145 (by decide) rfl rfl rfl (Nat.le_of_ble_eq_true rfl) (by show _ ≤ d; omega) ⟨Nat.le_refl _, Nat.le_refl _⟩ (fun e9 μ' hc => ?_)
      obtain ⟨I8, rfl, rfl, hI8, hq8⟩ := hc
      have hM8 : gMt I8 J f n K N Z := gMt_I rfl hf hM5 hI8
      have hvI8 : ∀ q, I8 186 q = v q := fun q => by rw [hI8 186 (by omega)]; exact hvI5 q
      refine gg_ladd dX10_worthOf_122 ?_
      refine gg_lretl dX10_worthOf_123 rfl ⟨rfl, rfl⟩ ?_
      refine ⟨I8, rfl, ?_, ?_, ?_⟩
      · rw [hWs i hi]
        simp_all [gwF, gnum_of, gpow]
      · intro p hp
        simp_all
      · intro q hq
        rw [hMs q hq i hi]
        clear hWs hMs ih
        have hqv : q = 0 ∨ q = 1 ∨ q = 2 ∨ q = 3 ∨ q = 4 ∨ q = 5 ∨ q = 6 ∨ q = 7 := by omega
        rcases hqv with rfl | rfl | rfl | rfl | rfl | rfl | rfl | rfl <;> simp_all [gmF, gPar, gOwn] <;> omega
    · refine gg_toI (b := 4) (by omega) ?_
      refine gg_tsw (off := 95) (tgt := 124) dX10_worthOf_29 (by decide) (by decide) rfl (by decide) ?_
      refine gg_aload_n dX10_worthOf_124 1 rfl ?_
      refine gg_iload_n dX10_worthOf_125 2 rfl ?_
      refine gg_iload_n dX10_worthOf_126 0 rfl ?_
      refine gg_callVl (own := RX10) (yt := gm_X10_worthOf) rfl gl_RX10_243 gk_X10_worthOf gr_X10_worthOf dX10_worthOf_127 (ih (i + 1) (hc1 (by rw [hk]; decide)) (by have := he2 (by rw [hk]; decide); omega) (d - 1) (by omega) I1 hM1 hvI1) sh_145 pl_145 (by decide) rfl rfl rfl (Nat.le_of_ble_eq_true rfl) (by show _ ≤ d; omega) ⟨Nat.le_refl _, Nat.le_refl _⟩ (fun e11 μ' hc => ?_)
      obtain ⟨I10, rfl, rfl, hI10, hq10⟩ := hc
      have hM10 : gMt I10 J f n K N Z := gMt_I rfl hf hM1 hI10
      have hvI10 : ∀ q, I10 186 q = v q := fun q => by rw [hI10 186 (by omega)]; exact hvI1 q
      refine gg_aload_n dX10_worthOf_130 1 rfl ?_
      refine gg_iload_n dX10_worthOf_131 2 rfl ?_
      refine gg_aload_n dX10_worthOf_132 1 rfl ?_
      refine gg_iload_n dX10_worthOf_133 2 rfl ?_
      refine gg_iload_n dX10_worthOf_134 3 rfl ?_
      refine gg_callVi (own := RX10) (yt := gm_X10_second) rfl gl_RX10_109 gk_X10_second gr_X10_second dX10_worthOf_135 (c_X10_second (d := d - 1) hf hM10 hW (i := i) (hc1 (by rw [hk]; decide))) sh_145 pl_145 (by decide) rfl rfl rfl (Nat.le_of_ble_eq_true rfl) (by show _ ≤ d; omega) ⟨Nat.le_refl _, Nat.le_refl _⟩ (fun e12 μ' hc => ?_)
      obtain ⟨rfl, rfl⟩ := hc
      refine gg_callVl (own := RX10) (yt := gm_X10_worthOf) rfl gl_RX10_243 gk_X10_worthOf gr_X10_worthOf dX10_worthOf_138 (ih (gPt Z i 1) (hc2 (by rw [hk]; decide)) (by have := he2 (by rw [hk]; decide); omega) (d - 1) (by omega) I10 hM10 hvI10) sh_145 pl_145 (by decide) rfl rfl rfl (Nat.le_of_ble_eq_true rfl) (by show _ ≤ d; omega) ⟨Nat.le_refl _, Nat.le_refl _⟩ (fun e14 μ' hc => ?_)
      obtain ⟨I13, rfl, rfl, hI13, hq13⟩ := hc
      have hM13 : gMt I13 J f n K N Z := gMt_I rfl hf hM10 hI13
      have hvI13 : ∀ q, I13 186 q = v q := fun q => by rw [hI13 186 (by omega)]; exact hvI10 q
      refine gg_lmul dX10_worthOf_141 ?_
      refine gg_lretl dX10_worthOf_142 rfl ⟨rfl, rfl⟩ ?_
      refine ⟨I13, rfl, ?_, ?_, ?_⟩
      · rw [hWs i hi]
        simp_all [gwF, gnum_of, gpow]
      · intro p hp
        simp_all
      · intro q hq
        rw [hMs q hq i hi]
        clear hWs hMs ih
        have hqv : q = 0 ∨ q = 1 ∨ q = 2 ∨ q = 3 ∨ q = 4 ∨ q = 5 ∨ q = 6 ∨ q = 7 := by omega
        rcases hqv with rfl | rfl | rfl | rfl | rfl | rfl | rfl | rfl <;> simp_all [gmF, gPar, gOwn] <;> omega
    · refine gg_toI (b := 5) (by omega) ?_
      refine gg_tsw (off := 114) (tgt := 143) dX10_worthOf_29 (by decide) (by decide) rfl (by decide) ?_
      refine gg_aload_n dX10_worthOf_143 1 rfl ?_
      refine gg_iload_n dX10_worthOf_144 2 rfl ?_
      refine gg_iload_n dX10_worthOf_145 0 rfl ?_
      refine gg_callVl (own := RX10) (yt := gm_X10_worthOf) rfl gl_RX10_243 gk_X10_worthOf gr_X10_worthOf dX10_worthOf_146 (ih (i + 1) (hc1 (by rw [hk]; decide)) (by have := he1 (by rw [hk]; decide); omega) (d - 1) (by omega) I1 hM1 hvI1) sh_145 pl_145 (by decide) rfl rfl rfl (Nat.le_of_ble_eq_true rfl) (by show _ ≤ d; omega) ⟨Nat.le_refl _, Nat.le_refl _⟩ (fun e16 μ' hc => ?_)
      obtain ⟨I15, rfl, rfl, hI15, hq15⟩ := hc
      have hM15 : gMt I15 J f n K N Z := gMt_I rfl hf hM1 hI15
      have hvI15 : ∀ q, I15 186 q = v q := fun q => by rw [hI15 186 (by omega)]; exact hvI1 q
      refine gg_aload_n dX10_worthOf_149 1 rfl ?_
      refine gg_getR (k' := 160) rfl gf_RX10_20 dX10_worthOf_150 sh_145 pl_145 (by decide) (by decide) rr_145_2 ?_
      refine gg_iload_n dX10_worthOf_153 2 rfl ?_
      refine gg_aaldj (t := 7) f (k' := (161 + f)) dX10_worthOf_154 sh_160 (by decide) pl_160 (by decide) rfl hf (rr_160 hf) ?_
      refine gg_iload_n dX10_worthOf_155 3 rfl ?_
      refine gg_laldj i dX10_worthOf_156 (rs_160 hf) (rl_160 hf) (by decide) rfl (by omega) ?_
      refine gg_toL (b := N i) (hM15.2 i hi).2.1 ?_
      obtain ⟨m0, hm0, hNm⟩ := hpw hk
      rw [hNm]
      have hgn : gnum (Int64.ofNat m0) = m0 := gnum_of (by omega)
      refine gg_l2i dX10_worthOf_157 ?_
      refine gg_toI (b := (m0 : Int)) (gl2i_nat (by omega)) ?_
      refine gg_callSl (own := RX10) (yt := gm_X10_power) rfl gl_RX10_218 gk_X10_power gr_X10_power dX10_worthOf_158 (c_X10_power (d := d - 1) (m0 := m0) (by omega)) rfl rfl (Nat.le_of_ble_eq_true rfl) (by show _ ≤ d; omega) ⟨Nat.le_refl _, Nat.le_refl _⟩ (fun e17 μ' hc => ?_)
      obtain ⟨rfl, rfl⟩ := hc
      refine gg_lretl dX10_worthOf_161 rfl ⟨rfl, rfl⟩ ?_
      refine ⟨I15, rfl, ?_, ?_, ?_⟩
      · rw [hWs i hi]
        simp_all [gwF, gnum_of, gpow]
      · intro p hp
        simp_all
      · intro q hq
        rw [hMs q hq i hi]
        clear hWs hMs ih
        have hqv : q = 0 ∨ q = 1 ∨ q = 2 ∨ q = 3 ∨ q = 4 ∨ q = 5 ∨ q = 6 ∨ q = 7 := by omega
        rcases hqv with rfl | rfl | rfl | rfl | rfl | rfl | rfl | rfl <;> simp_all [gmF, gPar, gOwn] <;> omega
    · refine gg_toI (b := 6) (by omega) ?_
      refine gg_tsw (off := 133) (tgt := 162) dX10_worthOf_29 (by decide) (by decide) rfl (by decide) ?_
      refine gg_aload_n dX10_worthOf_162 1 rfl ?_
      refine gg_iload_n dX10_worthOf_163 2 rfl ?_
      refine gg_aload_n dX10_worthOf_164 1 rfl ?_
      refine gg_iload_n dX10_worthOf_165 2 rfl ?_
      refine gg_iload_n dX10_worthOf_166 0 rfl ?_
      refine gg_callVl (own := RX10) (yt := gm_X10_worthOf) rfl gl_RX10_243 gk_X10_worthOf gr_X10_worthOf dX10_worthOf_167 (ih (i + 1) (hc1 (by rw [hk]; decide)) (by have := he3 (by rw [hk]; decide); omega) (d - 1) (by omega) I1 hM1 hvI1) sh_145 pl_145 (by decide) rfl rfl rfl (Nat.le_of_ble_eq_true rfl) (by show _ ≤ d; omega) ⟨Nat.le_refl _, Nat.le_refl _⟩ (fun e19 μ' hc => ?_)
      obtain ⟨I18, rfl, rfl, hI18, hq18⟩ := hc
      have hM18 : gMt I18 J f n K N Z := gMt_I rfl hf hM1 hI18
      have hvI18 : ∀ q, I18 186 q = v q := fun q => by rw [hI18 186 (by omega)]; exact hvI1 q
      refine gg_lconstv (x := 0) dX10_worthOf_170 rfl ?_
      refine gg_lcmp_eq (tgt := 184) dX10_worthOf_171 dX10_worthOf_172 (by decide) (fun hz => ?_) (fun hz => ?_)
      · refine gg_aload_n dX10_worthOf_184 1 rfl ?_
        refine gg_iload_n dX10_worthOf_185 2 rfl ?_
        refine gg_iload_n dX10_worthOf_186 3 rfl ?_
        refine gg_callVi (own := RX10) (yt := gm_X10_third) rfl gl_RX10_233 gk_X10_third gr_X10_third dX10_worthOf_187 (c_X10_third (d := d - 1) hf hM18 hW (i := i) (hc1 (by rw [hk]; decide)) (hc2 (by rw [hk]; decide)) (by omega)) sh_145 pl_145 (by decide) rfl rfl rfl (Nat.le_of_ble_eq_true rfl) (by show _ ≤ d; omega) ⟨Nat.le_refl _, Nat.le_refl _⟩ (fun e20 μ' hc => ?_)
        obtain ⟨rfl, rfl⟩ := hc
        refine gg_callVl (own := RX10) (yt := gm_X10_worthOf) rfl gl_RX10_243 gk_X10_worthOf gr_X10_worthOf dX10_worthOf_190 (ih (gPt Z i 2) (hc3 (by rw [hk]; decide)) (by have := he3 (by rw [hk]; decide); omega) (d - 1) (by omega) I18 hM18 hvI18) sh_145 pl_145 (by decide) rfl rfl rfl (Nat.le_of_ble_eq_true rfl) (by show _ ≤ d; omega) ⟨Nat.le_refl _, Nat.le_refl _⟩ (fun e22 μ' hc => ?_)
        obtain ⟨I21, rfl, rfl, hI21, hq21⟩ := hc
        have hM21 : gMt I21 J f n K N Z := gMt_I rfl hf hM18 hI21
        have hvI21 : ∀ q, I21 186 q = v q := fun q => by rw [hI21 186 (by omega)]; exact hvI18 q
        refine gg_lretl dX10_worthOf_193 rfl ⟨rfl, rfl⟩ ?_
        refine ⟨I21, rfl, ?_, ?_, ?_⟩
        · rw [hWs i hi]
          simp_all [gwF, gnum_of, gpow]
        · intro p hp
          simp_all
        · intro q hq
          rw [hMs q hq i hi]
          clear hWs hMs ih
          have hqv : q = 0 ∨ q = 1 ∨ q = 2 ∨ q = 3 ∨ q = 4 ∨ q = 5 ∨ q = 6 ∨ q = 7 := by omega
          rcases hqv with rfl | rfl | rfl | rfl | rfl | rfl | rfl | rfl <;> simp_all [gmF, gPar, gOwn] <;> omega
      · refine gg_aload_n dX10_worthOf_175 1 rfl ?_
        refine gg_iload_n dX10_worthOf_176 2 rfl ?_
        refine gg_iload_n dX10_worthOf_177 3 rfl ?_
        refine gg_callVi (own := RX10) (yt := gm_X10_second) rfl gl_RX10_109 gk_X10_second gr_X10_second dX10_worthOf_178 (c_X10_second (d := d - 1) hf hM18 hW (i := i) (hc1 (by rw [hk]; decide))) sh_145 pl_145 (by decide) rfl rfl rfl (Nat.le_of_ble_eq_true rfl) (by show _ ≤ d; omega) ⟨Nat.le_refl _, Nat.le_refl _⟩ (fun e23 μ' hc => ?_)
        obtain ⟨rfl, rfl⟩ := hc
        refine gg_goto (tgt := 190) dX10_worthOf_181 (by decide) ?_
        refine gg_callVl (own := RX10) (yt := gm_X10_worthOf) rfl gl_RX10_243 gk_X10_worthOf gr_X10_worthOf dX10_worthOf_190 (ih (gPt Z i 1) (hc2 (by rw [hk]; decide)) (by have := he3 (by rw [hk]; decide); omega) (d - 1) (by omega) I18 hM18 hvI18) sh_145 pl_145 (by decide) rfl rfl rfl (Nat.le_of_ble_eq_true rfl) (by show _ ≤ d; omega) ⟨Nat.le_refl _, Nat.le_refl _⟩ (fun e25 μ' hc => ?_)
        obtain ⟨I24, rfl, rfl, hI24, hq24⟩ := hc
        have hM24 : gMt I24 J f n K N Z := gMt_I rfl hf hM18 hI24
        have hvI24 : ∀ q, I24 186 q = v q := fun q => by rw [hI24 186 (by omega)]; exact hvI18 q
        refine gg_lretl dX10_worthOf_193 rfl ⟨rfl, rfl⟩ ?_
        refine ⟨I24, rfl, ?_, ?_, ?_⟩
        · rw [hWs i hi]
          simp_all [gwF, gnum_of, gpow]
        · intro p hp
          simp_all
        · intro q hq
          rw [hMs q hq i hi]
          clear hWs hMs ih
          have hqv : q = 0 ∨ q = 1 ∨ q = 2 ∨ q = 3 ∨ q = 4 ∨ q = 5 ∨ q = 6 ∨ q = 7 := by omega
          rcases hqv with rfl | rfl | rfl | rfl | rfl | rfl | rfl | rfl <;> simp_all [gmF, gPar, gOwn] <;> omega
    · refine gg_toI (b := 7) (by omega) ?_
      refine gg_tsw_out (tgt := 194) dX10_worthOf_29 (by decide) (by decide) (by decide) ?_
      refine gg_aload_n dX10_worthOf_194 1 rfl ?_
      refine gg_getR (k' := 190) rfl gf_RX10_39 dX10_worthOf_195 sh_145 pl_145 (by decide) (by decide) rr_145_17 ?_
      refine gg_iconst dX10_worthOf_198 ?_
      refine gg_dup2 dX10_worthOf_199 rfl rfl ?_
      refine gg_ialdj 4 dX10_worthOf_200 sh_190 pl_190 (by decide) rfl (by omega) ?_
      refine gg_iconst dX10_worthOf_201 ?_
      refine gg_iadd dX10_worthOf_202 ?_
      refine gg_iastj 4 dX10_worthOf_203 sh_190 pl_190 (by decide) rfl (by omega) ?_
      refine gg_memI (fun I2 hI2 => ?_)
      have hI2' : ∀ p, p ≠ 190 → I2 p = I1 p := fun p hp => by rw [hI2]; exact gu_other hp
      have hM2 : gMt I2 J f n K N Z := gMt_I rfl hf hM1 hI2'
      have hvI2 : ∀ q, I2 186 q = v q := fun q => by rw [hI2' 186 (by omega)]; exact hvI1 q
      have hq2 : ∀ q, I2 190 q = I1 190 q + (if q = 4 then 1 else 0) := fun q => by
        rw [hI2]
        by_cases h : q = 4 <;> simp [gu, h]
      clear hI2
      refine gg_aload_n dX10_worthOf_204 1 rfl ?_
      refine gg_iload_n dX10_worthOf_205 2 rfl ?_
      refine gg_iload_n dX10_worthOf_206 0 rfl ?_
      refine gg_callVl (own := RX10) (yt := gm_X10_worthOf) rfl gl_RX10_243 gk_X10_worthOf gr_X10_worthOf dX10_worthOf_207 (ih (i + 1) (hc1 (by rw [hk]; decide)) (by have := he1 (by rw [hk]; decide); omega) (d - 1) (by omega) I2 hM2 hvI2) sh_145 pl_145 (by decide) rfl rfl rfl (Nat.le_of_ble_eq_true rfl) (by show _ ≤ d; omega) ⟨Nat.le_refl _, Nat.le_refl _⟩ (fun e27 μ' hc => ?_)
      obtain ⟨I26, rfl, rfl, hI26, hq26⟩ := hc
      have hM26 : gMt I26 J f n K N Z := gMt_I rfl hf hM2 hI26
      have hvI26 : ∀ q, I26 186 q = v q := fun q => by rw [hI26 186 (by omega)]; exact hvI2 q
      refine gg_iconst dX10_worthOf_210 ?_
      refine gg_callSl (own := RX10) (yt := gm_X10_power) rfl gl_RX10_218 gk_X10_power gr_X10_power dX10_worthOf_211 (c_X10_power (d := d - 1) (m0 := 2) (by omega)) rfl rfl (Nat.le_of_ble_eq_true rfl) (by show _ ≤ d; omega) ⟨Nat.le_refl _, Nat.le_refl _⟩ (fun e28 μ' hc => ?_)
      obtain ⟨rfl, rfl⟩ := hc
      refine gg_lretl dX10_worthOf_214 rfl ⟨rfl, rfl⟩ ?_
      refine ⟨I26, rfl, ?_, ?_, ?_⟩
      · rw [hWs i hi]
        simp_all [gwF, gnum_of, gpow]
      · intro p hp
        simp_all
      · intro q hq
        rw [hMs q hq i hi]
        clear hWs hMs ih
        have hqv : q = 0 ∨ q = 1 ∨ q = 2 ∨ q = 3 ∨ q = 4 ∨ q = 5 ∨ q = 6 ∨ q = 7 := by omega
        rcases hqv with rfl | rfl | rfl | rfl | rfl | rfl | rfl | rfl <;> simp_all [gmF, gPar, gOwn] <;> omega

