/-! the common divisor; chance on both sides -/
set_option maxRecDepth 10000 in
theorem w_X9_commonDivisor {l : Launch} {Γ : gC} {ad : Nat → Nat} {I : Nat → Nat → Int} {J : Nat → Nat → Int64} {d : Nat} {a b c : Nat} : ∀ (m : Nat) (s g r : Nat), r < m → (r + s ≤ 20) → (g ≤ 20) → (Nat.gcd g r = c) → gG l Γ gm_X9_commonDivisor (d, 0, 0, 0, 0) 7 [(4, .int (iv (s : Int))), (3, .int (iv (r : Int))), (2, .int (iv (g : Int))), (0, .int (iv (a : Int))), (1, .int (iv (b : Int)))] [] (gSS ad, I, J) (gDi (fun e μ => μ = (gSS ad, I, J) ∧ e = (c : Int))) := by
  intro m
  induction m with
  | zero => intros; omega
  | succ m ih =>
    intro s g r hm hr hg hc
    refine gg_iload dX9_commonDivisor_7 0 rfl ?_
    refine gg_bipush dX9_commonDivisor_9 (by decide) ?_
    refine gg_icmp_ge_f (tgt := 34) dX9_commonDivisor_11 (by decide) (by omega) (by omega) ?_
    refine gg_iload_n dX9_commonDivisor_14 1 rfl ?_
    refine gg_if_eq (tgt := 34) dX9_commonDivisor_15 (by decide) (by omega) (fun hx => ?_) (fun hx => ?_)
    · have hr0 : r = 0 := by omega
      subst hr0
      refine gg_iload_n dX9_commonDivisor_34 2 rfl ?_
      refine gg_ireti dX9_commonDivisor_35 rfl ⟨rfl, rfl⟩ ?_
      refine ⟨rfl, ?_⟩
      rw [← hc, Nat.gcd_zero_right]
    · have hr0 : 0 < r := by omega
      have hlt := Nat.mod_lt g hr0
      have hgc : Nat.gcd r (g % r) = c := by rw [← hc, Nat.gcd_comm g r, Nat.gcd_rec r g, Nat.gcd_comm]
      refine gg_iload_n dX9_commonDivisor_18 2 rfl ?_
      refine gg_iload_n dX9_commonDivisor_19 1 rfl ?_
      refine gg_irem dX9_commonDivisor_20 (by omega) ?_
      refine gg_toI (b := ((g % r : Nat) : Int)) rfl ?_
      refine gg_istore (ls' := [(5, .int (iv ((g % r : Nat) : Int))), (4, .int (iv (s : Int))), (3, .int (iv (r : Int))), (2, .int (iv (g : Int))), (0, .int (iv (a : Int))), (1, .int (iv (b : Int)))]) dX9_commonDivisor_21 (by decide) rfl ?_
      refine gg_iload_n dX9_commonDivisor_23 2 rfl ?_
      refine gg_istore_n (ls' := [(2, .int (iv (r : Int))), (5, .int (iv ((g % r : Nat) : Int))), (4, .int (iv (s : Int))), (3, .int (iv (r : Int))), (0, .int (iv (a : Int))), (1, .int (iv (b : Int)))]) dX9_commonDivisor_24 rfl (by decide) rfl ?_
      refine gg_iload dX9_commonDivisor_25 1 rfl ?_
      refine gg_istore_n (ls' := [(3, .int (iv ((g % r : Nat) : Int))), (2, .int (iv (r : Int))), (5, .int (iv ((g % r : Nat) : Int))), (4, .int (iv (s : Int))), (0, .int (iv (a : Int))), (1, .int (iv (b : Int)))]) dX9_commonDivisor_27 rfl (by decide) rfl ?_
      refine gg_iincv (ls' := [(4, .int (iv ((s + 1 : Nat) : Int))), (3, .int (iv ((g % r : Nat) : Int))), (2, .int (iv (r : Int))), (5, .int (iv ((g % r : Nat) : Int))), (0, .int (iv (a : Int))), (1, .int (iv (b : Int)))]) dX9_commonDivisor_28 3 rfl (by omega) (by decide) rfl ?_
      refine gg_goto (tgt := 7) dX9_commonDivisor_31 (by decide) ?_
      refine gg_sub [0, 1, 2, 4, 5] rfl ?_
      exact ih (s + 1) r (g % r) (by omega) (by omega) (by omega) hgc

set_option maxRecDepth 10000 in
theorem c_X9_commonDivisor {l : Launch} {Γ : gC} {ad : Nat → Nat} {I : Nat → Nat → Int} {J : Nat → Nat → Int64} {d : Nat} {a b : Nat} (ha : a ≤ 20) (hb : b ≤ 20) : gKi l Γ gm_X9_commonDivisor d [.int (iv (a : Int)), .int (iv (b : Int))] (gSS ad, I, J) (fun e μ => μ = (gSS ad, I, J) ∧ e = (Nat.gcd a b : Int)) := by
  refine gKi_of gk_X9_commonDivisor.1 (Nat.le_of_ble_eq_true rfl) ?_
  show gG l Γ gm_X9_commonDivisor (d, 0, 0, 0, 0) 0 [(0, .int (iv (a : Int))), (1, .int (iv (b : Int)))] [] _ _
  refine gg_iload_n dX9_commonDivisor_0 0 rfl ?_
  refine gg_istore_n (ls' := [(2, .int (iv (a : Int))), (0, .int (iv (a : Int))), (1, .int (iv (b : Int)))]) dX9_commonDivisor_1 rfl (by decide) rfl ?_
  refine gg_iload_n dX9_commonDivisor_2 2 rfl ?_
  refine gg_istore_n (ls' := [(3, .int (iv (b : Int))), (2, .int (iv (a : Int))), (0, .int (iv (a : Int))), (1, .int (iv (b : Int)))]) dX9_commonDivisor_3 rfl (by decide) rfl ?_
  refine gg_iconst dX9_commonDivisor_4 ?_
  refine gg_istore (ls' := [(4, .int (iv 0)), (3, .int (iv (b : Int))), (2, .int (iv (a : Int))), (0, .int (iv (a : Int))), (1, .int (iv (b : Int)))]) dX9_commonDivisor_5 (by decide) rfl ?_
  refine gg_sub [0, 1, 2, 3, 4] rfl ?_
  exact w_X9_commonDivisor 21 0 a b (by omega) (by omega) ha rfl

set_option maxRecDepth 10000 in
theorem c_X10_common_ {l : Launch} {Γ : gC} {ad : Nat → Nat} {I : Nat → Nat → Int} {J : Nat → Nat → Int64} : ∀ (m a b d : Nat), b < m → a ≤ 20 → b ≤ 20 → b ≤ d → gKi l Γ gm_X10_common d [.int (iv (a : Int)), .int (iv (b : Int))] (gSS ad, I, J) (fun e μ => μ = (gSS ad, I, J) ∧ e = (Nat.gcd a b : Int)) := by
  intro m
  induction m with
  | zero => intros; omega
  | succ m ih =>
    intro a b d hm ha hb hd
    refine gKi_of gk_X10_common.1 (Nat.le_of_ble_eq_true rfl) ?_
    show gG l Γ gm_X10_common (d, 0, 0, 0, 0) 0 [(0, .int (iv (a : Int))), (1, .int (iv (b : Int)))] [] _ _
    refine gg_iload_n dX10_common_0 1 rfl ?_
    refine gg_if_ne (tgt := 8) dX10_common_1 (by decide) (by omega) (fun hx => ?_) (fun hx => ?_)
    · have hb0 : 0 < b := by omega
      have hlt := Nat.mod_lt a hb0
      have hgc : Nat.gcd b (a % b) = Nat.gcd a b := by rw [Nat.gcd_comm a b, Nat.gcd_rec b a, Nat.gcd_comm]
      refine gg_iload_n dX10_common_8 1 rfl ?_
      refine gg_iload_n dX10_common_9 0 rfl ?_
      refine gg_iload_n dX10_common_10 1 rfl ?_
      refine gg_irem dX10_common_11 (by omega) ?_
      refine gg_toI (b := ((a % b : Nat) : Int)) rfl ?_
      refine gg_callSi (own := RX10) (yt := gm_X10_common) rfl gl_RX10_341 gk_X10_common gr_X10_common dX10_common_12 (ih b (a % b) (d - 1) (by omega) (by omega) (by omega) (by omega)) rfl rfl (Nat.le_of_ble_eq_true rfl) (by show _ ≤ d; omega) ⟨Nat.le_refl _, Nat.le_refl _⟩ (fun e1 μ' hc => ?_)
      obtain ⟨rfl, rfl⟩ := hc
      refine gg_ireti dX10_common_15 rfl ⟨rfl, rfl⟩ ?_
      exact ⟨rfl, by rw [hgc]⟩
    · have hb0 : b = 0 := by omega
      subst hb0
      refine gg_iload_n dX10_common_4 0 rfl ?_
      refine gg_goto (tgt := 15) dX10_common_5 (by decide) ?_
      refine gg_ireti dX10_common_15 rfl ⟨rfl, rfl⟩ ?_
      exact ⟨rfl, by rw [Nat.gcd_zero_right]⟩

set_option maxRecDepth 10000 in
theorem w_X9_chance {l : Launch} {Γ : gC} {ad : Nat → Nat} {I0 : Nat → Nat → Int} {J0 : Nat → Nat → Int64} {d : Nat} {f n : Nat} {K : Nat → Nat} {N : Nat → Int64} {Z : Nat → Nat} (hf : f < 12) (hW : gWf n K N Z) (hn : 0 < n) (hA : gAt I0 J0 (41 + 8 * f) n K N Z) {m0 : Nat} {z w pt : Int} (hm1 : 1 ≤ m0) (hm2 : m0 ≤ 20) (hpt : pt = 0 ∨ pt = 1) (hd : 6 ≤ d) : ∀ (m : Nat) (i : Nat) (I : Nat → Nat → Int) (J : Nat → Nat → Int64), m0 - i < m → (i ≤ m0) → (∀ p, p ≠ 7 → I p = I0 p) → (∀ p, p ≠ 26 → J p = J0 p) → gG l Γ gm_X9_chance (d, 0, 0, 0, 0) 52 [(9, .int (iv (i : Int))), (8, .int (iv (gCo (fun k : Nat => gWo n K N Z (gdr (z + (k : Int))) ≤ gi2l w) i : Int))), (0, .ref (gad (gSS ad) 0)), (1, .int (iv (f : Int))), (2, .int (iv z)), (3, .int (iv (m0 : Int))), (4, .int (iv w)), (5, .int (iv pt))] [] (gSS ad, I, J) (gDi (fun e μ => ∃ I' J', μ = (gSS ad, I', J') ∧ (∀ p, p ≠ 7 → I' p = I0 p) ∧ (∀ p, p ≠ 26 → J' p = J0 p) ∧ e = (if pt = 0 then ((gCo (fun k : Nat => gWo n K N Z (gdr (z + (k : Int))) ≤ gi2l w) m0 / Nat.gcd (gCo (fun k : Nat => gWo n K N Z (gdr (z + (k : Int))) ≤ gi2l w) m0) m0 : Nat) : Int) else ((m0 / Nat.gcd (gCo (fun k : Nat => gWo n K N Z (gdr (z + (k : Int))) ≤ gi2l w) m0) m0 : Nat) : Int)))) := by
  intro m
  induction m with
  | zero => intros; omega
  | succ m ih =>
    intro i I J hm hi hI hJ
    refine gg_iload dX9_chance_52 0 rfl ?_
    refine gg_iload_n dX9_chance_54 5 rfl ?_
    refine gg_icmp_ge (tgt := 88) dX9_chance_55 (by decide) (by omega) (fun hx => ?_) (fun hx => ?_)
    · have h8 : i = m0 := by omega
      subst h8
      refine gg_iload dX9_chance_88 1 rfl ?_
      refine gg_iload_n dX9_chance_90 5 rfl ?_
      have hcl := gCo_le (fun k : Nat => gWo n K N Z (gdr (z + (k : Int))) ≤ gi2l w) i
      have hgp : 0 < Nat.gcd (gCo (fun k : Nat => gWo n K N Z (gdr (z + (k : Int))) ≤ gi2l w) i) i := Nat.gcd_pos_of_pos_right _ (by omega)
      have hgl : Nat.gcd (gCo (fun k : Nat => gWo n K N Z (gdr (z + (k : Int))) ≤ gi2l w) i) i ≤ i := Nat.le_of_dvd (by omega) (Nat.gcd_dvd_right _ _)
      refine gg_callSi (own := RX9) (yt := gm_X9_commonDivisor) rfl gl_RX9_233 gk_X9_commonDivisor gr_X9_commonDivisor dX9_chance_91 (c_X9_commonDivisor (d := d - 1) (a := gCo (fun k : Nat => gWo n K N Z (gdr (z + (k : Int))) ≤ gi2l w) i) (b := i) (by omega) (by omega)) rfl rfl (Nat.le_of_ble_eq_true rfl) (by show _ ≤ d; omega) ⟨Nat.le_refl _, Nat.le_refl _⟩ (fun e1 μ' hc => ?_)
      obtain ⟨rfl, rfl⟩ := hc
      refine gg_istore (ls' := [(9, .int (iv (Nat.gcd (gCo (fun k : Nat => gWo n K N Z (gdr (z + (k : Int))) ≤ gi2l w) i) i : Int))), (8, .int (iv (gCo (fun k : Nat => gWo n K N Z (gdr (z + (k : Int))) ≤ gi2l w) i : Int))), (0, .ref (gad (gSS ad) 0)), (1, .int (iv (f : Int))), (2, .int (iv z)), (3, .int (iv (i : Int))), (4, .int (iv w)), (5, .int (iv pt))]) dX9_chance_94 (by decide) rfl ?_
      refine gg_iload dX9_chance_96 7 rfl ?_
      refine gg_if_ne (tgt := 106) dX9_chance_98 (by decide) (by omega) (fun hp => ?_) (fun hp => ?_)
      · refine gg_iload_n dX9_chance_106 5 rfl ?_
        refine gg_iload dX9_chance_107 0 rfl ?_
        refine gg_if_le_f (tgt := 117) dX9_chance_109 (by decide) (by omega) (by omega) ?_
        refine gg_iload dX9_chance_112 0 rfl ?_
        refine gg_goto (tgt := 118) dX9_chance_114 (by decide) ?_
        refine gg_idiv dX9_chance_118 (by omega) ?_
        refine gg_toI (b := ((i / Nat.gcd (gCo (fun k : Nat => gWo n K N Z (gdr (z + (k : Int))) ≤ gi2l w) i) i : Nat) : Int)) rfl ?_
        refine gg_ireti dX9_chance_119 rfl ⟨rfl, rfl⟩ ?_
        refine ⟨I, J, rfl, hI, hJ, ?_⟩
        first | rw [if_pos (show pt = 0 by omega)] | rw [if_neg (show ¬ pt = 0 by omega)]
      · refine gg_iload dX9_chance_101 1 rfl ?_
        refine gg_goto (tgt := 107) dX9_chance_103 (by decide) ?_
        refine gg_iload dX9_chance_107 0 rfl ?_
        refine gg_if_le_f (tgt := 117) dX9_chance_109 (by decide) (by omega) (by omega) ?_
        refine gg_iload dX9_chance_112 0 rfl ?_
        refine gg_goto (tgt := 118) dX9_chance_114 (by decide) ?_
        refine gg_idiv dX9_chance_118 (by omega) ?_
        refine gg_toI (b := ((gCo (fun k : Nat => gWo n K N Z (gdr (z + (k : Int))) ≤ gi2l w) i / Nat.gcd (gCo (fun k : Nat => gWo n K N Z (gdr (z + (k : Int))) ≤ gi2l w) i) i : Nat) : Int)) rfl ?_
        refine gg_ireti dX9_chance_119 rfl ⟨rfl, rfl⟩ ?_
        refine ⟨I, J, rfl, hI, hJ, ?_⟩
        first | rw [if_pos (show pt = 0 by omega)] | rw [if_neg (show ¬ pt = 0 by omega)]
    · have h8 : i < m0 := by omega
      refine gg_aload_n dX9_chance_58 2 rfl ?_
      refine gg_aload_n dX9_chance_59 2 rfl ?_
      refine gg_getR (k' := 1) rfl gf_RX9_11 dX9_chance_60 sh_0 pl_0 (by decide) (by decide) rr_0_0 ?_
      refine gg_iload_n dX9_chance_63 3 rfl ?_
      refine gg_aaldj (t := 4) f (k' := (41 + 8 * f)) dX9_chance_64 sh_1 (by decide) pl_1 (by decide) rfl hf (rr_1 hf) ?_
      refine gg_iload_n dX9_chance_65 4 rfl ?_
      refine gg_iload dX9_chance_66 0 rfl ?_
      refine gg_iadd dX9_chance_68 ?_
      refine gg_callVl (own := RX9) (yt := gm_X9_drawnWorth) rfl gl_RX9_229 gk_X9_drawnWorth gr_X9_drawnWorth dX9_chance_69 (c_X9_drawnWorth (d := d - 1) (gF_fo f hf) hW hn (gAt_7 (gF_fo f hf) hA hI hJ) (by omega)) sh_0 pl_0 (by decide) rfl rfl rfl (Nat.le_of_ble_eq_true rfl) (by show _ ≤ d; omega) ⟨Nat.le_refl _, Nat.le_refl _⟩ (fun e2 μ' hc => ?_)
      obtain ⟨I2, J2, rfl, hI2, hJ2, rfl⟩ := hc
      refine gg_iload dX9_chance_72 6 rfl ?_
      refine gg_i2l dX9_chance_74 ?_
      refine gg_lcmp_gt (tgt := 82) dX9_chance_75 dX9_chance_76 (by decide) (fun hb => ?_) (fun hb => ?_)
      · refine gg_iincv (ls' := [(9, .int (iv ((i + 1 : Nat) : Int))), (8, .int (iv (gCo (fun k : Nat => gWo n K N Z (gdr (z + (k : Int))) ≤ gi2l w) i : Int))), (0, .ref (gad (gSS ad) 0)), (1, .int (iv (f : Int))), (2, .int (iv z)), (3, .int (iv (m0 : Int))), (4, .int (iv w)), (5, .int (iv pt))]) dX9_chance_82 0 rfl (by omega) (by decide) rfl ?_
        refine gg_goto (tgt := 52) dX9_chance_85 (by decide) ?_
        rw [← gCo_f (P := (fun k : Nat => gWo n K N Z (gdr (z + (k : Int))) ≤ gi2l w)) (fun hh => absurd hh (Int64.not_le.mpr hb))]
        exact ih (i + 1) I2 J2 (by omega) (by omega) (fun p hp => by rw [hI2 p hp]; exact hI p hp) (fun p hp => by rw [hJ2 p hp]; exact hJ p hp)
      · refine gg_iincv (ls' := [(8, .int (iv (gCo (fun k : Nat => gWo n K N Z (gdr (z + (k : Int))) ≤ gi2l w) (i + 1) : Int))), (9, .int (iv (i : Int))), (0, .ref (gad (gSS ad) 0)), (1, .int (iv (f : Int))), (2, .int (iv z)), (3, .int (iv (m0 : Int))), (4, .int (iv w)), (5, .int (iv pt))]) dX9_chance_79 1 rfl (by rw [gCo_t (P := (fun k : Nat => gWo n K N Z (gdr (z + (k : Int))) ≤ gi2l w)) hb]; rfl) (by decide) rfl ?_
        refine gg_iincv (ls' := [(9, .int (iv ((i + 1 : Nat) : Int))), (8, .int (iv (gCo (fun k : Nat => gWo n K N Z (gdr (z + (k : Int))) ≤ gi2l w) (i + 1) : Int))), (0, .ref (gad (gSS ad) 0)), (1, .int (iv (f : Int))), (2, .int (iv z)), (3, .int (iv (m0 : Int))), (4, .int (iv w)), (5, .int (iv pt))]) dX9_chance_82 1 rfl (by omega) (by decide) rfl ?_
        refine gg_goto (tgt := 52) dX9_chance_85 (by decide) ?_
        exact ih (i + 1) I2 J2 (by omega) (by omega) (fun p hp => by rw [hI2 p hp]; exact hI p hp) (fun p hp => by rw [hJ2 p hp]; exact hJ p hp)

set_option maxRecDepth 10000 in
theorem c_X9_chance {l : Launch} {Γ : gC} {ad : Nat → Nat} {I : Nat → Nat → Int} {J : Nat → Nat → Int64} {d : Nat} {f n : Nat} {K : Nat → Nat} {N : Nat → Int64} {Z : Nat → Nat} (hf : f < 12) (hA : gAt I J (41 + 8 * f) n K N Z) (hW : gWf n K N Z) {m0 : Nat} {z w pt : Int} (hm1 : 1 ≤ m0) (hm2 : m0 ≤ 20) (hpt : pt = 0 ∨ pt = 1) (hd : 7 ≤ d) : gKi l Γ gm_X9_chance d [.ref (gad (gSS ad) 0), .int (iv (f : Int)), .int (iv z), .int (iv (m0 : Int)), .int (iv w), .int (iv pt)] (gSS ad, I, J) (fun e μ => (n = 0 ∧ μ = (gSS ad, I, J) ∧ e = -3) ∨ (0 < n ∧ ∃ I' J', μ = (gSS ad, I', J') ∧ (∀ p, p ≠ 7 → I' p = I p) ∧ (∀ p, p ≠ 26 → J' p = J p) ∧ e = (if pt = 0 then ((gCo (fun k : Nat => gWo n K N Z (gdr (z + (k : Int))) ≤ gi2l w) m0 / Nat.gcd (gCo (fun k : Nat => gWo n K N Z (gdr (z + (k : Int))) ≤ gi2l w) m0) m0 : Nat) : Int) else ((m0 / Nat.gcd (gCo (fun k : Nat => gWo n K N Z (gdr (z + (k : Int))) ≤ gi2l w) m0) m0 : Nat) : Int)))) := by
  refine gKi_of gk_X9_chance.1 (Nat.le_of_ble_eq_true rfl) ?_
  show gG l Γ gm_X9_chance (d, 0, 0, 0, 0) 0 [(0, .ref (gad (gSS ad) 0)), (1, .int (iv (f : Int))), (2, .int (iv z)), (3, .int (iv (m0 : Int))), (4, .int (iv w)), (5, .int (iv pt))] [] _ _
  refine gg_iload_n dX9_chance_0 3 rfl ?_
  refine gg_iconst dX9_chance_1 ?_
  refine gg_icmp_lt_f (tgt := 26) dX9_chance_2 (by decide) (by omega) (by omega) ?_
  refine gg_iload_n dX9_chance_5 3 rfl ?_
  refine gg_bipush dX9_chance_6 (by decide) ?_
  refine gg_icmp_gt_f (tgt := 26) dX9_chance_8 (by decide) (by omega) (by omega) ?_
  refine gg_iload dX9_chance_11 5 rfl ?_
  refine gg_if_eq (tgt := 22) dX9_chance_13 (by decide) (by omega) (fun hwa => ?_) (fun hwa => ?_)
  · refine gg_iconst dX9_chance_22 ?_
    refine gg_goto (tgt := 27) dX9_chance_23 (by decide) ?_
    refine gg_istore (ls' := [(6, .int (iv 1)), (0, .ref (gad (gSS ad) 0)), (1, .int (iv (f : Int))), (2, .int (iv z)), (3, .int (iv (m0 : Int))), (4, .int (iv w)), (5, .int (iv pt))]) dX9_chance_27 (by decide) rfl ?_
    refine gg_aload_n dX9_chance_29 1 rfl ?_
    refine gg_iload_n dX9_chance_30 2 rfl ?_
    refine gg_iload dX9_chance_31 0 rfl ?_
    refine gg_callVi (own := RX9) (yt := gm_X9_refusalOf) rfl gl_RX9_166 gk_X9_refusalOf gr_X9_refusalOf dX9_chance_33 (c_X9_refusalOf (d := d - 1) hf hA hW (by omega)) sh_0 pl_0 (by decide) rfl rfl rfl (Nat.le_of_ble_eq_true rfl) (by show _ ≤ d; omega) ⟨Nat.le_refl _, Nat.le_refl _⟩ (fun e1 μ' hc => ?_)
    obtain ⟨rfl, ⟨rfl, hn0⟩ | ⟨rfl, hn0⟩⟩ := hc
    · refine gg_istore (ls' := [(7, .int (iv (-3))), (6, .int (iv 1)), (0, .ref (gad (gSS ad) 0)), (1, .int (iv (f : Int))), (2, .int (iv z)), (3, .int (iv (m0 : Int))), (4, .int (iv w)), (5, .int (iv pt))]) dX9_chance_36 (by decide) rfl ?_
      refine gg_iload dX9_chance_38 0 rfl ?_
      refine gg_if_eq_f (tgt := 46) dX9_chance_40 (by decide) (by decide) (by decide) ?_
      refine gg_iload dX9_chance_43 0 rfl ?_
      refine gg_ireti dX9_chance_45 rfl ⟨rfl, rfl⟩ ?_
      exact Or.inl ⟨hn0, rfl, rfl⟩
    · refine gg_istore (ls' := [(7, .int (iv 0)), (6, .int (iv 1)), (0, .ref (gad (gSS ad) 0)), (1, .int (iv (f : Int))), (2, .int (iv z)), (3, .int (iv (m0 : Int))), (4, .int (iv w)), (5, .int (iv pt))]) dX9_chance_36 (by decide) rfl ?_
      refine gg_iload dX9_chance_38 0 rfl ?_
      refine gg_if_eq_t (tgt := 46) dX9_chance_40 (by decide) (by decide) (by decide) ?_
      refine gg_iconst dX9_chance_46 ?_
      refine gg_istore (ls' := [(8, .int (iv 0)), (7, .int (iv 0)), (6, .int (iv 1)), (0, .ref (gad (gSS ad) 0)), (1, .int (iv (f : Int))), (2, .int (iv z)), (3, .int (iv (m0 : Int))), (4, .int (iv w)), (5, .int (iv pt))]) dX9_chance_47 (by decide) rfl ?_
      refine gg_iconst dX9_chance_49 ?_
      refine gg_istore (ls' := [(9, .int (iv 0)), (8, .int (iv 0)), (7, .int (iv 0)), (6, .int (iv 1)), (0, .ref (gad (gSS ad) 0)), (1, .int (iv (f : Int))), (2, .int (iv z)), (3, .int (iv (m0 : Int))), (4, .int (iv w)), (5, .int (iv pt))]) dX9_chance_50 (by decide) rfl ?_
      refine gg_sub [0, 1, 4, 5, 6, 7, 8, 9] rfl ?_
      refine gG_post (w_X9_chance hf hW (by omega) hA hm1 hm2 hpt (by omega) (m0 + 1) 0 I J (by omega) (by omega) (fun _ _ => rfl) (fun _ _ => rfl)) ?_
      rintro r μ ⟨e, rfl, I3, J3, rfl, hI3, hJ3, he⟩
      exact ⟨e, rfl, Or.inr ⟨by omega, I3, J3, rfl, hI3, hJ3, he⟩⟩
  · refine gg_iload dX9_chance_16 5 rfl ?_
    refine gg_iconst dX9_chance_18 ?_
    refine gg_icmp_ne_f (tgt := 26) dX9_chance_19 (by decide) (by omega) (by omega) ?_
    refine gg_iconst dX9_chance_22 ?_
    refine gg_goto (tgt := 27) dX9_chance_23 (by decide) ?_
    refine gg_istore (ls' := [(6, .int (iv 1)), (0, .ref (gad (gSS ad) 0)), (1, .int (iv (f : Int))), (2, .int (iv z)), (3, .int (iv (m0 : Int))), (4, .int (iv w)), (5, .int (iv pt))]) dX9_chance_27 (by decide) rfl ?_
    refine gg_aload_n dX9_chance_29 1 rfl ?_
    refine gg_iload_n dX9_chance_30 2 rfl ?_
    refine gg_iload dX9_chance_31 0 rfl ?_
    refine gg_callVi (own := RX9) (yt := gm_X9_refusalOf) rfl gl_RX9_166 gk_X9_refusalOf gr_X9_refusalOf dX9_chance_33 (c_X9_refusalOf (d := d - 1) hf hA hW (by omega)) sh_0 pl_0 (by decide) rfl rfl rfl (Nat.le_of_ble_eq_true rfl) (by show _ ≤ d; omega) ⟨Nat.le_refl _, Nat.le_refl _⟩ (fun e2 μ' hc => ?_)
    obtain ⟨rfl, ⟨rfl, hn0⟩ | ⟨rfl, hn0⟩⟩ := hc
    · refine gg_istore (ls' := [(7, .int (iv (-3))), (6, .int (iv 1)), (0, .ref (gad (gSS ad) 0)), (1, .int (iv (f : Int))), (2, .int (iv z)), (3, .int (iv (m0 : Int))), (4, .int (iv w)), (5, .int (iv pt))]) dX9_chance_36 (by decide) rfl ?_
      refine gg_iload dX9_chance_38 0 rfl ?_
      refine gg_if_eq_f (tgt := 46) dX9_chance_40 (by decide) (by decide) (by decide) ?_
      refine gg_iload dX9_chance_43 0 rfl ?_
      refine gg_ireti dX9_chance_45 rfl ⟨rfl, rfl⟩ ?_
      exact Or.inl ⟨hn0, rfl, rfl⟩
    · refine gg_istore (ls' := [(7, .int (iv 0)), (6, .int (iv 1)), (0, .ref (gad (gSS ad) 0)), (1, .int (iv (f : Int))), (2, .int (iv z)), (3, .int (iv (m0 : Int))), (4, .int (iv w)), (5, .int (iv pt))]) dX9_chance_36 (by decide) rfl ?_
      refine gg_iload dX9_chance_38 0 rfl ?_
      refine gg_if_eq_t (tgt := 46) dX9_chance_40 (by decide) (by decide) (by decide) ?_
      refine gg_iconst dX9_chance_46 ?_
      refine gg_istore (ls' := [(8, .int (iv 0)), (7, .int (iv 0)), (6, .int (iv 1)), (0, .ref (gad (gSS ad) 0)), (1, .int (iv (f : Int))), (2, .int (iv z)), (3, .int (iv (m0 : Int))), (4, .int (iv w)), (5, .int (iv pt))]) dX9_chance_47 (by decide) rfl ?_
      refine gg_iconst dX9_chance_49 ?_
      refine gg_istore (ls' := [(9, .int (iv 0)), (8, .int (iv 0)), (7, .int (iv 0)), (6, .int (iv 1)), (0, .ref (gad (gSS ad) 0)), (1, .int (iv (f : Int))), (2, .int (iv z)), (3, .int (iv (m0 : Int))), (4, .int (iv w)), (5, .int (iv pt))]) dX9_chance_50 (by decide) rfl ?_
      refine gg_sub [0, 1, 4, 5, 6, 7, 8, 9] rfl ?_
      refine gG_post (w_X9_chance hf hW (by omega) hA hm1 hm2 hpt (by omega) (m0 + 1) 0 I J (by omega) (by omega) (fun _ _ => rfl) (fun _ _ => rfl)) ?_
      rintro r μ ⟨e, rfl, I3, J3, rfl, hI3, hJ3, he⟩
      exact ⟨e, rfl, Or.inr ⟨by omega, I3, J3, rfl, hI3, hJ3, he⟩⟩

set_option maxRecDepth 10000 in
theorem c_X9_chance_out {l : Launch} {Γ : gC} {ad : Nat → Nat} {I : Nat → Nat → Int} {J : Nat → Nat → Int64} {d : Nat} {i z m0 w pt : Int} (hi : -2147483648 ≤ i ∧ i ≤ 2147483647) (hm0 : -2147483648 ≤ m0 ∧ m0 ≤ 2147483647) (hpt : -2147483648 ≤ pt ∧ pt ≤ 2147483647) (ho : ¬ (0 ≤ i ∧ i ≤ 11 ∧ 1 ≤ m0 ∧ m0 ≤ 20 ∧ 0 ≤ pt ∧ pt ≤ 1)) (hd : 3 ≤ d) : gKi l Γ gm_X9_chance d [.ref (gad (gSS ad) 0), .int (iv i), .int (iv z), .int (iv m0), .int (iv w), .int (iv pt)] (gSS ad, I, J) (fun e μ => μ = (gSS ad, I, J) ∧ e = -2) := by
  refine gKi_of gk_X9_chance.1 (Nat.le_of_ble_eq_true rfl) ?_
  show gG l Γ gm_X9_chance (d, 0, 0, 0, 0) 0 [(0, .ref (gad (gSS ad) 0)), (1, .int (iv i)), (2, .int (iv z)), (3, .int (iv m0)), (4, .int (iv w)), (5, .int (iv pt))] [] _ _
  refine gg_iload_n dX9_chance_0 3 rfl ?_
  refine gg_iconst dX9_chance_1 ?_
  refine gg_icmp_lt (tgt := 26) dX9_chance_2 (by decide) (by omega) (fun hb1 => ?_) (fun hb1 => ?_)
  · refine gg_iconst dX9_chance_26 ?_
    refine gg_istore (ls' := [(6, .int (iv 0)), (0, .ref (gad (gSS ad) 0)), (1, .int (iv i)), (2, .int (iv z)), (3, .int (iv m0)), (4, .int (iv w)), (5, .int (iv pt))]) dX9_chance_27 (by decide) rfl ?_
    refine gg_aload_n dX9_chance_29 1 rfl ?_
    refine gg_iload_n dX9_chance_30 2 rfl ?_
    refine gg_iload dX9_chance_31 0 rfl ?_
    refine gg_callVi (own := RX9) (yt := gm_X9_refusalOf) rfl gl_RX9_166 gk_X9_refusalOf gr_X9_refusalOf dX9_chance_33 (c_X9_refusalOf_out (d := d - 1) (b := 0) (by omega) (by omega) (by omega) (by omega)) sh_0 pl_0 (by decide) rfl rfl rfl (Nat.le_of_ble_eq_true rfl) (by show _ ≤ d; omega) ⟨Nat.le_refl _, Nat.le_refl _⟩ (fun e2 μ' hc => ?_)
    obtain ⟨rfl, rfl⟩ := hc
    refine gg_istore (ls' := [(7, .int (iv (-2))), (6, .int (iv 0)), (0, .ref (gad (gSS ad) 0)), (1, .int (iv i)), (2, .int (iv z)), (3, .int (iv m0)), (4, .int (iv w)), (5, .int (iv pt))]) dX9_chance_36 (by decide) rfl ?_
    refine gg_iload dX9_chance_38 0 rfl ?_
    refine gg_if_eq_f (tgt := 46) dX9_chance_40 (by decide) (by decide) (by decide) ?_
    refine gg_iload dX9_chance_43 0 rfl ?_
    refine gg_ireti dX9_chance_45 rfl ⟨rfl, rfl⟩ ?_
    exact ⟨rfl, rfl⟩
  · refine gg_iload_n dX9_chance_5 3 rfl ?_
    refine gg_bipush dX9_chance_6 (by decide) ?_
    refine gg_icmp_gt (tgt := 26) dX9_chance_8 (by decide) (by omega) (fun hb3 => ?_) (fun hb3 => ?_)
    · refine gg_iconst dX9_chance_26 ?_
      refine gg_istore (ls' := [(6, .int (iv 0)), (0, .ref (gad (gSS ad) 0)), (1, .int (iv i)), (2, .int (iv z)), (3, .int (iv m0)), (4, .int (iv w)), (5, .int (iv pt))]) dX9_chance_27 (by decide) rfl ?_
      refine gg_aload_n dX9_chance_29 1 rfl ?_
      refine gg_iload_n dX9_chance_30 2 rfl ?_
      refine gg_iload dX9_chance_31 0 rfl ?_
      refine gg_callVi (own := RX9) (yt := gm_X9_refusalOf) rfl gl_RX9_166 gk_X9_refusalOf gr_X9_refusalOf dX9_chance_33 (c_X9_refusalOf_out (d := d - 1) (b := 0) (by omega) (by omega) (by omega) (by omega)) sh_0 pl_0 (by decide) rfl rfl rfl (Nat.le_of_ble_eq_true rfl) (by show _ ≤ d; omega) ⟨Nat.le_refl _, Nat.le_refl _⟩ (fun e4 μ' hc => ?_)
      obtain ⟨rfl, rfl⟩ := hc
      refine gg_istore (ls' := [(7, .int (iv (-2))), (6, .int (iv 0)), (0, .ref (gad (gSS ad) 0)), (1, .int (iv i)), (2, .int (iv z)), (3, .int (iv m0)), (4, .int (iv w)), (5, .int (iv pt))]) dX9_chance_36 (by decide) rfl ?_
      refine gg_iload dX9_chance_38 0 rfl ?_
      refine gg_if_eq_f (tgt := 46) dX9_chance_40 (by decide) (by decide) (by decide) ?_
      refine gg_iload dX9_chance_43 0 rfl ?_
      refine gg_ireti dX9_chance_45 rfl ⟨rfl, rfl⟩ ?_
      exact ⟨rfl, rfl⟩
    · refine gg_iload dX9_chance_11 5 rfl ?_
      refine gg_if_eq (tgt := 22) dX9_chance_13 (by decide) (by omega) (fun hb5 => ?_) (fun hb5 => ?_)
      · refine gg_iconst dX9_chance_22 ?_
        refine gg_goto (tgt := 27) dX9_chance_23 (by decide) ?_
        refine gg_istore (ls' := [(6, .int (iv 1)), (0, .ref (gad (gSS ad) 0)), (1, .int (iv i)), (2, .int (iv z)), (3, .int (iv m0)), (4, .int (iv w)), (5, .int (iv pt))]) dX9_chance_27 (by decide) rfl ?_
        refine gg_aload_n dX9_chance_29 1 rfl ?_
        refine gg_iload_n dX9_chance_30 2 rfl ?_
        refine gg_iload dX9_chance_31 0 rfl ?_
        refine gg_callVi (own := RX9) (yt := gm_X9_refusalOf) rfl gl_RX9_166 gk_X9_refusalOf gr_X9_refusalOf dX9_chance_33 (c_X9_refusalOf_out (d := d - 1) (b := 1) (by omega) (by omega) (by omega) (by omega)) sh_0 pl_0 (by decide) rfl rfl rfl (Nat.le_of_ble_eq_true rfl) (by show _ ≤ d; omega) ⟨Nat.le_refl _, Nat.le_refl _⟩ (fun e6 μ' hc => ?_)
        obtain ⟨rfl, rfl⟩ := hc
        refine gg_istore (ls' := [(7, .int (iv (-2))), (6, .int (iv 1)), (0, .ref (gad (gSS ad) 0)), (1, .int (iv i)), (2, .int (iv z)), (3, .int (iv m0)), (4, .int (iv w)), (5, .int (iv pt))]) dX9_chance_36 (by decide) rfl ?_
        refine gg_iload dX9_chance_38 0 rfl ?_
        refine gg_if_eq_f (tgt := 46) dX9_chance_40 (by decide) (by decide) (by decide) ?_
        refine gg_iload dX9_chance_43 0 rfl ?_
        refine gg_ireti dX9_chance_45 rfl ⟨rfl, rfl⟩ ?_
        exact ⟨rfl, rfl⟩
      · refine gg_iload dX9_chance_16 5 rfl ?_
        refine gg_iconst dX9_chance_18 ?_
        refine gg_icmp_ne (tgt := 26) dX9_chance_19 (by decide) (by omega) (fun hb7 => ?_) (fun hb7 => ?_)
        · refine gg_iconst dX9_chance_26 ?_
          refine gg_istore (ls' := [(6, .int (iv 0)), (0, .ref (gad (gSS ad) 0)), (1, .int (iv i)), (2, .int (iv z)), (3, .int (iv m0)), (4, .int (iv w)), (5, .int (iv pt))]) dX9_chance_27 (by decide) rfl ?_
          refine gg_aload_n dX9_chance_29 1 rfl ?_
          refine gg_iload_n dX9_chance_30 2 rfl ?_
          refine gg_iload dX9_chance_31 0 rfl ?_
          refine gg_callVi (own := RX9) (yt := gm_X9_refusalOf) rfl gl_RX9_166 gk_X9_refusalOf gr_X9_refusalOf dX9_chance_33 (c_X9_refusalOf_out (d := d - 1) (b := 0) (by omega) (by omega) (by omega) (by omega)) sh_0 pl_0 (by decide) rfl rfl rfl (Nat.le_of_ble_eq_true rfl) (by show _ ≤ d; omega) ⟨Nat.le_refl _, Nat.le_refl _⟩ (fun e8 μ' hc => ?_)
          obtain ⟨rfl, rfl⟩ := hc
          refine gg_istore (ls' := [(7, .int (iv (-2))), (6, .int (iv 0)), (0, .ref (gad (gSS ad) 0)), (1, .int (iv i)), (2, .int (iv z)), (3, .int (iv m0)), (4, .int (iv w)), (5, .int (iv pt))]) dX9_chance_36 (by decide) rfl ?_
          refine gg_iload dX9_chance_38 0 rfl ?_
          refine gg_if_eq_f (tgt := 46) dX9_chance_40 (by decide) (by decide) (by decide) ?_
          refine gg_iload dX9_chance_43 0 rfl ?_
          refine gg_ireti dX9_chance_45 rfl ⟨rfl, rfl⟩ ?_
          exact ⟨rfl, rfl⟩
        · refine gg_iconst dX9_chance_22 ?_
          refine gg_goto (tgt := 27) dX9_chance_23 (by decide) ?_
          refine gg_istore (ls' := [(6, .int (iv 1)), (0, .ref (gad (gSS ad) 0)), (1, .int (iv i)), (2, .int (iv z)), (3, .int (iv m0)), (4, .int (iv w)), (5, .int (iv pt))]) dX9_chance_27 (by decide) rfl ?_
          refine gg_aload_n dX9_chance_29 1 rfl ?_
          refine gg_iload_n dX9_chance_30 2 rfl ?_
          refine gg_iload dX9_chance_31 0 rfl ?_
          refine gg_callVi (own := RX9) (yt := gm_X9_refusalOf) rfl gl_RX9_166 gk_X9_refusalOf gr_X9_refusalOf dX9_chance_33 (c_X9_refusalOf_out (d := d - 1) (b := 1) (by omega) (by omega) (by omega) (by omega)) sh_0 pl_0 (by decide) rfl rfl rfl (Nat.le_of_ble_eq_true rfl) (by show _ ≤ d; omega) ⟨Nat.le_refl _, Nat.le_refl _⟩ (fun e9 μ' hc => ?_)
          obtain ⟨rfl, rfl⟩ := hc
          refine gg_istore (ls' := [(7, .int (iv (-2))), (6, .int (iv 1)), (0, .ref (gad (gSS ad) 0)), (1, .int (iv i)), (2, .int (iv z)), (3, .int (iv m0)), (4, .int (iv w)), (5, .int (iv pt))]) dX9_chance_36 (by decide) rfl ?_
          refine gg_iload dX9_chance_38 0 rfl ?_
          refine gg_if_eq_f (tgt := 46) dX9_chance_40 (by decide) (by decide) (by decide) ?_
          refine gg_iload dX9_chance_43 0 rfl ?_
          refine gg_ireti dX9_chance_45 rfl ⟨rfl, rfl⟩ ?_
          exact ⟨rfl, rfl⟩

set_option maxRecDepth 10000 in
theorem w_X10_chance {l : Launch} {Γ : gC} {ad : Nat → Nat} {I0 : Nat → Nat → Int} {J : Nat → Nat → Int64} {d : Nat} {f n : Nat} {K : Nat → Nat} {N : Nat → Int64} {Z : Nat → Nat} (hf : f < 12) (hW : gWf n K N Z) (hn : 0 < n) (hM : gMt I0 J f n K N Z) {m0 : Nat} {z w pt : Int} (hm1 : 1 ≤ m0) (hm2 : m0 ≤ 20) (hpt : pt = 0 ∨ pt = 1) (hd : n + 26 ≤ d) : ∀ (m : Nat) (i : Nat) (I : Nat → Nat → Int), m0 - i < m → (i ≤ m0) → (∀ p, p ≠ 186 → p ≠ 190 → p ≠ 195 → I p = I0 p) → (∀ q, q < 8 → I 186 q = I0 186 q) → gG l Γ gm_X10_chance (d, 0, 0, 0, 0) 48 [(7, .int (iv (i : Int))), (6, .int (iv (gCo (fun k : Nat => gWo n K N Z (gdr (z + (k : Int))) ≤ gi2l w) i : Int))), (0, .ref (gad (gSS ad) 145)), (1, .int (iv (f : Int))), (2, .int (iv z)), (3, .int (iv (m0 : Int))), (4, .int (iv w)), (5, .int (iv pt))] [] (gSS ad, I, J) (gDi (fun e μ => ∃ I', μ = (gSS ad, I', J) ∧ (∀ p, p ≠ 186 → p ≠ 190 → p ≠ 195 → I' p = I0 p) ∧ (∀ q, q < 8 → I' 186 q = I0 186 q) ∧ e = (if pt = 0 then ((gCo (fun k : Nat => gWo n K N Z (gdr (z + (k : Int))) ≤ gi2l w) m0 / Nat.gcd (gCo (fun k : Nat => gWo n K N Z (gdr (z + (k : Int))) ≤ gi2l w) m0) m0 : Nat) : Int) else ((m0 / Nat.gcd (gCo (fun k : Nat => gWo n K N Z (gdr (z + (k : Int))) ≤ gi2l w) m0) m0 : Nat) : Int)))) := by
  intro m
  induction m with
  | zero => intros; omega
  | succ m ih =>
    intro i I hm hi hI hv
    refine gg_iload dX10_chance_48 0 rfl ?_
    refine gg_iload_n dX10_chance_50 5 rfl ?_
    refine gg_icmp_ge (tgt := 79) dX10_chance_51 (by decide) (by omega) (fun hx => ?_) (fun hx => ?_)
    · have h8 : i = m0 := by omega
      subst h8
      have hcl := gCo_le (fun k : Nat => gWo n K N Z (gdr (z + (k : Int))) ≤ gi2l w) i
      have hgp : 0 < Nat.gcd (gCo (fun k : Nat => gWo n K N Z (gdr (z + (k : Int))) ≤ gi2l w) i) i := Nat.gcd_pos_of_pos_right _ (by omega)
      have hgl : Nat.gcd (gCo (fun k : Nat => gWo n K N Z (gdr (z + (k : Int))) ≤ gi2l w) i) i ≤ i := Nat.le_of_dvd (by omega) (Nat.gcd_dvd_right _ _)
      refine gg_iload dX10_chance_79 7 rfl ?_
      refine gg_if_ne (tgt := 89) dX10_chance_81 (by decide) (by omega) (fun hp => ?_) (fun hp => ?_)
      · refine gg_iload_n dX10_chance_89 5 rfl ?_
        refine gg_iload dX10_chance_90 1 rfl ?_
        refine gg_iload_n dX10_chance_92 5 rfl ?_
        refine gg_callSi (own := RX10) (yt := gm_X10_common) rfl gl_RX10_341 gk_X10_common gr_X10_common dX10_chance_93 (c_X10_common_ (i + 1) (gCo (fun k : Nat => gWo n K N Z (gdr (z + (k : Int))) ≤ gi2l w) i) i (d - 1) (by omega) (by omega) (by omega) (by omega)) rfl rfl (Nat.le_of_ble_eq_true rfl) (by show _ ≤ d; omega) ⟨Nat.le_refl _, Nat.le_refl _⟩ (fun e1 μ' hc => ?_)
        obtain ⟨rfl, rfl⟩ := hc
        refine gg_idiv dX10_chance_96 (by omega) ?_
        refine gg_toI (b := ((i / Nat.gcd (gCo (fun k : Nat => gWo n K N Z (gdr (z + (k : Int))) ≤ gi2l w) i) i : Nat) : Int)) rfl ?_
        refine gg_ireti dX10_chance_97 rfl ⟨rfl, rfl⟩ ?_
        refine ⟨I, rfl, hI, hv, ?_⟩
        first | rw [if_pos (show pt = 0 by omega)] | rw [if_neg (show ¬ pt = 0 by omega)]
      · refine gg_iload dX10_chance_84 1 rfl ?_
        refine gg_goto (tgt := 90) dX10_chance_86 (by decide) ?_
        refine gg_iload dX10_chance_90 1 rfl ?_
        refine gg_iload_n dX10_chance_92 5 rfl ?_
        refine gg_callSi (own := RX10) (yt := gm_X10_common) rfl gl_RX10_341 gk_X10_common gr_X10_common dX10_chance_93 (c_X10_common_ (i + 1) (gCo (fun k : Nat => gWo n K N Z (gdr (z + (k : Int))) ≤ gi2l w) i) i (d - 1) (by omega) (by omega) (by omega) (by omega)) rfl rfl (Nat.le_of_ble_eq_true rfl) (by show _ ≤ d; omega) ⟨Nat.le_refl _, Nat.le_refl _⟩ (fun e2 μ' hc => ?_)
        obtain ⟨rfl, rfl⟩ := hc
        refine gg_idiv dX10_chance_96 (by omega) ?_
        refine gg_toI (b := ((gCo (fun k : Nat => gWo n K N Z (gdr (z + (k : Int))) ≤ gi2l w) i / Nat.gcd (gCo (fun k : Nat => gWo n K N Z (gdr (z + (k : Int))) ≤ gi2l w) i) i : Nat) : Int)) rfl ?_
        refine gg_ireti dX10_chance_97 rfl ⟨rfl, rfl⟩ ?_
        refine ⟨I, rfl, hI, hv, ?_⟩
        first | rw [if_pos (show pt = 0 by omega)] | rw [if_neg (show ¬ pt = 0 by omega)]
    · have h8 : i < m0 := by omega
      refine gg_aload_n dX10_chance_54 2 rfl ?_
      refine gg_iload_n dX10_chance_55 3 rfl ?_
      refine gg_iload_n dX10_chance_56 4 rfl ?_
      refine gg_iload dX10_chance_57 0 rfl ?_
      refine gg_iadd dX10_chance_59 ?_
      refine gg_callVl (own := RX10) (yt := gm_X10_worthDrawn) rfl gl_RX10_338 gk_X10_worthDrawn gr_X10_worthDrawn dX10_chance_60 (c_X10_worthDrawn (d := d - 1) hf (gMt_W hf hM hI) hW hn (by omega)) sh_145 pl_145 (by decide) rfl rfl rfl (Nat.le_of_ble_eq_true rfl) (by show _ ≤ d; omega) ⟨Nat.le_refl _, Nat.le_refl _⟩ (fun e3 μ' hc => ?_)
      obtain ⟨I2, rfl, hI2, hv2, rfl⟩ := hc
      refine gg_iload dX10_chance_63 6 rfl ?_
      refine gg_i2l dX10_chance_65 ?_
      refine gg_lcmp_gt (tgt := 73) dX10_chance_66 dX10_chance_67 (by decide) (fun hb => ?_) (fun hb => ?_)
      · refine gg_iincv (ls' := [(7, .int (iv ((i + 1 : Nat) : Int))), (6, .int (iv (gCo (fun k : Nat => gWo n K N Z (gdr (z + (k : Int))) ≤ gi2l w) i : Int))), (0, .ref (gad (gSS ad) 145)), (1, .int (iv (f : Int))), (2, .int (iv z)), (3, .int (iv (m0 : Int))), (4, .int (iv w)), (5, .int (iv pt))]) dX10_chance_73 0 rfl (by omega) (by decide) rfl ?_
        refine gg_goto (tgt := 48) dX10_chance_76 (by decide) ?_
        rw [← gCo_f (P := (fun k : Nat => gWo n K N Z (gdr (z + (k : Int))) ≤ gi2l w)) (fun hh => absurd hh (Int64.not_le.mpr hb))]
        exact ih (i + 1) I2 (by omega) (by omega) (fun p h1 h2 h3 => by rw [hI2 p h1 h2 h3]; exact hI p h1 h2 h3) (fun q hq => by rw [hv2 q hq]; exact hv q hq)
      · refine gg_iincv (ls' := [(6, .int (iv (gCo (fun k : Nat => gWo n K N Z (gdr (z + (k : Int))) ≤ gi2l w) (i + 1) : Int))), (7, .int (iv (i : Int))), (0, .ref (gad (gSS ad) 145)), (1, .int (iv (f : Int))), (2, .int (iv z)), (3, .int (iv (m0 : Int))), (4, .int (iv w)), (5, .int (iv pt))]) dX10_chance_70 1 rfl (by rw [gCo_t (P := (fun k : Nat => gWo n K N Z (gdr (z + (k : Int))) ≤ gi2l w)) hb]; rfl) (by decide) rfl ?_
        refine gg_iincv (ls' := [(7, .int (iv ((i + 1 : Nat) : Int))), (6, .int (iv (gCo (fun k : Nat => gWo n K N Z (gdr (z + (k : Int))) ≤ gi2l w) (i + 1) : Int))), (0, .ref (gad (gSS ad) 145)), (1, .int (iv (f : Int))), (2, .int (iv z)), (3, .int (iv (m0 : Int))), (4, .int (iv w)), (5, .int (iv pt))]) dX10_chance_73 1 rfl (by omega) (by decide) rfl ?_
        refine gg_goto (tgt := 48) dX10_chance_76 (by decide) ?_
        exact ih (i + 1) I2 (by omega) (by omega) (fun p h1 h2 h3 => by rw [hI2 p h1 h2 h3]; exact hI p h1 h2 h3) (fun q hq => by rw [hv2 q hq]; exact hv q hq)

set_option maxRecDepth 10000 in
theorem c_X10_chance {l : Launch} {Γ : gC} {ad : Nat → Nat} {I : Nat → Nat → Int} {J : Nat → Nat → Int64} {d : Nat} {f n : Nat} {K : Nat → Nat} {N : Nat → Int64} {Z : Nat → Nat} (hf : f < 12) (hM : gMt I J f n K N Z) (hW : gWf n K N Z) {m0 : Nat} {z w pt : Int} (hm1 : 1 ≤ m0) (hm2 : m0 ≤ 20) (hpt : pt = 0 ∨ pt = 1) (hd : n + 27 ≤ d) : gKi l Γ gm_X10_chance d [.ref (gad (gSS ad) 145), .int (iv (f : Int)), .int (iv z), .int (iv (m0 : Int)), .int (iv w), .int (iv pt)] (gSS ad, I, J) (fun e μ => (n = 0 ∧ μ = (gSS ad, I, J) ∧ e = -3) ∨ (0 < n ∧ ∃ I', μ = (gSS ad, I', J) ∧ (∀ p, p ≠ 186 → p ≠ 190 → p ≠ 195 → I' p = I p) ∧ (∀ q, q < 8 → I' 186 q = I 186 q) ∧ e = (if pt = 0 then ((gCo (fun k : Nat => gWo n K N Z (gdr (z + (k : Int))) ≤ gi2l w) m0 / Nat.gcd (gCo (fun k : Nat => gWo n K N Z (gdr (z + (k : Int))) ≤ gi2l w) m0) m0 : Nat) : Int) else ((m0 / Nat.gcd (gCo (fun k : Nat => gWo n K N Z (gdr (z + (k : Int))) ≤ gi2l w) m0) m0 : Nat) : Int)))) := by
  refine gKi_of gk_X10_chance.1 (Nat.le_of_ble_eq_true rfl) ?_
  show gG l Γ gm_X10_chance (d, 0, 0, 0, 0) 0 [(0, .ref (gad (gSS ad) 145)), (1, .int (iv (f : Int))), (2, .int (iv z)), (3, .int (iv (m0 : Int))), (4, .int (iv w)), (5, .int (iv pt))] [] _ _
  refine gg_iload_n dX10_chance_0 1 rfl ?_
  refine gg_callSi (own := RX10) (yt := gm_X10_isFormula) rfl gl_RX10_181 gk_X10_isFormula gr_X10_isFormula dX10_chance_1 (c_X10_isFormula (d := d - 1) (by omega) (by omega)) rfl rfl (Nat.le_of_ble_eq_true rfl) (by show _ ≤ d; omega) ⟨Nat.le_refl _, Nat.le_refl _⟩ (fun e1 μ' hc => ?_)
  obtain ⟨rfl, ⟨rfl, hb2⟩ | ⟨rfl, hb2⟩⟩ := hc
  rotate_left
  · omega
  refine gg_if_eq_f (tgt := 27) dX10_chance_4 (by decide) (by decide) (by decide) ?_
  refine gg_iload_n dX10_chance_7 3 rfl ?_
  refine gg_iconst dX10_chance_8 ?_
  refine gg_bipush dX10_chance_9 (by decide) ?_
  refine gg_callSi (own := RX10) (yt := gm_X10_in) rfl gl_RX10_84 gk_X10_in gr_X10_in dX10_chance_11 (c_X10_in (d := d - 1) (by omega)) rfl rfl (Nat.le_of_ble_eq_true rfl) (by show _ ≤ d; omega) ⟨Nat.le_refl _, Nat.le_refl _⟩ (fun e3 μ' hc => ?_)
  obtain ⟨rfl, ⟨rfl, hb4⟩ | ⟨rfl, hb4⟩⟩ := hc
  rotate_left
  · omega
  refine gg_if_eq_f (tgt := 27) dX10_chance_14 (by decide) (by decide) (by decide) ?_
  refine gg_iload dX10_chance_17 5 rfl ?_
  refine gg_iconst dX10_chance_19 ?_
  refine gg_iconst dX10_chance_20 ?_
  refine gg_callSi (own := RX10) (yt := gm_X10_in) rfl gl_RX10_84 gk_X10_in gr_X10_in dX10_chance_21 (c_X10_in (d := d - 1) (by omega)) rfl rfl (Nat.le_of_ble_eq_true rfl) (by show _ ≤ d; omega) ⟨Nat.le_refl _, Nat.le_refl _⟩ (fun e5 μ' hc => ?_)
  obtain ⟨rfl, ⟨rfl, hb6⟩ | ⟨rfl, hb6⟩⟩ := hc
  rotate_left
  · omega
  refine gg_if_ne_t (tgt := 30) dX10_chance_24 (by decide) (by decide) (by decide) ?_
  refine gg_aload_n dX10_chance_30 0 rfl ?_
  refine gg_getR (k' := 146) rfl gf_RX10_9 dX10_chance_31 sh_145 pl_145 (by decide) (by decide) rr_145_0 ?_
  refine gg_iload_n dX10_chance_34 1 rfl ?_
  refine gg_ialdj f dX10_chance_35 sh_146 pl_146 (by decide) rfl hf ?_
  refine gg_toI (b := (n : Int)) hM.1 ?_
  refine gg_if_ne (tgt := 42) dX10_chance_36 (by decide) (by have := hW.1; omega) (fun hn0 => ?_) (fun hn0 => ?_)
  · refine gg_iconst dX10_chance_42 ?_
    refine gg_istore (ls' := [(6, .int (iv 0)), (0, .ref (gad (gSS ad) 145)), (1, .int (iv (f : Int))), (2, .int (iv z)), (3, .int (iv (m0 : Int))), (4, .int (iv w)), (5, .int (iv pt))]) dX10_chance_43 (by decide) rfl ?_
    refine gg_iconst dX10_chance_45 ?_
    refine gg_istore (ls' := [(7, .int (iv 0)), (6, .int (iv 0)), (0, .ref (gad (gSS ad) 145)), (1, .int (iv (f : Int))), (2, .int (iv z)), (3, .int (iv (m0 : Int))), (4, .int (iv w)), (5, .int (iv pt))]) dX10_chance_46 (by decide) rfl ?_
    refine gg_sub [0, 1, 2, 3, 4, 5, 6, 7] rfl ?_
    refine gG_post (w_X10_chance hf hW (by omega) hM hm1 hm2 hpt (by omega) (m0 + 1) 0 I (by omega) (by omega) (fun _ _ _ _ => rfl) (fun _ _ => rfl)) ?_
    rintro r μ ⟨e, rfl, I3, rfl, hI3, hv3, he⟩
    exact ⟨e, rfl, Or.inr ⟨by omega, I3, rfl, hI3, hv3, he⟩⟩
  · refine gg_bipush dX10_chance_39 (by decide) ?_
    refine gg_ireti dX10_chance_41 rfl ⟨rfl, rfl⟩ ?_
    exact Or.inl ⟨by omega, rfl, rfl⟩

set_option maxRecDepth 10000 in
theorem c_X10_chance_out {l : Launch} {Γ : gC} {ad : Nat → Nat} {I : Nat → Nat → Int} {J : Nat → Nat → Int64} {d : Nat} {i z m0 w pt : Int} (hi : -2147483648 ≤ i ∧ i ≤ 2147483647) (hm0 : -2147483648 ≤ m0 ∧ m0 ≤ 2147483647) (hpt : -2147483648 ≤ pt ∧ pt ≤ 2147483647) (ho : ¬ (0 ≤ i ∧ i ≤ 11 ∧ 1 ≤ m0 ∧ m0 ≤ 20 ∧ 0 ≤ pt ∧ pt ≤ 1)) (hd : 3 ≤ d) : gKi l Γ gm_X10_chance d [.ref (gad (gSS ad) 145), .int (iv i), .int (iv z), .int (iv m0), .int (iv w), .int (iv pt)] (gSS ad, I, J) (fun e μ => μ = (gSS ad, I, J) ∧ e = -2) := by
  refine gKi_of gk_X10_chance.1 (Nat.le_of_ble_eq_true rfl) ?_
  show gG l Γ gm_X10_chance (d, 0, 0, 0, 0) 0 [(0, .ref (gad (gSS ad) 145)), (1, .int (iv i)), (2, .int (iv z)), (3, .int (iv m0)), (4, .int (iv w)), (5, .int (iv pt))] [] _ _
  refine gg_iload_n dX10_chance_0 1 rfl ?_
  refine gg_callSi (own := RX10) (yt := gm_X10_isFormula) rfl gl_RX10_181 gk_X10_isFormula gr_X10_isFormula dX10_chance_1 (c_X10_isFormula (d := d - 1) (by omega) (by omega)) rfl rfl (Nat.le_of_ble_eq_true rfl) (by show _ ≤ d; omega) ⟨Nat.le_refl _, Nat.le_refl _⟩ (fun e1 μ' hc => ?_)
  obtain ⟨rfl, ⟨rfl, hb2⟩ | ⟨rfl, hb2⟩⟩ := hc
  · refine gg_if_eq_f (tgt := 27) dX10_chance_4 (by decide) (by decide) (by decide) ?_
    refine gg_iload_n dX10_chance_7 3 rfl ?_
    refine gg_iconst dX10_chance_8 ?_
    refine gg_bipush dX10_chance_9 (by decide) ?_
    refine gg_callSi (own := RX10) (yt := gm_X10_in) rfl gl_RX10_84 gk_X10_in gr_X10_in dX10_chance_11 (c_X10_in (d := d - 1) (by omega)) rfl rfl (Nat.le_of_ble_eq_true rfl) (by show _ ≤ d; omega) ⟨Nat.le_refl _, Nat.le_refl _⟩ (fun e3 μ' hc => ?_)
    obtain ⟨rfl, ⟨rfl, hb4⟩ | ⟨rfl, hb4⟩⟩ := hc
    · refine gg_if_eq_f (tgt := 27) dX10_chance_14 (by decide) (by decide) (by decide) ?_
      refine gg_iload dX10_chance_17 5 rfl ?_
      refine gg_iconst dX10_chance_19 ?_
      refine gg_iconst dX10_chance_20 ?_
      refine gg_callSi (own := RX10) (yt := gm_X10_in) rfl gl_RX10_84 gk_X10_in gr_X10_in dX10_chance_21 (c_X10_in (d := d - 1) (by omega)) rfl rfl (Nat.le_of_ble_eq_true rfl) (by show _ ≤ d; omega) ⟨Nat.le_refl _, Nat.le_refl _⟩ (fun e5 μ' hc => ?_)
      obtain ⟨rfl, ⟨rfl, hb6⟩ | ⟨rfl, hb6⟩⟩ := hc
      · refine gg_if_ne_t (tgt := 30) dX10_chance_24 (by decide) (by decide) (by decide) ?_
        exfalso
        omega
      · refine gg_if_ne_f (tgt := 30) dX10_chance_24 (by decide) (by decide) (by decide) ?_
        refine gg_bipush dX10_chance_27 (by decide) ?_
        refine gg_ireti dX10_chance_29 rfl ⟨rfl, rfl⟩ ?_
        exact ⟨rfl, rfl⟩
    · refine gg_if_eq_t (tgt := 27) dX10_chance_14 (by decide) (by decide) (by decide) ?_
      refine gg_bipush dX10_chance_27 (by decide) ?_
      refine gg_ireti dX10_chance_29 rfl ⟨rfl, rfl⟩ ?_
      exact ⟨rfl, rfl⟩
  · refine gg_if_eq_t (tgt := 27) dX10_chance_4 (by decide) (by decide) (by decide) ?_
    refine gg_bipush dX10_chance_27 (by decide) ?_
    refine gg_ireti dX10_chance_29 rfl ⟨rfl, rfl⟩ ?_
    exact ⟨rfl, rfl⟩

