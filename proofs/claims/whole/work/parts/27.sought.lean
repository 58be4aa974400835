/-! supposed values; drawn, sought on both sides -/
theorem gAt_7 {I I' : Nat → Nat → Int} {J J' : Nat → Nat → Int64} {a n : Nat} {K : Nat → Nat} {N : Nat → Int64} {Z : Nat → Nat} (hF : gF a) (h : gAt I J a n K N Z) (hI : ∀ p, p ≠ 7 → I' p = I p) (hJ : ∀ p, p ≠ 26 → J' p = J p) : gAt I' J' a n K N Z := by
  have hr := gF_rng hF
  exact gAt_same h (hI _ (by omega)) (hI _ (by omega)) (hJ _ (by omega)) (hI _ (by omega))
theorem gMt_W {I I' : Nat → Nat → Int} {J : Nat → Nat → Int64} {f n : Nat} {K : Nat → Nat} {N : Nat → Int64} {Z : Nat → Nat} (hf : f < 12) (h : gMt I J f n K N Z) (hI : ∀ p, p ≠ 186 → p ≠ 190 → p ≠ 195 → I' p = I p) : gMt I' J f n K N Z := by
  refine ⟨by rw [hI 146 (by omega) (by omega) (by omega)]; exact h.1, fun j hj => ?_⟩
  rw [hI (148 + f) (by omega) (by omega) (by omega), hI (174 + f) (by omega) (by omega) (by omega)]
  exact h.2 j hj
def gzd (z : Int) : Nat → Int
  | 0 => z
  | k + 1 => gzd z k * 1103515245 + 12345
def gdr (z : Int) (k : Nat) : Int := gushr (gzd z (k + 1)) 9 % 21 - 10
theorem gushr9 (a : Int) : 0 ≤ gushr a 9 ∧ gushr a 9 ≤ 8388607 := by
  have h1 : ((iv 9).toUInt32 &&& Int32.toUInt32 31) = 9 := by decide
  unfold gushr
  rw [h1]
  generalize (iv a).toUInt32 = x
  have h2 : (x >>> 9).toNat = x.toNat / 512 := by
    rw [UInt32.toNat_shiftRight, Nat.shiftRight_eq_div_pow]
    rfl
  have h3 : x.toNat < 4294967296 := x.toNat_lt
  have h4 : (x >>> 9).toInt32.toInt = ((x >>> 9).toNat : Int) := by
    show ((x >>> 9).toBitVec).toInt = _
    rw [BitVec.toInt_eq_toNat_cond, if_pos]
    · rfl
    · show 2 * (x >>> 9).toNat < 2 ^ 32
      omega
  rw [h4, h2]
  omega
/-- the values with another one in one name -/
def gup (v : Nat → Int) (a : Nat) (x : Int) : Nat → Int := fun q => if q = a then x else v q
noncomputable def gCo (P : Nat → Prop) : Nat → Nat
  | 0 => 0
  | k + 1 => gCo P k + @ite Nat (P k) (Classical.propDecidable (P k)) 1 0
noncomputable def gFi (P : Nat → Prop) : Nat → Int
  | 0 => -1
  | k + 1 => if gFi P k = -1 then (@ite Int (P k) (Classical.propDecidable (P k)) (k : Int) (-1)) else gFi P k
theorem gCo_t {P : Nat → Prop} {k : Nat} (h : P k) : gCo P (k + 1) = gCo P k + 1 := by simp only [gCo]; rw [if_pos h]
theorem gCo_f {P : Nat → Prop} {k : Nat} (h : ¬ P k) : gCo P (k + 1) = gCo P k := by simp only [gCo]; rw [if_neg h]; rfl
theorem gCo_le (P : Nat → Prop) : ∀ k, gCo P k ≤ k
  | 0 => Nat.le_refl _
  | k + 1 => by
    have := gCo_le P k
    simp only [gCo]
    split <;> omega
theorem gFi_no {P : Nat → Prop} : ∀ k, (∀ t, t < k → ¬ P t) → gFi P k = -1
  | 0, _ => rfl
  | k + 1, h => by
    simp only [gFi]
    rw [if_pos (gFi_no k (fun t ht => h t (by omega))), if_neg (h k (by omega))]
theorem gFi_at {P : Nat → Prop} {i : Nat} (h : ∀ t, t < i → ¬ P t) (hp : P i) : ∀ k, i < k → gFi P k = (i : Int)
  | 0, hk => absurd hk (Nat.not_lt_zero _)
  | k + 1, hk => by
    by_cases he : k = i
    · subst he
      simp only [gFi]
      rw [if_pos (gFi_no _ h), if_pos hp]
    · have h1 := gFi_at h hp k (by omega)
      simp only [gFi]
      rw [h1, if_neg (by omega)]
theorem gFi_co {P : Nat → Prop} : ∀ k, gFi P k = -1 ↔ gCo P k = 0
  | 0 => by simp [gFi, gCo]
  | k + 1 => by
    have h := gFi_co (P := P) k
    by_cases hp : P k
    · rw [gCo_t hp]
      simp only [gFi]
      by_cases h1 : gFi P k = -1
      · rw [if_pos h1, if_pos hp]; omega
      · rw [if_neg h1]; omega
    · rw [gCo_f hp]
      simp only [gFi]
      by_cases h1 : gFi P k = -1
      · rw [if_pos h1, if_neg hp]; omega
      · rw [if_neg h1]; omega
theorem gFi_rng {P : Nat → Prop} : ∀ k, -1 ≤ gFi P k ∧ gFi P k < (k : Int) 
  | 0 => by simp [gFi]
  | k + 1 => by
    have h := gFi_rng (P := P) k
    simp only [gFi]
    split
    · split <;> omega
    · omega
theorem gFi_s {P : Nat → Prop} {k : Nat} (h : gFi P k = -1) (hp : P k) : gFi P (k + 1) = (k : Int) := by simp only [gFi]; rw [if_pos h, if_pos hp]
theorem gFi_s2 {P : Nat → Prop} {k : Nat} (h : ¬ gFi P k = -1) : gFi P (k + 1) = gFi P k := by simp only [gFi]; rw [if_neg h]
theorem gFi_s3 {P : Nat → Prop} {k : Nat} (hp : ¬ P k) : gFi P (k + 1) = gFi P k := by
  simp only [gFi]
  by_cases h : gFi P k = -1
  · rw [if_pos h, if_neg hp, h]
  · rw [if_neg h]

set_option maxRecDepth 10000 in
theorem c_X9_supposeValues {l : Launch} {Γ : gC} {ad : Nat → Nat} {I : Nat → Nat → Int} {J : Nat → Nat → Int64} {d : Nat} (hd : 1 ≤ d) : gKv l Γ gm_X9_supposeValues d [.ref (gad (gSS ad) 0)] (gSS ad, I, J) (fun μ => ∃ I', μ = (gSS ad, I', J) ∧ (∀ p, p ≠ 7 → I' p = I p) ∧ ∀ q, q < 8 → I' 7 q = I 3 q) := by
  refine gKv_of gk_X9_supposeValues.1 (Nat.le_of_ble_eq_true rfl) ?_
  show gG l Γ gm_X9_supposeValues (d, 0, 0, 0, 0) 0 [(0, .ref (gad (gSS ad) 0))] [] _ _
  refine gg_aload_n dX9_supposeValues_0 0 rfl ?_
  refine gg_getR (k' := 3) rfl gf_RX9_18 dX9_supposeValues_1 sh_0 pl_0 (by decide) (by decide) rr_0_2 ?_
  refine gg_iconst dX9_supposeValues_4 ?_
  refine gg_aload_n dX9_supposeValues_5 0 rfl ?_
  refine gg_getR (k' := 7) rfl gf_RX9_34 dX9_supposeValues_6 sh_0 pl_0 (by decide) (by decide) rr_0_7 ?_
  refine gg_iconst dX9_supposeValues_9 ?_
  refine gg_bipush dX9_supposeValues_10 (by decide) ?_
  refine gg_copyi rfl gl_RX9_272 dX9_supposeValues_12 sh_3 pl_3 sh_7 pl_7 (by omega) (by decide) (Nat.le_of_ble_eq_true rfl) (by omega) ⟨Nat.le_refl _, Nat.le_refl _⟩ ?_
  refine gg_memI (fun I1 hI1 => ?_)
  refine gg_vretv dX9_supposeValues_15 rfl ⟨rfl, rfl⟩ ?_
  exact ⟨I1, rfl, fun p hp => by rw [hI1, gur_other hp], fun q hq => by rw [hI1, gur_self]; exact va_cpy0z hq⟩

set_option maxRecDepth 10000 in
theorem w_X9_drawnWorth {l : Launch} {Γ : gC} {ad : Nat → Nat} {I0 : Nat → Nat → Int} {J0 : Nat → Nat → Int64} {d : Nat} {a n : Nat} {K : Nat → Nat} {N : Nat → Int64} {Z : Nat → Nat} (hF : gF a) (hW : gWf n K N Z) (hn : 0 < n) (hA : gAt I0 J0 a n K N Z) {z : Int} (hd : 5 ≤ d) : ∀ (m : Nat) (i : Nat) (I : Nat → Nat → Int) (J : Nat → Nat → Int64), 8 - i < m → (i ≤ 8) → (∀ p, p ≠ 7 → I p = I0 p) → (J = J0) → (∀ q, q < i → I 7 q = gdr z q) → gG l Γ gm_X9_drawnWorth (d, 0, 0, 0, 0) 5 [(4, .int (iv (i : Int))), (3, .int (iv (gzd z i))), (0, .ref (gad (gSS ad) 0)), (1, .ref (gad (gSS ad) a)), (2, .int (iv z))] [] (gSS ad, I, J) (gDl (fun e μ => ∃ I' J', μ = (gSS ad, I', J') ∧ (∀ p, p ≠ 7 → I' p = I0 p) ∧ (∀ p, p ≠ 26 → J' p = J0 p) ∧ e = gWo n K N Z (gdr z))) := by
  intro m
  induction m with
  | zero => intros; omega
  | succ m ih =>
    intro i I J hm hi hI hJ hs
    refine gg_iload dX9_drawnWorth_5 0 rfl ?_
    refine gg_bipush dX9_drawnWorth_7 (by decide) ?_
    refine gg_icmp_ge (tgt := 45) dX9_drawnWorth_9 (by decide) (by omega) (fun hx => ?_) (fun hx => ?_)
    · have h8 : i = 8 := by omega
      subst h8 hJ
      refine gg_aload_n dX9_drawnWorth_45 2 rfl ?_
      refine gg_getR (k' := 25) rfl gf_RX9_68 dX9_drawnWorth_46 sh_0 pl_0 (by decide) (by decide) rr_0_12 ?_
      refine gg_aload_n dX9_drawnWorth_49 3 rfl ?_
      refine gg_aload_n dX9_drawnWorth_50 2 rfl ?_
      refine gg_getR (k' := 7) rfl gf_RX9_34 dX9_drawnWorth_51 sh_0 pl_0 (by decide) (by decide) rr_0_7 ?_
      refine gg_callVl (own := RX9) (yt := gm_X8_worthOf) rfl gl_RX9_172 gk_X8_worthOf gr_X8_worthOf dX9_drawnWorth_54 (c_X8_worthOf (d := d - 1) (hF) (gAt_7 hF hA hI (fun _ _ => rfl)) hW (p := 7) sh_7 pl_7 (by omega)) sh_25 pl_25 (by decide) rfl rfl rfl (Nat.le_of_ble_eq_true rfl) (by show _ ≤ d; omega) ⟨Nat.le_refl _, Nat.le_refl _⟩ (fun e1 μ' hc => ?_)
      obtain ⟨J2, rfl, hw2, rfl, hJ2⟩ := hc
      refine gg_lretl dX9_drawnWorth_57 rfl ⟨rfl, rfl⟩ ?_
      exact ⟨I, J2, rfl, hI, hJ2, gIsW_uni hW (fun q hq => hs q hq) hw2 (gWc_is n K N Z (gdr z)) 0 hn⟩
    · have h8 : i < 8 := by omega
      refine gg_iload_n dX9_drawnWorth_12 1 rfl ?_
      refine gg_ldcw (a := 1103515245) rfl gq_RX9_315 dX9_drawnWorth_13 (by decide) ?_
      refine gg_imul dX9_drawnWorth_16 ?_
      refine gg_sipush dX9_drawnWorth_17 (by decide) ?_
      refine gg_iadd dX9_drawnWorth_20 ?_
      refine gg_toI (b := gzd z (i + 1)) rfl ?_
      refine gg_istore_n (ls' := [(3, .int (iv (gzd z (i + 1)))), (4, .int (iv (i : Int))), (0, .ref (gad (gSS ad) 0)), (1, .ref (gad (gSS ad) a)), (2, .int (iv z))]) dX9_drawnWorth_21 rfl (by decide) rfl ?_
      refine gg_aload_n dX9_drawnWorth_22 2 rfl ?_
      refine gg_getR (k' := 7) rfl gf_RX9_34 dX9_drawnWorth_23 sh_0 pl_0 (by decide) (by decide) rr_0_7 ?_
      refine gg_iload dX9_drawnWorth_26 1 rfl ?_
      refine gg_iload_n dX9_drawnWorth_28 0 rfl ?_
      refine gg_bipush dX9_drawnWorth_29 (by decide) ?_
      refine gg_iushr dX9_drawnWorth_31 ?_
      refine gg_bipush dX9_drawnWorth_32 (by decide) ?_
      refine gg_irem dX9_drawnWorth_34 (by have := gushr9 (gzd z (i + 1)); omega) ?_
      refine gg_bipush dX9_drawnWorth_35 (by decide) ?_
      refine gg_isub dX9_drawnWorth_37 ?_
      refine gg_iastj i dX9_drawnWorth_38 sh_7 pl_7 (by decide) rfl h8 ?_
      refine gg_memI (fun I1 hI1 => ?_)
      refine gg_iincv (ls' := [(4, .int (iv ((i + 1 : Nat) : Int))), (3, .int (iv (gzd z (i + 1)))), (0, .ref (gad (gSS ad) 0)), (1, .ref (gad (gSS ad) a)), (2, .int (iv z))]) dX9_drawnWorth_39 1 rfl (by omega) (by decide) rfl ?_
      refine gg_goto (tgt := 5) dX9_drawnWorth_42 (by decide) ?_
      refine ih (i + 1) I1 J (by omega) (by omega) (fun p hp => by rw [hI1, gu_other hp]; exact hI p hp) hJ (fun q hq => ?_)
      rw [hI1]
      by_cases hqi : q = i
      · subst hqi
        exact gu_s
      · rw [gu_n (by omega)]
        exact hs q (by omega)

set_option maxRecDepth 10000 in
theorem c_X9_drawnWorth {l : Launch} {Γ : gC} {ad : Nat → Nat} {I : Nat → Nat → Int} {J : Nat → Nat → Int64} {d : Nat} {a n : Nat} {K : Nat → Nat} {N : Nat → Int64} {Z : Nat → Nat} (hF : gF a) (hW : gWf n K N Z) (hn : 0 < n) (hA : gAt I J a n K N Z) {z : Int} (hd : 5 ≤ d) : gKl l Γ gm_X9_drawnWorth d [.ref (gad (gSS ad) 0), .ref (gad (gSS ad) a), .int (iv z)] (gSS ad, I, J) (fun e μ => ∃ I' J', μ = (gSS ad, I', J') ∧ (∀ p, p ≠ 7 → I' p = I p) ∧ (∀ p, p ≠ 26 → J' p = J p) ∧ e = gWo n K N Z (gdr z)) := by
  refine gKl_of gk_X9_drawnWorth.1 (Nat.le_of_ble_eq_true rfl) ?_
  show gG l Γ gm_X9_drawnWorth (d, 0, 0, 0, 0) 0 [(0, .ref (gad (gSS ad) 0)), (1, .ref (gad (gSS ad) a)), (2, .int (iv z))] [] _ _
  refine gg_iload_n dX9_drawnWorth_0 2 rfl ?_
  refine gg_istore_n (ls' := [(3, .int (iv z)), (0, .ref (gad (gSS ad) 0)), (1, .ref (gad (gSS ad) a)), (2, .int (iv z))]) dX9_drawnWorth_1 rfl (by decide) rfl ?_
  refine gg_iconst dX9_drawnWorth_2 ?_
  refine gg_istore (ls' := [(4, .int (iv 0)), (3, .int (iv z)), (0, .ref (gad (gSS ad) 0)), (1, .ref (gad (gSS ad) a)), (2, .int (iv z))]) dX9_drawnWorth_3 (by decide) rfl ?_
  refine gg_sub [0, 1, 2, 3, 4] rfl ?_
  exact w_X9_drawnWorth hF hW hn hA hd 9 0 I J (by omega) (by omega) (fun _ _ => rfl) rfl (fun q hq => absurd hq (Nat.not_lt_zero _))

set_option maxRecDepth 10000 in
theorem c_X9_drawn {l : Launch} {Γ : gC} {ad : Nat → Nat} {I : Nat → Nat → Int} {J : Nat → Nat → Int64} {d : Nat} {f n : Nat} {K : Nat → Nat} {N : Nat → Int64} {Z : Nat → Nat} (hf : f < 12) (hA : gAt I J (41 + 8 * f) n K N Z) (hW : gWf n K N Z) {z : Int} (hd : 6 ≤ d) : gKl l Γ gm_X9_drawn d [.ref (gad (gSS ad) 0), .int (iv (f : Int)), .int (iv z)] (gSS ad, I, J) (fun e μ => ∃ I' J', μ = (gSS ad, I', J') ∧ (∀ p, p ≠ 7 → I' p = I p) ∧ (∀ p, p ≠ 26 → J' p = J p) ∧ e = (if n = 0 then -1000003 else gWo n K N Z (gdr z))) := by
  refine gKl_of gk_X9_drawn.1 (Nat.le_of_ble_eq_true rfl) ?_
  show gG l Γ gm_X9_drawn (d, 0, 0, 0, 0) 0 [(0, .ref (gad (gSS ad) 0)), (1, .int (iv (f : Int))), (2, .int (iv z))] [] _ _
  refine gg_aload_n dX9_drawn_0 0 rfl ?_
  refine gg_iload_n dX9_drawn_1 1 rfl ?_
  refine gg_iconst dX9_drawn_2 ?_
  refine gg_callVi (own := RX9) (yt := gm_X9_refusalOf) rfl gl_RX9_166 gk_X9_refusalOf gr_X9_refusalOf dX9_drawn_3 (c_X9_refusalOf (d := d - 1) hf hA hW (by omega)) sh_0 pl_0 (by decide) rfl rfl rfl (Nat.le_of_ble_eq_true rfl) (by show _ ≤ d; omega) ⟨Nat.le_refl _, Nat.le_refl _⟩ (fun e1 μ' hc => ?_)
  obtain ⟨rfl, ⟨rfl, hn0⟩ | ⟨rfl, hn0⟩⟩ := hc
  · refine gg_istore_n (ls' := [(3, .int (iv (-3))), (0, .ref (gad (gSS ad) 0)), (1, .int (iv (f : Int))), (2, .int (iv z))]) dX9_drawn_6 rfl (by decide) rfl ?_
    refine gg_iload_n dX9_drawn_7 0 rfl ?_
    refine gg_if_eq_f (tgt := 20) dX9_drawn_8 (by decide) (by decide) (by decide) ?_
    refine gg_iload_n dX9_drawn_11 0 rfl ?_
    refine gg_i2l dX9_drawn_12 ?_
    refine gg_ldc2 rfl gq_RX9_170 dX9_drawn_13 ?_
    refine gg_lsub dX9_drawn_16 ?_
    refine gg_goto (tgt := 31) dX9_drawn_17 (by decide) ?_
    refine gg_lretl dX9_drawn_31 rfl ⟨rfl, rfl⟩ ?_
    exact ⟨I, J, rfl, fun _ _ => rfl, fun _ _ => rfl, by rw [if_pos hn0]; decide⟩
  · refine gg_istore_n (ls' := [(3, .int (iv 0)), (0, .ref (gad (gSS ad) 0)), (1, .int (iv (f : Int))), (2, .int (iv z))]) dX9_drawn_6 rfl (by decide) rfl ?_
    refine gg_iload_n dX9_drawn_7 0 rfl ?_
    refine gg_if_eq_t (tgt := 20) dX9_drawn_8 (by decide) (by decide) (by decide) ?_
    refine gg_aload_n dX9_drawn_20 1 rfl ?_
    refine gg_aload_n dX9_drawn_21 1 rfl ?_
    refine gg_getR (k' := 1) rfl gf_RX9_11 dX9_drawn_22 sh_0 pl_0 (by decide) (by decide) rr_0_0 ?_
    refine gg_iload_n dX9_drawn_25 2 rfl ?_
    refine gg_aaldj (t := 4) f (k' := (41 + 8 * f)) dX9_drawn_26 sh_1 (by decide) pl_1 (by decide) rfl hf (rr_1 hf) ?_
    refine gg_iload_n dX9_drawn_27 3 rfl ?_
    refine gg_callVl (own := RX9) (yt := gm_X9_drawnWorth) rfl gl_RX9_229 gk_X9_drawnWorth gr_X9_drawnWorth dX9_drawn_28 (c_X9_drawnWorth (d := d - 1) (gF_fo f hf) hW (by omega) hA (by omega)) sh_0 pl_0 (by decide) rfl rfl rfl (Nat.le_of_ble_eq_true rfl) (by show _ ≤ d; omega) ⟨Nat.le_refl _, Nat.le_refl _⟩ (fun e2 μ' hc => ?_)
    obtain ⟨I2, J2, rfl, hI2, hJ2, rfl⟩ := hc
    refine gg_lretl dX9_drawn_31 rfl ⟨rfl, rfl⟩ ?_
    exact ⟨I2, J2, rfl, hI2, hJ2, by rw [if_neg hn0]⟩

set_option maxRecDepth 10000 in
theorem c_X9_drawn_out {l : Launch} {Γ : gC} {ad : Nat → Nat} {I : Nat → Nat → Int} {J : Nat → Nat → Int64} {d : Nat} {i z : Int} (hi : -2147483648 ≤ i ∧ i ≤ 2147483647) (ho : ¬ (0 ≤ i ∧ i ≤ 11)) (hd : 3 ≤ d) : gKl l Γ gm_X9_drawn d [.ref (gad (gSS ad) 0), .int (iv i), .int (iv z)] (gSS ad, I, J) (fun e μ => μ = (gSS ad, I, J) ∧ e = -1000002) := by
  refine gKl_of gk_X9_drawn.1 (Nat.le_of_ble_eq_true rfl) ?_
  show gG l Γ gm_X9_drawn (d, 0, 0, 0, 0) 0 [(0, .ref (gad (gSS ad) 0)), (1, .int (iv i)), (2, .int (iv z))] [] _ _
  refine gg_aload_n dX9_drawn_0 0 rfl ?_
  refine gg_iload_n dX9_drawn_1 1 rfl ?_
  refine gg_iconst dX9_drawn_2 ?_
  refine gg_callVi (own := RX9) (yt := gm_X9_refusalOf) rfl gl_RX9_166 gk_X9_refusalOf gr_X9_refusalOf dX9_drawn_3 (c_X9_refusalOf_out (d := d - 1) (b := 1) (by omega) (by omega) (by omega) (by omega)) sh_0 pl_0 (by decide) rfl rfl rfl (Nat.le_of_ble_eq_true rfl) (by show _ ≤ d; omega) ⟨Nat.le_refl _, Nat.le_refl _⟩ (fun e1 μ' hc => ?_)
  obtain ⟨rfl, rfl⟩ := hc
  refine gg_istore_n (ls' := [(3, .int (iv (-2))), (0, .ref (gad (gSS ad) 0)), (1, .int (iv i)), (2, .int (iv z))]) dX9_drawn_6 rfl (by decide) rfl ?_
  refine gg_iload_n dX9_drawn_7 0 rfl ?_
  refine gg_if_eq_f (tgt := 20) dX9_drawn_8 (by decide) (by decide) (by decide) ?_
  refine gg_iload_n dX9_drawn_11 0 rfl ?_
  refine gg_i2l dX9_drawn_12 ?_
  refine gg_ldc2 rfl gq_RX9_170 dX9_drawn_13 ?_
  refine gg_lsub dX9_drawn_16 ?_
  refine gg_goto (tgt := 31) dX9_drawn_17 (by decide) ?_
  refine gg_lretl dX9_drawn_31 rfl ⟨rfl, rfl⟩ ?_
  exact ⟨rfl, by decide⟩

set_option maxRecDepth 10000 in
theorem w_X9_sought {l : Launch} {Γ : gC} {ad : Nat → Nat} {I0 : Nat → Nat → Int} {J0 : Nat → Nat → Int64} {d : Nat} {f n : Nat} {K : Nat → Nat} {N : Nat → Int64} {Z : Nat → Nat} (hf : f < 12) (hW : gWf n K N Z) (hn : 0 < n) (hA : gAt I0 J0 (41 + 8 * f) n K N Z) {nm m0 : Nat} {low w what : Int} (hnm : nm < 8) (hm1 : 1 ≤ m0) (hm2 : m0 ≤ 100) (hwh : what = 0 ∨ what = 1) (hd : 5 ≤ d) : ∀ (m : Nat) (i : Nat) (I : Nat → Nat → Int) (J : Nat → Nat → Int64), m0 - i < m → (i ≤ m0) → (∀ p, p ≠ 7 → I p = I0 p) → (∀ p, p ≠ 26 → J p = J0 p) → (∀ q, q < 8 → q ≠ nm → I 7 q = I0 3 q) → (what = 1 → ∀ t, t < i → ¬ (fun k : Nat => gWo n K N Z (gup (I0 3) nm (low + k)) = gi2l w) t) → gG l Γ gm_X9_sought (d, 0, 0, 0, 0) 65 [(10, .int (iv (i : Int))), (9, .int (iv (gCo (fun k : Nat => gWo n K N Z (gup (I0 3) nm (low + k)) = gi2l w) i : Int))), (0, .ref (gad (gSS ad) 0)), (1, .int (iv (f : Int))), (2, .int (iv (nm : Int))), (3, .int (iv low)), (4, .int (iv (m0 : Int))), (5, .int (iv w)), (6, .int (iv what))] [] (gSS ad, I, J) (gDi (fun e μ => ∃ I' J', μ = (gSS ad, I', J') ∧ (∀ p, p ≠ 7 → I' p = I0 p) ∧ (∀ p, p ≠ 26 → J' p = J0 p) ∧ e = (if what = 0 then (gCo (fun k : Nat => gWo n K N Z (gup (I0 3) nm (low + k)) = gi2l w) m0 : Int) else if gFi (fun k : Nat => gWo n K N Z (gup (I0 3) nm (low + k)) = gi2l w) m0 = -1 then 0 else low + gFi (fun k : Nat => gWo n K N Z (gup (I0 3) nm (low + k)) = gi2l w) m0))) := by
  intro m
  induction m with
  | zero => intros; omega
  | succ m ih =>
    intro i I J hm hi hI hJ hs hno
    refine gg_iload dX9_sought_65 0 rfl ?_
    refine gg_iload dX9_sought_67 6 rfl ?_
    refine gg_icmp_ge (tgt := 126) dX9_sought_69 (by decide) (by omega) (fun hx => ?_) (fun hx => ?_)
    · have h8 : i = m0 := by omega
      refine gg_iload dX9_sought_126 1 rfl ?_
      refine gg_ireti dX9_sought_128 rfl ⟨rfl, rfl⟩ ?_
      subst h8
      refine ⟨I, J, rfl, hI, hJ, ?_⟩
      obtain hw0 | hw1 := hwh
      · rw [if_pos hw0]
      · have h0 := gFi_no _ (hno hw1)
        rw [if_neg (by omega), if_pos h0]
        have := (gFi_co _).1 h0
        omega
    · have h8 : i < m0 := by omega
      refine gg_aload_n dX9_sought_72 2 rfl ?_
      refine gg_getR (k' := 7) rfl gf_RX9_34 dX9_sought_73 sh_0 pl_0 (by decide) (by decide) rr_0_7 ?_
      refine gg_iload_n dX9_sought_76 4 rfl ?_
      refine gg_iload_n dX9_sought_77 5 rfl ?_
      refine gg_iload dX9_sought_78 0 rfl ?_
      refine gg_iadd dX9_sought_80 ?_
      refine gg_iastj nm dX9_sought_81 sh_7 pl_7 (by decide) rfl hnm ?_
      refine gg_memI (fun I1 hI1 => ?_)
      have hup : ∀ q, q < 8 → I1 7 q = gup (I0 3) nm (low + (i : Int)) q := by
        intro q hq
        rw [hI1]
        by_cases hqn : q = nm
        · rw [hqn, gu_s]; simp [gup]
        · rw [gu_n (by omega), hs q hq hqn]; simp [gup, hqn]
      have hI1o : ∀ p, p ≠ 7 → I1 p = I0 p := fun p hp => by rw [hI1, gu_other hp]; exact hI p hp
      clear hI1
      refine gg_aload_n dX9_sought_82 2 rfl ?_
      refine gg_getR (k' := 25) rfl gf_RX9_68 dX9_sought_83 sh_0 pl_0 (by decide) (by decide) rr_0_12 ?_
      refine gg_aload_n dX9_sought_86 2 rfl ?_
      refine gg_getR (k' := 1) rfl gf_RX9_11 dX9_sought_87 sh_0 pl_0 (by decide) (by decide) rr_0_0 ?_
      refine gg_iload_n dX9_sought_90 3 rfl ?_
      refine gg_aaldj (t := 4) f (k' := (41 + 8 * f)) dX9_sought_91 sh_1 (by decide) pl_1 (by decide) rfl hf (rr_1 hf) ?_
      refine gg_aload_n dX9_sought_92 2 rfl ?_
      refine gg_getR (k' := 7) rfl gf_RX9_34 dX9_sought_93 sh_0 pl_0 (by decide) (by decide) rr_0_7 ?_
      refine gg_callVl (own := RX9) (yt := gm_X8_worthOf) rfl gl_RX9_172 gk_X8_worthOf gr_X8_worthOf dX9_sought_96 (c_X8_worthOf (d := d - 1) (gF_fo f hf) (gAt_7 (gF_fo f hf) hA hI1o hJ) hW (p := 7) sh_7 pl_7 (by omega)) sh_25 pl_25 (by decide) rfl rfl rfl (Nat.le_of_ble_eq_true rfl) (by show _ ≤ d; omega) ⟨Nat.le_refl _, Nat.le_refl _⟩ (fun e1 μ' hc => ?_)
      obtain ⟨J2, rfl, hw2, rfl, hJ2⟩ := hc
      refine gg_toL (b := gWo n K N Z (gup (I0 3) nm (low + (i : Int)))) (gIsW_uni hW hup hw2 (gWc_is n K N Z _) 0 hn) ?_
      refine gg_iload dX9_sought_99 7 rfl ?_
      refine gg_i2l dX9_sought_101 ?_
      refine gg_lcmp_ne (tgt := 120) dX9_sought_102 dX9_sought_103 (by decide) (fun hb => ?_) (fun hb => ?_)
      · refine gg_iincv (ls' := [(10, .int (iv ((i + 1 : Nat) : Int))), (9, .int (iv (gCo (fun k : Nat => gWo n K N Z (gup (I0 3) nm (low + k)) = gi2l w) i : Int))), (0, .ref (gad (gSS ad) 0)), (1, .int (iv (f : Int))), (2, .int (iv (nm : Int))), (3, .int (iv low)), (4, .int (iv (m0 : Int))), (5, .int (iv w)), (6, .int (iv what))]) dX9_sought_120 0 rfl (by omega) (by decide) rfl ?_
        refine gg_goto (tgt := 65) dX9_sought_123 (by decide) ?_
        rw [← gCo_f (P := (fun k : Nat => gWo n K N Z (gup (I0 3) nm (low + k)) = gi2l w)) hb]
        refine ih (i + 1) I1 J2 (by omega) (by omega) hI1o (fun p hp => by rw [hJ2 p hp]; exact hJ p hp) (fun q hq hqn => by rw [hup q hq]; simp [gup, hqn]) (fun hw1 t ht => ?_)
        by_cases hti : t = i
        · subst hti
          exact hb
        · exact hno hw1 t (by omega)
      · refine gg_iload dX9_sought_106 8 rfl ?_
        refine gg_iconst dX9_sought_108 ?_
        refine gg_icmp_ne (tgt := 117) dX9_sought_109 (by decide) (by omega) (fun hwx => ?_) (fun hwx => ?_)
        · refine gg_iincv (ls' := [(9, .int (iv (gCo (fun k : Nat => gWo n K N Z (gup (I0 3) nm (low + k)) = gi2l w) (i + 1) : Int))), (10, .int (iv (i : Int))), (0, .ref (gad (gSS ad) 0)), (1, .int (iv (f : Int))), (2, .int (iv (nm : Int))), (3, .int (iv low)), (4, .int (iv (m0 : Int))), (5, .int (iv w)), (6, .int (iv what))]) dX9_sought_117 1 rfl (by rw [gCo_t (P := (fun k : Nat => gWo n K N Z (gup (I0 3) nm (low + k)) = gi2l w)) hb]; rfl) (by decide) rfl ?_
          refine gg_iincv (ls' := [(10, .int (iv ((i + 1 : Nat) : Int))), (9, .int (iv (gCo (fun k : Nat => gWo n K N Z (gup (I0 3) nm (low + k)) = gi2l w) (i + 1) : Int))), (0, .ref (gad (gSS ad) 0)), (1, .int (iv (f : Int))), (2, .int (iv (nm : Int))), (3, .int (iv low)), (4, .int (iv (m0 : Int))), (5, .int (iv w)), (6, .int (iv what))]) dX9_sought_120 1 rfl (by omega) (by decide) rfl ?_
          refine gg_goto (tgt := 65) dX9_sought_123 (by decide) ?_
          refine ih (i + 1) I1 J2 (by omega) (by omega) hI1o (fun p hp => by rw [hJ2 p hp]; exact hJ p hp) (fun q hq hqn => by rw [hup q hq]; simp [gup, hqn]) (fun hw1 t ht => ?_)
          exact absurd hw1 (by omega)
        · refine gg_iload_n dX9_sought_112 5 rfl ?_
          refine gg_iload dX9_sought_113 0 rfl ?_
          refine gg_iadd dX9_sought_115 ?_
          refine gg_ireti dX9_sought_116 rfl ⟨rfl, rfl⟩ ?_
          have hw1 : what = 1 := by omega
          refine ⟨I1, J2, rfl, hI1o, fun p hp => by rw [hJ2 p hp]; exact hJ p hp, ?_⟩
          rw [if_neg (by omega), gFi_at (hno hw1) hb m0 h8, if_neg (by omega)]

set_option maxRecDepth 10000 in
theorem c_X9_sought {l : Launch} {Γ : gC} {ad : Nat → Nat} {I : Nat → Nat → Int} {J : Nat → Nat → Int64} {d : Nat} {f n : Nat} {K : Nat → Nat} {N : Nat → Int64} {Z : Nat → Nat} (hf : f < 12) (hA : gAt I J (41 + 8 * f) n K N Z) (hW : gWf n K N Z) {nm m0 : Nat} {low w what : Int} (hnm : nm < 8) (hm1 : 1 ≤ m0) (hm2 : m0 ≤ 100) (hwh : what = 0 ∨ what = 1) (hd : 6 ≤ d) : gKi l Γ gm_X9_sought d [.ref (gad (gSS ad) 0), .int (iv (f : Int)), .int (iv (nm : Int)), .int (iv low), .int (iv (m0 : Int)), .int (iv w), .int (iv what)] (gSS ad, I, J) (fun e μ => (n = 0 ∧ μ = (gSS ad, I, J) ∧ e = -3) ∨ (0 < n ∧ ∃ I' J', μ = (gSS ad, I', J') ∧ (∀ p, p ≠ 7 → I' p = I p) ∧ (∀ p, p ≠ 26 → J' p = J p) ∧ e = (if what = 0 then (gCo (fun k : Nat => gWo n K N Z (gup (I 3) nm (low + k)) = gi2l w) m0 : Int) else if gFi (fun k : Nat => gWo n K N Z (gup (I 3) nm (low + k)) = gi2l w) m0 = -1 then 0 else low + gFi (fun k : Nat => gWo n K N Z (gup (I 3) nm (low + k)) = gi2l w) m0))) := by
  refine gKi_of gk_X9_sought.1 (Nat.le_of_ble_eq_true rfl) ?_
  show gG l Γ gm_X9_sought (d, 0, 0, 0, 0) 0 [(0, .ref (gad (gSS ad) 0)), (1, .int (iv (f : Int))), (2, .int (iv (nm : Int))), (3, .int (iv low)), (4, .int (iv (m0 : Int))), (5, .int (iv w)), (6, .int (iv what))] [] _ _
  refine gg_iload_n dX9_sought_0 2 rfl ?_
  refine gg_callSi (own := RX9) (yt := gm_X9_isName) rfl gl_RX9_122 gk_X9_isName gr_X9_isName dX9_sought_1 (c_X9_isName (d := d - 1) (by omega)) rfl rfl (Nat.le_of_ble_eq_true rfl) (by show _ ≤ d; omega) ⟨Nat.le_refl _, Nat.le_refl _⟩ (fun e1 μ' hc => ?_)
  obtain ⟨rfl, ⟨rfl, hb2⟩ | ⟨rfl, hb2⟩⟩ := hc
  rotate_left
  · omega
  refine gg_if_eq_f (tgt := 35) dX9_sought_4 (by decide) (by decide) (by decide) ?_
  refine gg_iload dX9_sought_7 4 rfl ?_
  refine gg_iconst dX9_sought_9 ?_
  refine gg_icmp_lt_f (tgt := 35) dX9_sought_10 (by decide) (by omega) (by omega) ?_
  refine gg_iload dX9_sought_13 4 rfl ?_
  refine gg_bipush dX9_sought_15 (by decide) ?_
  refine gg_icmp_gt_f (tgt := 35) dX9_sought_17 (by decide) (by omega) (by omega) ?_
  refine gg_iload dX9_sought_20 6 rfl ?_
  refine gg_if_eq (tgt := 31) dX9_sought_22 (by decide) (by omega) (fun hwa => ?_) (fun hwa => ?_)
  · refine gg_iconst dX9_sought_31 ?_
    refine gg_goto (tgt := 36) dX9_sought_32 (by decide) ?_
    refine gg_istore (ls' := [(7, .int (iv 1)), (0, .ref (gad (gSS ad) 0)), (1, .int (iv (f : Int))), (2, .int (iv (nm : Int))), (3, .int (iv low)), (4, .int (iv (m0 : Int))), (5, .int (iv w)), (6, .int (iv what))]) dX9_sought_36 (by decide) rfl ?_
    refine gg_aload_n dX9_sought_38 1 rfl ?_
    refine gg_iload_n dX9_sought_39 2 rfl ?_
    refine gg_iload dX9_sought_40 0 rfl ?_
    refine gg_callVi (own := RX9) (yt := gm_X9_refusalOf) rfl gl_RX9_166 gk_X9_refusalOf gr_X9_refusalOf dX9_sought_42 (c_X9_refusalOf (d := d - 1) hf hA hW (by omega)) sh_0 pl_0 (by decide) rfl rfl rfl (Nat.le_of_ble_eq_true rfl) (by show _ ≤ d; omega) ⟨Nat.le_refl _, Nat.le_refl _⟩ (fun e3 μ' hc => ?_)
    obtain ⟨rfl, ⟨rfl, hn0⟩ | ⟨rfl, hn0⟩⟩ := hc
    · refine gg_istore (ls' := [(8, .int (iv (-3))), (7, .int (iv 1)), (0, .ref (gad (gSS ad) 0)), (1, .int (iv (f : Int))), (2, .int (iv (nm : Int))), (3, .int (iv low)), (4, .int (iv (m0 : Int))), (5, .int (iv w)), (6, .int (iv what))]) dX9_sought_45 (by decide) rfl ?_
      refine gg_iload dX9_sought_47 0 rfl ?_
      refine gg_if_eq_f (tgt := 55) dX9_sought_49 (by decide) (by decide) (by decide) ?_
      refine gg_iload dX9_sought_52 0 rfl ?_
      refine gg_ireti dX9_sought_54 rfl ⟨rfl, rfl⟩ ?_
      exact Or.inl ⟨hn0, rfl, rfl⟩
    · refine gg_istore (ls' := [(8, .int (iv 0)), (7, .int (iv 1)), (0, .ref (gad (gSS ad) 0)), (1, .int (iv (f : Int))), (2, .int (iv (nm : Int))), (3, .int (iv low)), (4, .int (iv (m0 : Int))), (5, .int (iv w)), (6, .int (iv what))]) dX9_sought_45 (by decide) rfl ?_
      refine gg_iload dX9_sought_47 0 rfl ?_
      refine gg_if_eq_t (tgt := 55) dX9_sought_49 (by decide) (by decide) (by decide) ?_
      refine gg_aload_n dX9_sought_55 2 rfl ?_
      refine gg_callVv (own := RX9) (yt := gm_X9_supposeValues) rfl gl_RX9_226 gk_X9_supposeValues gr_X9_supposeValues dX9_sought_56 (c_X9_supposeValues (d := d - 1) (by omega)) sh_0 pl_0 (by decide) rfl rfl rfl (Nat.le_of_ble_eq_true rfl) (by show _ ≤ d; omega) ⟨Nat.le_refl _, Nat.le_refl _⟩ (fun μ' hc => ?_)
      obtain ⟨I2, rfl, hI2, hs2⟩ := hc
      refine gg_iconst dX9_sought_59 ?_
      refine gg_istore (ls' := [(9, .int (iv 0)), (8, .int (iv 0)), (7, .int (iv 1)), (0, .ref (gad (gSS ad) 0)), (1, .int (iv (f : Int))), (2, .int (iv (nm : Int))), (3, .int (iv low)), (4, .int (iv (m0 : Int))), (5, .int (iv w)), (6, .int (iv what))]) dX9_sought_60 (by decide) rfl ?_
      refine gg_iconst dX9_sought_62 ?_
      refine gg_istore (ls' := [(10, .int (iv 0)), (9, .int (iv 0)), (8, .int (iv 0)), (7, .int (iv 1)), (0, .ref (gad (gSS ad) 0)), (1, .int (iv (f : Int))), (2, .int (iv (nm : Int))), (3, .int (iv low)), (4, .int (iv (m0 : Int))), (5, .int (iv w)), (6, .int (iv what))]) dX9_sought_63 (by decide) rfl ?_
      refine gg_sub [0, 1, 4, 5, 6, 7, 8, 9, 10] rfl ?_
      refine gG_post (w_X9_sought hf hW (by omega) (gAt_7 (gF_fo f hf) hA hI2 (fun _ _ => rfl)) hnm hm1 hm2 hwh (by omega) (m0 + 1) 0 I2 J (by omega) (by omega) (fun _ _ => rfl) (fun _ _ => rfl) (fun q hq _ => by rw [hs2 q hq, hI2 3 (by omega)]) (fun _ t ht => absurd ht (Nat.not_lt_zero _))) ?_
      rintro r μ ⟨e, rfl, I3, J3, rfl, hI3, hJ3, he⟩
      refine ⟨e, rfl, Or.inr ⟨by omega, I3, J3, rfl, fun p hp => by rw [hI3 p hp, hI2 p hp], hJ3, ?_⟩⟩
      rw [he, hI2 3 (by omega)]
  · refine gg_iload dX9_sought_25 6 rfl ?_
    refine gg_iconst dX9_sought_27 ?_
    refine gg_icmp_ne_f (tgt := 35) dX9_sought_28 (by decide) (by omega) (by omega) ?_
    refine gg_iconst dX9_sought_31 ?_
    refine gg_goto (tgt := 36) dX9_sought_32 (by decide) ?_
    refine gg_istore (ls' := [(7, .int (iv 1)), (0, .ref (gad (gSS ad) 0)), (1, .int (iv (f : Int))), (2, .int (iv (nm : Int))), (3, .int (iv low)), (4, .int (iv (m0 : Int))), (5, .int (iv w)), (6, .int (iv what))]) dX9_sought_36 (by decide) rfl ?_
    refine gg_aload_n dX9_sought_38 1 rfl ?_
    refine gg_iload_n dX9_sought_39 2 rfl ?_
    refine gg_iload dX9_sought_40 0 rfl ?_
    refine gg_callVi (own := RX9) (yt := gm_X9_refusalOf) rfl gl_RX9_166 gk_X9_refusalOf gr_X9_refusalOf dX9_sought_42 (c_X9_refusalOf (d := d - 1) hf hA hW (by omega)) sh_0 pl_0 (by decide) rfl rfl rfl (Nat.le_of_ble_eq_true rfl) (by show _ ≤ d; omega) ⟨Nat.le_refl _, Nat.le_refl _⟩ (fun e5 μ' hc => ?_)
    obtain ⟨rfl, ⟨rfl, hn0⟩ | ⟨rfl, hn0⟩⟩ := hc
    · refine gg_istore (ls' := [(8, .int (iv (-3))), (7, .int (iv 1)), (0, .ref (gad (gSS ad) 0)), (1, .int (iv (f : Int))), (2, .int (iv (nm : Int))), (3, .int (iv low)), (4, .int (iv (m0 : Int))), (5, .int (iv w)), (6, .int (iv what))]) dX9_sought_45 (by decide) rfl ?_
      refine gg_iload dX9_sought_47 0 rfl ?_
      refine gg_if_eq_f (tgt := 55) dX9_sought_49 (by decide) (by decide) (by decide) ?_
      refine gg_iload dX9_sought_52 0 rfl ?_
      refine gg_ireti dX9_sought_54 rfl ⟨rfl, rfl⟩ ?_
      exact Or.inl ⟨hn0, rfl, rfl⟩
    · refine gg_istore (ls' := [(8, .int (iv 0)), (7, .int (iv 1)), (0, .ref (gad (gSS ad) 0)), (1, .int (iv (f : Int))), (2, .int (iv (nm : Int))), (3, .int (iv low)), (4, .int (iv (m0 : Int))), (5, .int (iv w)), (6, .int (iv what))]) dX9_sought_45 (by decide) rfl ?_
      refine gg_iload dX9_sought_47 0 rfl ?_
      refine gg_if_eq_t (tgt := 55) dX9_sought_49 (by decide) (by decide) (by decide) ?_
      refine gg_aload_n dX9_sought_55 2 rfl ?_
      refine gg_callVv (own := RX9) (yt := gm_X9_supposeValues) rfl gl_RX9_226 gk_X9_supposeValues gr_X9_supposeValues dX9_sought_56 (c_X9_supposeValues (d := d - 1) (by omega)) sh_0 pl_0 (by decide) rfl rfl rfl (Nat.le_of_ble_eq_true rfl) (by show _ ≤ d; omega) ⟨Nat.le_refl _, Nat.le_refl _⟩ (fun μ' hc => ?_)
      obtain ⟨I2, rfl, hI2, hs2⟩ := hc
      refine gg_iconst dX9_sought_59 ?_
      refine gg_istore (ls' := [(9, .int (iv 0)), (8, .int (iv 0)), (7, .int (iv 1)), (0, .ref (gad (gSS ad) 0)), (1, .int (iv (f : Int))), (2, .int (iv (nm : Int))), (3, .int (iv low)), (4, .int (iv (m0 : Int))), (5, .int (iv w)), (6, .int (iv what))]) dX9_sought_60 (by decide) rfl ?_
      refine gg_iconst dX9_sought_62 ?_
      refine gg_istore (ls' := [(10, .int (iv 0)), (9, .int (iv 0)), (8, .int (iv 0)), (7, .int (iv 1)), (0, .ref (gad (gSS ad) 0)), (1, .int (iv (f : Int))), (2, .int (iv (nm : Int))), (3, .int (iv low)), (4, .int (iv (m0 : Int))), (5, .int (iv w)), (6, .int (iv what))]) dX9_sought_63 (by decide) rfl ?_
      refine gg_sub [0, 1, 4, 5, 6, 7, 8, 9, 10] rfl ?_
      refine gG_post (w_X9_sought hf hW (by omega) (gAt_7 (gF_fo f hf) hA hI2 (fun _ _ => rfl)) hnm hm1 hm2 hwh (by omega) (m0 + 1) 0 I2 J (by omega) (by omega) (fun _ _ => rfl) (fun _ _ => rfl) (fun q hq _ => by rw [hs2 q hq, hI2 3 (by omega)]) (fun _ t ht => absurd ht (Nat.not_lt_zero _))) ?_
      rintro r μ ⟨e, rfl, I3, J3, rfl, hI3, hJ3, he⟩
      refine ⟨e, rfl, Or.inr ⟨by omega, I3, J3, rfl, fun p hp => by rw [hI3 p hp, hI2 p hp], hJ3, ?_⟩⟩
      rw [he, hI2 3 (by omega)]

set_option maxRecDepth 10000 in
theorem c_X9_sought_out {l : Launch} {Γ : gC} {ad : Nat → Nat} {I : Nat → Nat → Int} {J : Nat → Nat → Int64} {d : Nat} {i nm low m0 w what : Int} (hi : -2147483648 ≤ i ∧ i ≤ 2147483647) (hnm : -2147483648 ≤ nm ∧ nm ≤ 2147483647) (hm0 : -2147483648 ≤ m0 ∧ m0 ≤ 2147483647) (hwh : -2147483648 ≤ what ∧ what ≤ 2147483647) (ho : ¬ (0 ≤ i ∧ i ≤ 11 ∧ 0 ≤ nm ∧ nm ≤ 7 ∧ 1 ≤ m0 ∧ m0 ≤ 100 ∧ 0 ≤ what ∧ what ≤ 1)) (hd : 3 ≤ d) : gKi l Γ gm_X9_sought d [.ref (gad (gSS ad) 0), .int (iv i), .int (iv nm), .int (iv low), .int (iv m0), .int (iv w), .int (iv what)] (gSS ad, I, J) (fun e μ => μ = (gSS ad, I, J) ∧ e = -2) := by
  refine gKi_of gk_X9_sought.1 (Nat.le_of_ble_eq_true rfl) ?_
  show gG l Γ gm_X9_sought (d, 0, 0, 0, 0) 0 [(0, .ref (gad (gSS ad) 0)), (1, .int (iv i)), (2, .int (iv nm)), (3, .int (iv low)), (4, .int (iv m0)), (5, .int (iv w)), (6, .int (iv what))] [] _ _
  refine gg_iload_n dX9_sought_0 2 rfl ?_
  refine gg_callSi (own := RX9) (yt := gm_X9_isName) rfl gl_RX9_122 gk_X9_isName gr_X9_isName dX9_sought_1 (c_X9_isName (d := d - 1) (by omega)) rfl rfl (Nat.le_of_ble_eq_true rfl) (by show _ ≤ d; omega) ⟨Nat.le_refl _, Nat.le_refl _⟩ (fun e1 μ' hc => ?_)
  obtain ⟨rfl, ⟨rfl, hb2⟩ | ⟨rfl, hb2⟩⟩ := hc
  · refine gg_if_eq_f (tgt := 35) dX9_sought_4 (by decide) (by decide) (by decide) ?_
    refine gg_iload dX9_sought_7 4 rfl ?_
    refine gg_iconst dX9_sought_9 ?_
    refine gg_icmp_lt (tgt := 35) dX9_sought_10 (by decide) (by omega) (fun hb3 => ?_) (fun hb3 => ?_)
    · refine gg_iconst dX9_sought_35 ?_
      refine gg_istore (ls' := [(7, .int (iv 0)), (0, .ref (gad (gSS ad) 0)), (1, .int (iv i)), (2, .int (iv nm)), (3, .int (iv low)), (4, .int (iv m0)), (5, .int (iv w)), (6, .int (iv what))]) dX9_sought_36 (by decide) rfl ?_
      refine gg_aload_n dX9_sought_38 1 rfl ?_
      refine gg_iload_n dX9_sought_39 2 rfl ?_
      refine gg_iload dX9_sought_40 0 rfl ?_
      refine gg_callVi (own := RX9) (yt := gm_X9_refusalOf) rfl gl_RX9_166 gk_X9_refusalOf gr_X9_refusalOf dX9_sought_42 (c_X9_refusalOf_out (d := d - 1) (b := 0) (by omega) (by omega) (by omega) (by omega)) sh_0 pl_0 (by decide) rfl rfl rfl (Nat.le_of_ble_eq_true rfl) (by show _ ≤ d; omega) ⟨Nat.le_refl _, Nat.le_refl _⟩ (fun e4 μ' hc => ?_)
      obtain ⟨rfl, rfl⟩ := hc
      refine gg_istore (ls' := [(8, .int (iv (-2))), (7, .int (iv 0)), (0, .ref (gad (gSS ad) 0)), (1, .int (iv i)), (2, .int (iv nm)), (3, .int (iv low)), (4, .int (iv m0)), (5, .int (iv w)), (6, .int (iv what))]) dX9_sought_45 (by decide) rfl ?_
      refine gg_iload dX9_sought_47 0 rfl ?_
      refine gg_if_eq_f (tgt := 55) dX9_sought_49 (by decide) (by decide) (by decide) ?_
      refine gg_iload dX9_sought_52 0 rfl ?_
      refine gg_ireti dX9_sought_54 rfl ⟨rfl, rfl⟩ ?_
      exact ⟨rfl, rfl⟩
    · refine gg_iload dX9_sought_13 4 rfl ?_
      refine gg_bipush dX9_sought_15 (by decide) ?_
      refine gg_icmp_gt (tgt := 35) dX9_sought_17 (by decide) (by omega) (fun hb5 => ?_) (fun hb5 => ?_)
      · refine gg_iconst dX9_sought_35 ?_
        refine gg_istore (ls' := [(7, .int (iv 0)), (0, .ref (gad (gSS ad) 0)), (1, .int (iv i)), (2, .int (iv nm)), (3, .int (iv low)), (4, .int (iv m0)), (5, .int (iv w)), (6, .int (iv what))]) dX9_sought_36 (by decide) rfl ?_
        refine gg_aload_n dX9_sought_38 1 rfl ?_
        refine gg_iload_n dX9_sought_39 2 rfl ?_
        refine gg_iload dX9_sought_40 0 rfl ?_
        refine gg_callVi (own := RX9) (yt := gm_X9_refusalOf) rfl gl_RX9_166 gk_X9_refusalOf gr_X9_refusalOf dX9_sought_42 (c_X9_refusalOf_out (d := d - 1) (b := 0) (by omega) (by omega) (by omega) (by omega)) sh_0 pl_0 (by decide) rfl rfl rfl (Nat.le_of_ble_eq_true rfl) (by show _ ≤ d; omega) ⟨Nat.le_refl _, Nat.le_refl _⟩ (fun e6 μ' hc => ?_)
        obtain ⟨rfl, rfl⟩ := hc
        refine gg_istore (ls' := [(8, .int (iv (-2))), (7, .int (iv 0)), (0, .ref (gad (gSS ad) 0)), (1, .int (iv i)), (2, .int (iv nm)), (3, .int (iv low)), (4, .int (iv m0)), (5, .int (iv w)), (6, .int (iv what))]) dX9_sought_45 (by decide) rfl ?_
        refine gg_iload dX9_sought_47 0 rfl ?_
        refine gg_if_eq_f (tgt := 55) dX9_sought_49 (by decide) (by decide) (by decide) ?_
        refine gg_iload dX9_sought_52 0 rfl ?_
        refine gg_ireti dX9_sought_54 rfl ⟨rfl, rfl⟩ ?_
        exact ⟨rfl, rfl⟩
      · refine gg_iload dX9_sought_20 6 rfl ?_
        refine gg_if_eq (tgt := 31) dX9_sought_22 (by decide) (by omega) (fun hb7 => ?_) (fun hb7 => ?_)
        · refine gg_iconst dX9_sought_31 ?_
          refine gg_goto (tgt := 36) dX9_sought_32 (by decide) ?_
          refine gg_istore (ls' := [(7, .int (iv 1)), (0, .ref (gad (gSS ad) 0)), (1, .int (iv i)), (2, .int (iv nm)), (3, .int (iv low)), (4, .int (iv m0)), (5, .int (iv w)), (6, .int (iv what))]) dX9_sought_36 (by decide) rfl ?_
          refine gg_aload_n dX9_sought_38 1 rfl ?_
          refine gg_iload_n dX9_sought_39 2 rfl ?_
          refine gg_iload dX9_sought_40 0 rfl ?_
          refine gg_callVi (own := RX9) (yt := gm_X9_refusalOf) rfl gl_RX9_166 gk_X9_refusalOf gr_X9_refusalOf dX9_sought_42 (c_X9_refusalOf_out (d := d - 1) (b := 1) (by omega) (by omega) (by omega) (by omega)) sh_0 pl_0 (by decide) rfl rfl rfl (Nat.le_of_ble_eq_true rfl) (by show _ ≤ d; omega) ⟨Nat.le_refl _, Nat.le_refl _⟩ (fun e8 μ' hc => ?_)
          obtain ⟨rfl, rfl⟩ := hc
          refine gg_istore (ls' := [(8, .int (iv (-2))), (7, .int (iv 1)), (0, .ref (gad (gSS ad) 0)), (1, .int (iv i)), (2, .int (iv nm)), (3, .int (iv low)), (4, .int (iv m0)), (5, .int (iv w)), (6, .int (iv what))]) dX9_sought_45 (by decide) rfl ?_
          refine gg_iload dX9_sought_47 0 rfl ?_
          refine gg_if_eq_f (tgt := 55) dX9_sought_49 (by decide) (by decide) (by decide) ?_
          refine gg_iload dX9_sought_52 0 rfl ?_
          refine gg_ireti dX9_sought_54 rfl ⟨rfl, rfl⟩ ?_
          exact ⟨rfl, rfl⟩
        · refine gg_iload dX9_sought_25 6 rfl ?_
          refine gg_iconst dX9_sought_27 ?_
          refine gg_icmp_ne (tgt := 35) dX9_sought_28 (by decide) (by omega) (fun hb9 => ?_) (fun hb9 => ?_)
          · refine gg_iconst dX9_sought_35 ?_
            refine gg_istore (ls' := [(7, .int (iv 0)), (0, .ref (gad (gSS ad) 0)), (1, .int (iv i)), (2, .int (iv nm)), (3, .int (iv low)), (4, .int (iv m0)), (5, .int (iv w)), (6, .int (iv what))]) dX9_sought_36 (by decide) rfl ?_
            refine gg_aload_n dX9_sought_38 1 rfl ?_
            refine gg_iload_n dX9_sought_39 2 rfl ?_
            refine gg_iload dX9_sought_40 0 rfl ?_
            refine gg_callVi (own := RX9) (yt := gm_X9_refusalOf) rfl gl_RX9_166 gk_X9_refusalOf gr_X9_refusalOf dX9_sought_42 (c_X9_refusalOf_out (d := d - 1) (b := 0) (by omega) (by omega) (by omega) (by omega)) sh_0 pl_0 (by decide) rfl rfl rfl (Nat.le_of_ble_eq_true rfl) (by show _ ≤ d; omega) ⟨Nat.le_refl _, Nat.le_refl _⟩ (fun e10 μ' hc => ?_)
            obtain ⟨rfl, rfl⟩ := hc
            refine gg_istore (ls' := [(8, .int (iv (-2))), (7, .int (iv 0)), (0, .ref (gad (gSS ad) 0)), (1, .int (iv i)), (2, .int (iv nm)), (3, .int (iv low)), (4, .int (iv m0)), (5, .int (iv w)), (6, .int (iv what))]) dX9_sought_45 (by decide) rfl ?_
            refine gg_iload dX9_sought_47 0 rfl ?_
            refine gg_if_eq_f (tgt := 55) dX9_sought_49 (by decide) (by decide) (by decide) ?_
            refine gg_iload dX9_sought_52 0 rfl ?_
            refine gg_ireti dX9_sought_54 rfl ⟨rfl, rfl⟩ ?_
            exact ⟨rfl, rfl⟩
          · refine gg_iconst dX9_sought_31 ?_
            refine gg_goto (tgt := 36) dX9_sought_32 (by decide) ?_
            refine gg_istore (ls' := [(7, .int (iv 1)), (0, .ref (gad (gSS ad) 0)), (1, .int (iv i)), (2, .int (iv nm)), (3, .int (iv low)), (4, .int (iv m0)), (5, .int (iv w)), (6, .int (iv what))]) dX9_sought_36 (by decide) rfl ?_
            refine gg_aload_n dX9_sought_38 1 rfl ?_
            refine gg_iload_n dX9_sought_39 2 rfl ?_
            refine gg_iload dX9_sought_40 0 rfl ?_
            refine gg_callVi (own := RX9) (yt := gm_X9_refusalOf) rfl gl_RX9_166 gk_X9_refusalOf gr_X9_refusalOf dX9_sought_42 (c_X9_refusalOf_out (d := d - 1) (b := 1) (by omega) (by omega) (by omega) (by omega)) sh_0 pl_0 (by decide) rfl rfl rfl (Nat.le_of_ble_eq_true rfl) (by show _ ≤ d; omega) ⟨Nat.le_refl _, Nat.le_refl _⟩ (fun e11 μ' hc => ?_)
            obtain ⟨rfl, rfl⟩ := hc
            refine gg_istore (ls' := [(8, .int (iv (-2))), (7, .int (iv 1)), (0, .ref (gad (gSS ad) 0)), (1, .int (iv i)), (2, .int (iv nm)), (3, .int (iv low)), (4, .int (iv m0)), (5, .int (iv w)), (6, .int (iv what))]) dX9_sought_45 (by decide) rfl ?_
            refine gg_iload dX9_sought_47 0 rfl ?_
            refine gg_if_eq_f (tgt := 55) dX9_sought_49 (by decide) (by decide) (by decide) ?_
            refine gg_iload dX9_sought_52 0 rfl ?_
            refine gg_ireti dX9_sought_54 rfl ⟨rfl, rfl⟩ ?_
            exact ⟨rfl, rfl⟩
  · refine gg_if_eq_t (tgt := 35) dX9_sought_4 (by decide) (by decide) (by decide) ?_
    refine gg_iconst dX9_sought_35 ?_
    refine gg_istore (ls' := [(7, .int (iv 0)), (0, .ref (gad (gSS ad) 0)), (1, .int (iv i)), (2, .int (iv nm)), (3, .int (iv low)), (4, .int (iv m0)), (5, .int (iv w)), (6, .int (iv what))]) dX9_sought_36 (by decide) rfl ?_
    refine gg_aload_n dX9_sought_38 1 rfl ?_
    refine gg_iload_n dX9_sought_39 2 rfl ?_
    refine gg_iload dX9_sought_40 0 rfl ?_
    refine gg_callVi (own := RX9) (yt := gm_X9_refusalOf) rfl gl_RX9_166 gk_X9_refusalOf gr_X9_refusalOf dX9_sought_42 (c_X9_refusalOf_out (d := d - 1) (b := 0) (by omega) (by omega) (by omega) (by omega)) sh_0 pl_0 (by decide) rfl rfl rfl (Nat.le_of_ble_eq_true rfl) (by show _ ≤ d; omega) ⟨Nat.le_refl _, Nat.le_refl _⟩ (fun e12 μ' hc => ?_)
    obtain ⟨rfl, rfl⟩ := hc
    refine gg_istore (ls' := [(8, .int (iv (-2))), (7, .int (iv 0)), (0, .ref (gad (gSS ad) 0)), (1, .int (iv i)), (2, .int (iv nm)), (3, .int (iv low)), (4, .int (iv m0)), (5, .int (iv w)), (6, .int (iv what))]) dX9_sought_45 (by decide) rfl ?_
    refine gg_iload dX9_sought_47 0 rfl ?_
    refine gg_if_eq_f (tgt := 55) dX9_sought_49 (by decide) (by decide) (by decide) ?_
    refine gg_iload dX9_sought_52 0 rfl ?_
    refine gg_ireti dX9_sought_54 rfl ⟨rfl, rfl⟩ ?_
    exact ⟨rfl, rfl⟩

