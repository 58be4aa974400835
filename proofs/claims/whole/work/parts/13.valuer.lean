/-! Valuer: what a row's nodes are worth -/
theorem gg_toL {l : Launch} {Γ : gC} {mt : gY} {B : gB} {pc : Nat} {ls : List (Nat × Value)} {st : List Value} {μ : gM} {Q : Option Value → gM → Prop} {a b : Int64} (h : a = b) (kk : gG l Γ mt B pc ls (.long b :: st) μ Q) : gG l Γ mt B pc ls (.long a :: st) μ Q := by
  subst h
  exact kk
theorem iv_nat (n : Nat) : iv (n : Int) = nI n := rfl
theorem gi2l_nat {n : Nat} (h : n < 2147483648) : gi2l (n : Int) = Int64.ofNat n := by
  unfold gi2l
  rw [iv_nat]
  exact nI_l (by omega)
theorem gl2i_nat {n : Nat} (h : n < 2147483648) : gl2i (Int64.ofNat n) = (n : Int) := by
  unfold gl2i
  have e : (Int64.ofNat n).toInt32 = nI n := lN_i n
  rw [e]
  exact nI_toInt (by omega)
theorem gl_lt {a b : Nat} (ha : a < 2147483648) (hb : b < 2147483648) : Int64.ofNat a < Int64.ofNat b ↔ a < b := lN_lt (by omega) (by omega)
theorem gl_le {a b : Nat} (ha : a < 2147483648) (hb : b < 2147483648) : Int64.ofNat a ≤ Int64.ofNat b ↔ a ≤ b := lN_le (by omega) (by omega)
theorem gl_eq {a b : Nat} (ha : a < 2147483648) (hb : b < 2147483648) : Int64.ofNat a = Int64.ofNat b ↔ a = b := lN_eq (by omega) (by omega)
def gpow (v : Int64) : Nat → Int64
  | 0 => 1
  | m + 1 => gpow v m * v
/-- the small number that a long is -/
def gnum (x : Int64) : Nat := x.toInt.toNat
theorem gnum_of {m : Nat} (h : m < 2147483648) : gnum (Int64.ofNat m) = m := by
  unfold gnum
  have : (Int64.ofNat m).toInt = (m : Int) := lN_toInt (by omega)
  rw [this]
  exact Int.toNat_natCast m
/-- what node j is worth, by what those behind it are worth -/
def gwF (K : Nat → Nat) (N : Nat → Int64) (Z : Nat → Nat) (v : Nat → Int) (W : Nat → Int64) (j : Nat) : Int64 :=
  if K j = 0 then N j else if K j = 1 then gi2l (v (gnum (N j))) else if K j = 2 then -W (j + 1) else if K j = 3 then W (j + 1) + W (gPt Z j 1) else if K j = 4 then W (j + 1) * W (gPt Z j 1)
  else if K j = 5 then gpow (W (j + 1)) (gnum (N j)) else if K j = 6 then (if W (j + 1) = 0 then W (gPt Z j 2) else W (gPt Z j 1)) else W (j + 1) * W (j + 1)
theorem gPt_gt (Z : Nat → Nat) (j w : Nat) : j < gPt Z j w := by
  unfold gPt
  split <;> omega
theorem gwF_loc {K : Nat → Nat} {N : Nat → Int64} {Z : Nat → Nat} {v : Nat → Int} {W W' : Nat → Int64} {j : Nat} (h : ∀ t, j < t → W t = W' t) : gwF K N Z v W j = gwF K N Z v W' j := by
  unfold gwF
  rw [h (j + 1) (by omega), h _ (gPt_gt Z j 1), h _ (gPt_gt Z j 2)]
/-- W tells what the nodes of a row are worth -/
def gIsW (n : Nat) (K : Nat → Nat) (N : Nat → Int64) (Z : Nat → Nat) (v : Nat → Int) (W : Nat → Int64) : Prop := ∀ j, j < n → W j = gwF K N Z v W j
set_option maxRecDepth 10000 in
theorem w_X8_power {l : Launch} {Γ : gC} {ad : Nat → Nat} {I : Nat → Nat → Int} {J : Nat → Nat → Int64} {d : Nat} {v : Int64} {m0 : Nat} (hm0 : m0 ≤ 9) : ∀ (m : Nat) (i : Nat), m0 - i < m → (i ≤ m0) → gG l Γ gm_X8_power (d, 0, 0, 0, 0) 6 [(6, .int (iv (i : Int))), (4, .long (gpow v i)), (0, .long v), (2, .long (Int64.ofNat m0))] [] (gSS ad, I, J) (gDl (fun e μ => μ = (gSS ad, I, J) ∧ e = gpow v m0)) := by
  intro m
  induction m with
  | zero => intros; omega
  | succ m ih =>
    intro i hm hi
    refine gg_iload dX8_power_6 0 rfl ?_
    refine gg_i2l dX8_power_8 ?_
    refine gg_lload_n dX8_power_9 3 rfl ?_
    refine gg_lcmp_ge (tgt := 33) dX8_power_10 dX8_power_11 (by decide) (fun hb => ?_) (fun hb => ?_)
    · rw [gi2l_nat (by omega)] at hb
      have hb2 := (gl_le (by omega) (by omega)).mp hb
      have he : i = m0 := by omega
      subst he
      refine gg_lload dX8_power_33 1 rfl ?_
      refine gg_lretl dX8_power_35 rfl ⟨rfl, rfl⟩ ?_
      exact ⟨rfl, rfl⟩
    · rw [gi2l_nat (by omega)] at hb
      have hb2 := (gl_lt (by omega) (by omega)).mp hb
      refine gg_iload dX8_power_14 0 rfl ?_
      refine gg_bipush dX8_power_16 (by decide) ?_
      refine gg_icmp_ge_f (tgt := 33) dX8_power_18 (by decide) (by omega) (by omega) ?_
      refine gg_lload dX8_power_21 1 rfl ?_
      refine gg_lload_n dX8_power_23 2 rfl ?_
      refine gg_lmul dX8_power_24 ?_
      refine gg_toL (b := gpow v (i + 1)) rfl ?_
      refine gg_lstore (ls' := [(4, .long (gpow v (i + 1))), (6, .int (iv (i : Int))), (0, .long v), (2, .long (Int64.ofNat m0))]) dX8_power_25 (by decide) rfl ?_
      refine gg_iincv (ls' := [(6, .int (iv ((i + 1 : Nat) : Int))), (4, .long (gpow v (i + 1))), (0, .long v), (2, .long (Int64.ofNat m0))]) dX8_power_27 1 rfl (by omega) (by decide) rfl ?_
      refine gg_goto (tgt := 6) dX8_power_30 (by decide) ?_
      exact ih (i + 1) (by omega) (by omega)

set_option maxRecDepth 10000 in
theorem c_X8_power {l : Launch} {Γ : gC} {ad : Nat → Nat} {I : Nat → Nat → Int} {J : Nat → Nat → Int64} {d : Nat} {v : Int64} {m0 : Nat} (hm0 : m0 ≤ 9) : gKl l Γ gm_X8_power d [.long v, .long (Int64.ofNat m0)] (gSS ad, I, J) (fun e μ => μ = (gSS ad, I, J) ∧ e = gpow v m0) := by
  refine gKl_of gk_X8_power.1 (Nat.le_of_ble_eq_true rfl) ?_
  show gG l Γ gm_X8_power (d, 0, 0, 0, 0) 0 [(0, .long v), (2, .long (Int64.ofNat m0))] [] _ _
  refine gg_lconstv (x := 1) dX8_power_0 rfl ?_
  refine gg_lstore (ls' := [(4, .long 1), (0, .long v), (2, .long (Int64.ofNat m0))]) dX8_power_1 (by decide) rfl ?_
  refine gg_iconst dX8_power_3 ?_
  refine gg_istore (ls' := [(6, .int (iv 0)), (4, .long 1), (0, .long v), (2, .long (Int64.ofNat m0))]) dX8_power_4 (by decide) rfl ?_
  refine gg_sub [0, 1, 2, 3] rfl ?_
  exact w_X8_power hm0 (m0 + 1) 0 (by omega) (by omega)

set_option maxRecDepth 10000 in
theorem c_X8_worthAt {l : Launch} {Γ : gC} {ad : Nat → Nat} {I : Nat → Nat → Int} {J : Nat → Nat → Int64} {d : Nat} {k : Nat} (hk : k ≤ 200) : gKl l Γ gm_X8_worthAt d [.ref (gad (gSS ad) 25), .int (iv (k : Int))] (gSS ad, I, J) (fun e μ => μ = (gSS ad, I, J) ∧ e = (if k < 200 then J 26 k else 0)) := by
  refine gKl_of gk_X8_worthAt.1 (Nat.le_of_ble_eq_true rfl) ?_
  show gG l Γ gm_X8_worthAt (d, 0, 0, 0, 0) 0 [(0, .ref (gad (gSS ad) 25)), (1, .int (iv (k : Int)))] [] _ _
  refine gg_iload_n dX8_worthAt_0 1 rfl ?_
  refine gg_if_lt_f (tgt := 20) dX8_worthAt_1 (by decide) (by omega) (by omega) ?_
  refine gg_iload_n dX8_worthAt_4 1 rfl ?_
  refine gg_sipush dX8_worthAt_5 (by decide) ?_
  refine gg_icmp_ge (tgt := 20) dX8_worthAt_8 (by decide) (by omega) (fun hb => ?_) (fun hb => ?_)
  · have hk2 : ¬ k < 200 := by omega
    refine gg_lconstv (x := 0) dX8_worthAt_20 rfl ?_
    refine gg_lretl dX8_worthAt_21 rfl ⟨rfl, rfl⟩ ?_
    exact ⟨rfl, by simp [hk2]⟩
  · have hk2 : k < 200 := by omega
    refine gg_aload_n dX8_worthAt_11 0 rfl ?_
    refine gg_getR (k' := 26) rfl gf_RX8_9 dX8_worthAt_12 sh_25 pl_25 (by decide) (by decide) rr_25_0 ?_
    refine gg_iload_n dX8_worthAt_15 1 rfl ?_
    refine gg_laldj k dX8_worthAt_16 sh_26 pl_26 (by decide) rfl (by omega) ?_
    refine gg_goto (tgt := 21) dX8_worthAt_17 (by decide) ?_
    refine gg_lretl dX8_worthAt_21 rfl ⟨rfl, rfl⟩ ?_
    exact ⟨rfl, by simp [hk2]⟩

set_option maxRecDepth 10000 in
theorem c_X8_valueOf {l : Launch} {Γ : gC} {ad : Nat → Nat} {I : Nat → Nat → Int} {J : Nat → Nat → Int64} {d : Nat} {p m0 : Nat} (hp : (gSS ad).2.1 p = (100, 8)) (hp' : p < (gSS ad).1) (hm : m0 < 8) : gKl l Γ gm_X8_valueOf d [.ref (gad (gSS ad) p), .long (Int64.ofNat m0)] (gSS ad, I, J) (fun e μ => μ = (gSS ad, I, J) ∧ e = gi2l (I p m0)) := by
  refine gKl_of gk_X8_valueOf.1 (Nat.le_of_ble_eq_true rfl) ?_
  show gG l Γ gm_X8_valueOf (d, 0, 0, 0, 0) 0 [(0, .ref (gad (gSS ad) p)), (1, .long (Int64.ofNat m0))] [] _ _
  refine gg_lload_n dX8_valueOf_0 1 rfl ?_
  refine gg_lconstv (x := 0) dX8_valueOf_1 rfl ?_
  refine gg_lcmp_lt (tgt := 22) dX8_valueOf_2 dX8_valueOf_3 (by decide) (fun hb => ?_) (fun hb => ?_)
  · exact absurd ((gl_lt (b := 0) (by omega) (by omega)).mp hb) (by omega)
  · refine gg_lload_n dX8_valueOf_6 1 rfl ?_
    refine gg_aload_n dX8_valueOf_7 0 rfl ?_
    refine gg_alenv (v := 8) (t := 0) dX8_valueOf_8 hp (by decide) hp' rfl ?_
    refine gg_i2l dX8_valueOf_9 ?_
    refine gg_lcmp_ge (tgt := 22) dX8_valueOf_10 dX8_valueOf_11 (by decide) (fun hb2 => ?_) (fun hb2 => ?_)
    · exact absurd ((gl_le (a := 8) (by omega) (by omega)).mp hb2) (by omega)
    · refine gg_aload_n dX8_valueOf_14 0 rfl ?_
      refine gg_lload_n dX8_valueOf_15 1 rfl ?_
      refine gg_l2i dX8_valueOf_16 ?_
      refine gg_ialdj m0 dX8_valueOf_17 hp hp' (by decide) (gl2i_nat (by omega)) (by omega) ?_
      refine gg_i2l dX8_valueOf_18 ?_
      refine gg_goto (tgt := 23) dX8_valueOf_19 (by decide) ?_
      refine gg_lretl dX8_valueOf_23 rfl ⟨rfl, rfl⟩ ?_
      exact ⟨rfl, rfl⟩

set_option maxRecDepth 10000 in
theorem c_X8_nodeWorth {l : Launch} {Γ : gC} {ad : Nat → Nat} {I : Nat → Nat → Int} {J : Nat → Nat → Int64} {d : Nat} {a n : Nat} {K : Nat → Nat} {N : Nat → Int64} {Z : Nat → Nat} (hF : gF a) (hA : gAt I J a n K N Z) (hW : gWf n K N Z) {p j : Nat} (hp : (gSS ad).2.1 p = (100, 8)) (hp' : p < (gSS ad).1) (hj : j < n) (hd : 3 ≤ d) : gKl l Γ gm_X8_nodeWorth d [.ref (gad (gSS ad) 25), .ref (gad (gSS ad) a), .int (iv (j : Int)), .ref (gad (gSS ad) p)] (gSS ad, I, J) (fun e μ => μ = (gSS ad, I, J) ∧ e = gwF K N Z (I p) (J 26) j) := by
  refine gKl_of gk_X8_nodeWorth.1 (Nat.le_of_ble_eq_true rfl) ?_
  show gG l Γ gm_X8_nodeWorth (d, 0, 0, 0, 0) 0 [(0, .ref (gad (gSS ad) 25)), (1, .ref (gad (gSS ad) a)), (2, .int (iv (j : Int))), (3, .ref (gad (gSS ad) p))] [] _ _
  obtain ⟨hK, hZ1, hZ2, he0, he1, he2, he3, hc1, hc2, hc3, hnm, hpw, hz⟩ := hW.2.2 j hj
  have hn := hW.1
  have q1 : 1 ≤ gPar (K j) → j + 1 < 200 := fun h => by have := hc1 h; omega
  have q2 : 2 ≤ gPar (K j) → gPt Z j 1 < 200 := fun h => by have := hc2 h; omega
  have q3 : 3 ≤ gPar (K j) → gPt Z j 2 < 200 := fun h => by have := hc3 h; omega
  refine gg_aload_n dX8_nodeWorth_0 0 rfl ?_
  refine gg_iload_n dX8_nodeWorth_1 2 rfl ?_
  refine gg_iconst dX8_nodeWorth_2 ?_
  refine gg_iadd dX8_nodeWorth_3 ?_
  refine gg_callVl (own := RX8) (yt := gm_X8_worthAt) rfl gl_RX8_29 gk_X8_worthAt gr_X8_worthAt dX8_nodeWorth_4 (c_X8_worthAt (d := d - 1) (k := j + 1) (by omega)) sh_25 pl_25 (by decide) rfl rfl rfl (Nat.le_of_ble_eq_true rfl) (by show _ ≤ d; omega) ⟨Nat.le_refl _, Nat.le_refl _⟩ (fun e1 μ' hc => ?_)
  obtain ⟨rfl, rfl⟩ := hc
  refine gg_nameL (fun x0 hx0 => ?_)
  refine gg_lstore (ls' := [(4, .long x0), (0, .ref (gad (gSS ad) 25)), (1, .ref (gad (gSS ad) a)), (2, .int (iv (j : Int))), (3, .ref (gad (gSS ad) p))]) dX8_nodeWorth_7 (by decide) rfl ?_
  refine gg_aload_n dX8_nodeWorth_9 2 rfl ?_
  refine gg_iload_n dX8_nodeWorth_10 3 rfl ?_
  refine gg_callVi (own := RX8) (yt := gm_X1_kind) rfl gl_RX8_33 gk_X1_kind gr_X1_kind dX8_nodeWorth_11 (c_X1_kind (d := d - 1) hF hA hW.1 (j := j) (by omega) (by omega)) (gFsh hF) (gFlt hF) (by decide) rfl rfl rfl (Nat.le_of_ble_eq_true rfl) (by show _ ≤ d; omega) ⟨Nat.le_refl _, Nat.le_refl _⟩ (fun e2 μ' hc => ?_)
  obtain ⟨rfl, rfl⟩ := hc
  obtain hk | hk | hk | hk | hk | hk | hk | hk := (by omega : K j = 0 ∨ K j = 1 ∨ K j = 2 ∨ K j = 3 ∨ K j = 4 ∨ K j = 5 ∨ K j = 6 ∨ K j = 7)
  · refine gg_toI (b := 0) (by omega) ?_
    refine gg_tsw (off := 42) (tgt := 56) dX8_nodeWorth_14 (by decide) (by decide) rfl (by decide) ?_
    refine gg_aload_n dX8_nodeWorth_56 2 rfl ?_
    refine gg_iload_n dX8_nodeWorth_57 3 rfl ?_
    refine gg_callVl (own := RX8) (yt := gm_X1_number) rfl gl_RX8_37 gk_X1_number gr_X1_number dX8_nodeWorth_58 (c_X1_number (d := d - 1) hF hA hW.1 (j := j) (by omega) (by omega)) (gFsh hF) (gFlt hF) (by decide) rfl rfl rfl (Nat.le_of_ble_eq_true rfl) (by show _ ≤ d; omega) ⟨Nat.le_refl _, Nat.le_refl _⟩ (fun e3 μ' hc => ?_)
    obtain ⟨rfl, rfl⟩ := hc
    refine gg_lretl dX8_nodeWorth_61 rfl ⟨rfl, rfl⟩ ?_
    exact ⟨rfl, by simp_all [gwF, gPar, gnum_of]⟩
  · refine gg_toI (b := 1) (by omega) ?_
    refine gg_tsw (off := 48) (tgt := 62) dX8_nodeWorth_14 (by decide) (by decide) rfl (by decide) ?_
    refine gg_aload_n dX8_nodeWorth_62 4 rfl ?_
    refine gg_aload_n dX8_nodeWorth_63 2 rfl ?_
    refine gg_iload_n dX8_nodeWorth_64 3 rfl ?_
    refine gg_callVl (own := RX8) (yt := gm_X1_number) rfl gl_RX8_37 gk_X1_number gr_X1_number dX8_nodeWorth_65 (c_X1_number (d := d - 1) hF hA hW.1 (j := j) (by omega) (by omega)) (gFsh hF) (gFlt hF) (by decide) rfl rfl rfl (Nat.le_of_ble_eq_true rfl) (by show _ ≤ d; omega) ⟨Nat.le_refl _, Nat.le_refl _⟩ (fun e4 μ' hc => ?_)
    obtain ⟨rfl, rfl⟩ := hc
    obtain ⟨m0, hm0, hNm⟩ := hnm hk
    rw [hNm]
    have hgn : gnum (Int64.ofNat m0) = m0 := gnum_of (by omega)
    refine gg_callSl (own := RX8) (yt := gm_X8_valueOf) rfl gl_RX8_40 gk_X8_valueOf gr_X8_valueOf dX8_nodeWorth_68 (c_X8_valueOf (d := d - 1) (m0 := m0) hp hp' hm0) rfl rfl (Nat.le_of_ble_eq_true rfl) (by show _ ≤ d; omega) ⟨Nat.le_refl _, Nat.le_refl _⟩ (fun e5 μ' hc => ?_)
    obtain ⟨rfl, rfl⟩ := hc
    refine gg_lretl dX8_nodeWorth_71 rfl ⟨rfl, rfl⟩ ?_
    exact ⟨rfl, by simp_all [gwF, gPar, gnum_of]⟩
  · refine gg_toI (b := 2) (by omega) ?_
    refine gg_tsw (off := 58) (tgt := 72) dX8_nodeWorth_14 (by decide) (by decide) rfl (by decide) ?_
    refine gg_lload dX8_nodeWorth_72 0 rfl ?_
    refine gg_lneg dX8_nodeWorth_74 ?_
    refine gg_lretl dX8_nodeWorth_75 rfl ⟨rfl, rfl⟩ ?_
    exact ⟨rfl, by simp_all [gwF, gPar, gnum_of]⟩
  · refine gg_toI (b := 3) (by omega) ?_
    refine gg_tsw (off := 62) (tgt := 76) dX8_nodeWorth_14 (by decide) (by decide) rfl (by decide) ?_
    refine gg_lload dX8_nodeWorth_76 0 rfl ?_
    refine gg_aload_n dX8_nodeWorth_78 1 rfl ?_
    refine gg_aload_n dX8_nodeWorth_79 2 rfl ?_
    refine gg_iload_n dX8_nodeWorth_80 3 rfl ?_
    refine gg_iconst dX8_nodeWorth_81 ?_
    refine gg_callVi (own := RX8) (yt := gm_X1_part) rfl gl_RX8_44 gk_X1_part gr_X1_part dX8_nodeWorth_82 (c_X1_part1 (d := d - 1) hF hA hW.1 (j := j) (hc1 (by rw [hk]; decide)) hj (by omega)) (gFsh hF) (gFlt hF) (by decide) rfl rfl rfl (Nat.le_of_ble_eq_true rfl) (by show _ ≤ d; omega) ⟨Nat.le_refl _, Nat.le_refl _⟩ (fun e6 μ' hc => ?_)
    obtain ⟨rfl, rfl⟩ := hc
    refine gg_callVl (own := RX8) (yt := gm_X8_worthAt) rfl gl_RX8_29 gk_X8_worthAt gr_X8_worthAt dX8_nodeWorth_85 (c_X8_worthAt (d := d - 1) (k := gPt Z j 1) (by have := hc2 (by rw [hk]; decide); omega)) sh_25 pl_25 (by decide) rfl rfl rfl (Nat.le_of_ble_eq_true rfl) (by show _ ≤ d; omega) ⟨Nat.le_refl _, Nat.le_refl _⟩ (fun e7 μ' hc => ?_)
    obtain ⟨rfl, rfl⟩ := hc
    refine gg_ladd dX8_nodeWorth_88 ?_
    refine gg_lretl dX8_nodeWorth_89 rfl ⟨rfl, rfl⟩ ?_
    exact ⟨rfl, by simp_all [gwF, gPar, gnum_of]⟩
  · refine gg_toI (b := 4) (by omega) ?_
    refine gg_tsw (off := 76) (tgt := 90) dX8_nodeWorth_14 (by decide) (by decide) rfl (by decide) ?_
    refine gg_lload dX8_nodeWorth_90 0 rfl ?_
    refine gg_aload_n dX8_nodeWorth_92 1 rfl ?_
    refine gg_aload_n dX8_nodeWorth_93 2 rfl ?_
    refine gg_iload_n dX8_nodeWorth_94 3 rfl ?_
    refine gg_iconst dX8_nodeWorth_95 ?_
    refine gg_callVi (own := RX8) (yt := gm_X1_part) rfl gl_RX8_44 gk_X1_part gr_X1_part dX8_nodeWorth_96 (c_X1_part1 (d := d - 1) hF hA hW.1 (j := j) (hc1 (by rw [hk]; decide)) hj (by omega)) (gFsh hF) (gFlt hF) (by decide) rfl rfl rfl (Nat.le_of_ble_eq_true rfl) (by show _ ≤ d; omega) ⟨Nat.le_refl _, Nat.le_refl _⟩ (fun e8 μ' hc => ?_)
    obtain ⟨rfl, rfl⟩ := hc
    refine gg_callVl (own := RX8) (yt := gm_X8_worthAt) rfl gl_RX8_29 gk_X8_worthAt gr_X8_worthAt dX8_nodeWorth_99 (c_X8_worthAt (d := d - 1) (k := gPt Z j 1) (by have := hc2 (by rw [hk]; decide); omega)) sh_25 pl_25 (by decide) rfl rfl rfl (Nat.le_of_ble_eq_true rfl) (by show _ ≤ d; omega) ⟨Nat.le_refl _, Nat.le_refl _⟩ (fun e9 μ' hc => ?_)
    obtain ⟨rfl, rfl⟩ := hc
    refine gg_lmul dX8_nodeWorth_102 ?_
    refine gg_lretl dX8_nodeWorth_103 rfl ⟨rfl, rfl⟩ ?_
    exact ⟨rfl, by simp_all [gwF, gPar, gnum_of]⟩
  · refine gg_toI (b := 5) (by omega) ?_
    refine gg_tsw (off := 90) (tgt := 104) dX8_nodeWorth_14 (by decide) (by decide) rfl (by decide) ?_
    refine gg_lload dX8_nodeWorth_104 0 rfl ?_
    refine gg_aload_n dX8_nodeWorth_106 2 rfl ?_
    refine gg_iload_n dX8_nodeWorth_107 3 rfl ?_
    refine gg_callVl (own := RX8) (yt := gm_X1_number) rfl gl_RX8_37 gk_X1_number gr_X1_number dX8_nodeWorth_108 (c_X1_number (d := d - 1) hF hA hW.1 (j := j) (by omega) (by omega)) (gFsh hF) (gFlt hF) (by decide) rfl rfl rfl (Nat.le_of_ble_eq_true rfl) (by show _ ≤ d; omega) ⟨Nat.le_refl _, Nat.le_refl _⟩ (fun e10 μ' hc => ?_)
    obtain ⟨rfl, rfl⟩ := hc
    obtain ⟨m0, hm0, hNm⟩ := hpw hk
    rw [hNm]
    have hgn : gnum (Int64.ofNat m0) = m0 := gnum_of (by omega)
    refine gg_callSl (own := RX8) (yt := gm_X8_power) rfl gl_RX8_48 gk_X8_power gr_X8_power dX8_nodeWorth_111 (c_X8_power (d := d - 1) (m0 := m0) (by omega)) rfl rfl (Nat.le_of_ble_eq_true rfl) (by show _ ≤ d; omega) ⟨Nat.le_refl _, Nat.le_refl _⟩ (fun e11 μ' hc => ?_)
    obtain ⟨rfl, rfl⟩ := hc
    refine gg_lretl dX8_nodeWorth_114 rfl ⟨rfl, rfl⟩ ?_
    exact ⟨rfl, by simp_all [gwF, gPar, gnum_of]⟩
  · refine gg_toI (b := 6) (by omega) ?_
    refine gg_tsw (off := 101) (tgt := 115) dX8_nodeWorth_14 (by decide) (by decide) rfl (by decide) ?_
    refine gg_aload_n dX8_nodeWorth_115 1 rfl ?_
    refine gg_aload_n dX8_nodeWorth_116 2 rfl ?_
    refine gg_iload_n dX8_nodeWorth_117 3 rfl ?_
    refine gg_lload dX8_nodeWorth_118 0 rfl ?_
    refine gg_lconstv (x := 0) dX8_nodeWorth_120 rfl ?_
    refine gg_lcmp_eq (tgt := 129) dX8_nodeWorth_121 dX8_nodeWorth_122 (by decide) (fun hz0 => ?_) (fun hz0 => ?_)
    · have hz1 : x0 = 0 := hz0
      refine gg_iconst dX8_nodeWorth_129 ?_
      refine gg_callVi (own := RX8) (yt := gm_X1_part) rfl gl_RX8_44 gk_X1_part gr_X1_part dX8_nodeWorth_130 (c_X1_part2 (d := d - 1) hF hA hW.1 (j := j) (hc1 (by rw [hk]; decide)) (hc2 (by rw [hk]; decide)) hj (by omega)) (gFsh hF) (gFlt hF) (by decide) rfl rfl rfl (Nat.le_of_ble_eq_true rfl) (by show _ ≤ d; omega) ⟨Nat.le_refl _, Nat.le_refl _⟩ (fun e12 μ' hc => ?_)
      obtain ⟨rfl, rfl⟩ := hc
      refine gg_callVl (own := RX8) (yt := gm_X8_worthAt) rfl gl_RX8_29 gk_X8_worthAt gr_X8_worthAt dX8_nodeWorth_133 (c_X8_worthAt (d := d - 1) (k := gPt Z j 2) (by have := hc3 (by rw [hk]; decide); omega)) sh_25 pl_25 (by decide) rfl rfl rfl (Nat.le_of_ble_eq_true rfl) (by show _ ≤ d; omega) ⟨Nat.le_refl _, Nat.le_refl _⟩ (fun e13 μ' hc => ?_)
      obtain ⟨rfl, rfl⟩ := hc
      refine gg_lretl dX8_nodeWorth_136 rfl ⟨rfl, rfl⟩ ?_
      exact ⟨rfl, by simp_all [gwF, gPar, gnum_of]⟩
    · have hz1 : ¬ x0 = 0 := hz0
      refine gg_iconst dX8_nodeWorth_125 ?_
      refine gg_goto (tgt := 130) dX8_nodeWorth_126 (by decide) ?_
      refine gg_callVi (own := RX8) (yt := gm_X1_part) rfl gl_RX8_44 gk_X1_part gr_X1_part dX8_nodeWorth_130 (c_X1_part1 (d := d - 1) hF hA hW.1 (j := j) (hc1 (by rw [hk]; decide)) hj (by omega)) (gFsh hF) (gFlt hF) (by decide) rfl rfl rfl (Nat.le_of_ble_eq_true rfl) (by show _ ≤ d; omega) ⟨Nat.le_refl _, Nat.le_refl _⟩ (fun e14 μ' hc => ?_)
      obtain ⟨rfl, rfl⟩ := hc
      refine gg_callVl (own := RX8) (yt := gm_X8_worthAt) rfl gl_RX8_29 gk_X8_worthAt gr_X8_worthAt dX8_nodeWorth_133 (c_X8_worthAt (d := d - 1) (k := gPt Z j 1) (by have := hc2 (by rw [hk]; decide); omega)) sh_25 pl_25 (by decide) rfl rfl rfl (Nat.le_of_ble_eq_true rfl) (by show _ ≤ d; omega) ⟨Nat.le_refl _, Nat.le_refl _⟩ (fun e15 μ' hc => ?_)
      obtain ⟨rfl, rfl⟩ := hc
      refine gg_lretl dX8_nodeWorth_136 rfl ⟨rfl, rfl⟩ ?_
      exact ⟨rfl, by simp_all [gwF, gPar, gnum_of]⟩
  · refine gg_toI (b := 7) (by omega) ?_
    refine gg_tsw_out (tgt := 137) dX8_nodeWorth_14 (by decide) (by decide) (by decide) ?_
    refine gg_lload dX8_nodeWorth_137 0 rfl ?_
    refine gg_lload dX8_nodeWorth_139 0 rfl ?_
    refine gg_lmul dX8_nodeWorth_141 ?_
    refine gg_lretl dX8_nodeWorth_142 rfl ⟨rfl, rfl⟩ ?_
    exact ⟨rfl, by simp_all [gwF, gPar, gnum_of]⟩

theorem gF_n26 {a : Nat} (h : gF a) : a + 2 ≠ 26 := by
  intro e
  have : a = 24 := by omega
  subst this
  exact absurd h.1 (by decide)
theorem gAt_J {I : Nat → Nat → Int} {J J' : Nat → Nat → Int64} {a n : Nat} {K : Nat → Nat} {N : Nat → Int64} {Z : Nat → Nat} (h : gAt I J a n K N Z) (hJ : J' (a + 2) = J (a + 2)) : gAt I J' a n K N Z := ⟨h.1, fun j hj => ⟨(h.2 j hj).1, by rw [hJ]; exact (h.2 j hj).2.1, (h.2 j hj).2.2⟩⟩
set_option maxRecDepth 10000 in
theorem w_X8_worthOf {l : Launch} {Γ : gC} {ad : Nat → Nat} {I : Nat → Nat → Int} {J0 : Nat → Nat → Int64} {d : Nat} {a n : Nat} {K : Nat → Nat} {N : Nat → Int64} {Z : Nat → Nat} (hF : gF a) (hA : gAt I J0 a n K N Z) (hW : gWf n K N Z) {p : Nat} (hp : (gSS ad).2.1 p = (100, 8)) (hp' : p < (gSS ad).1) (hd : 4 ≤ d) : ∀ (m : Nat) (k : Nat) (J : Nat → Nat → Int64), k < m → (k ≤ n) → (∀ j, k ≤ j → j < n → J 26 j = gwF K N Z (I p) (J 26) j) → (∀ q, q ≠ 26 → J q = J0 q) → gG l Γ gm_X8_worthOf (d, 0, 0, 0, 0) 7 [(3, .int (iv ((k : Int) - 1))), (0, .ref (gad (gSS ad) 25)), (1, .ref (gad (gSS ad) a)), (2, .ref (gad (gSS ad) p))] [] (gSS ad, I, J) (gDl (fun e μ => ∃ J', μ = (gSS ad, I, J') ∧ gIsW n K N Z (I p) (J' 26) ∧ e = J' 26 0 ∧ ∀ q, q ≠ 26 → J' q = J0 q)) := by
  intro m
  induction m with
  | zero => intros; omega
  | succ m ih =>
    intro k J hm hk hw hJ
    have hn := hW.1
    refine gg_iload_n dX8_worthOf_7 0 rfl ?_
    refine gg_if_lt (tgt := 30) dX8_worthOf_8 (by decide) (by omega) (fun hb => ?_) (fun hb => ?_)
    · have hk0 : k = 0 := by omega
      subst hk0
      refine gg_aload_n dX8_worthOf_30 1 rfl ?_
      refine gg_getR (k' := 26) rfl gf_RX8_9 dX8_worthOf_31 sh_25 pl_25 (by decide) (by decide) rr_25_0 ?_
      refine gg_iconst dX8_worthOf_34 ?_
      refine gg_laldj 0 dX8_worthOf_35 sh_26 pl_26 (by decide) rfl (by omega) ?_
      refine gg_lretl dX8_worthOf_36 rfl ⟨rfl, rfl⟩ ?_
      exact ⟨J, rfl, fun j hj => hw j (Nat.zero_le _) hj, rfl, hJ⟩
    · have hk1 : 1 ≤ k := by omega
      refine gg_aload_n dX8_worthOf_11 1 rfl ?_
      refine gg_getR (k' := 26) rfl gf_RX8_9 dX8_worthOf_12 sh_25 pl_25 (by decide) (by decide) rr_25_0 ?_
      refine gg_iload_n dX8_worthOf_15 0 rfl ?_
      refine gg_aload_n dX8_worthOf_16 1 rfl ?_
      refine gg_aload_n dX8_worthOf_17 2 rfl ?_
      refine gg_iload_n dX8_worthOf_18 0 rfl ?_
      refine gg_toI (b := ((k - 1 : Nat) : Int)) (by omega) ?_
      refine gg_aload_n dX8_worthOf_19 3 rfl ?_
      refine gg_callVl (own := RX8) (yt := gm_X8_nodeWorth) rfl gl_RX8_25 gk_X8_nodeWorth gr_X8_nodeWorth dX8_worthOf_20 (c_X8_nodeWorth (d := d - 1) (I := I) (J := J) hF (gAt_J hA (hJ _ (gF_n26 hF))) hW (j := k - 1) hp hp' (by omega) (by omega)) sh_25 pl_25 (by decide) rfl rfl rfl (Nat.le_of_ble_eq_true rfl) (by show _ ≤ d; omega) ⟨Nat.le_refl _, Nat.le_refl _⟩ (fun e1 μ' hc => ?_)
      obtain ⟨rfl, rfl⟩ := hc
      refine gg_lastj (k - 1) dX8_worthOf_23 sh_26 pl_26 (by decide) (by omega) (by omega) ?_
      refine gg_memJ (fun J1 hJ1 => ?_)
      refine gg_iincv (ls' := [(3, .int (iv (((k - 1 : Nat) : Int) - 1))), (0, .ref (gad (gSS ad) 25)), (1, .ref (gad (gSS ad) a)), (2, .ref (gad (gSS ad) p))]) dX8_worthOf_24 0 rfl (by omega) (by decide) rfl ?_
      refine gg_goto (tgt := 7) dX8_worthOf_27 (by decide) ?_
      refine ih (k - 1) J1 (by omega) (by omega) (fun j h1 h2 => ?_) (fun q hq => by rw [hJ1, gv_other hq]; exact hJ q hq)
      have hne : ∀ t, t ≠ k - 1 → J1 26 t = J 26 t := fun t ht => by rw [hJ1]; exact gv_n (by omega)
      rcases Nat.lt_or_ge (k - 1) j with h | h
      · rw [hne j (by omega), hw j (by omega) h2]
        exact gwF_loc (fun t ht => (hne t (by omega)).symm)
      · have hj : j = k - 1 := by omega
        subst hj
        have hs : J1 26 (k - 1) = gwF K N Z (I p) (J 26) (k - 1) := by rw [hJ1]; exact gv_s
        rw [hs]
        exact gwF_loc (fun t ht => (hne t (by omega)).symm)

set_option maxRecDepth 10000 in
theorem c_X8_worthOf {l : Launch} {Γ : gC} {ad : Nat → Nat} {I : Nat → Nat → Int} {J0 : Nat → Nat → Int64} {d : Nat} {a n : Nat} {K : Nat → Nat} {N : Nat → Int64} {Z : Nat → Nat} (hF : gF a) (hA : gAt I J0 a n K N Z) (hW : gWf n K N Z) {p : Nat} (hp : (gSS ad).2.1 p = (100, 8)) (hp' : p < (gSS ad).1) (hd : 4 ≤ d) : gKl l Γ gm_X8_worthOf d [.ref (gad (gSS ad) 25), .ref (gad (gSS ad) a), .ref (gad (gSS ad) p)] (gSS ad, I, J0) (fun e μ => ∃ J', μ = (gSS ad, I, J') ∧ gIsW n K N Z (I p) (J' 26) ∧ e = J' 26 0 ∧ ∀ q, q ≠ 26 → J' q = J0 q) := by
  refine gKl_of gk_X8_worthOf.1 (Nat.le_of_ble_eq_true rfl) ?_
  show gG l Γ gm_X8_worthOf (d, 0, 0, 0, 0) 0 [(0, .ref (gad (gSS ad) 25)), (1, .ref (gad (gSS ad) a)), (2, .ref (gad (gSS ad) p))] [] _ _
  have hn := hW.1
  refine gg_aload_n dX8_worthOf_0 1 rfl ?_
  refine gg_callVi (own := RX8) (yt := gm_X1_size) rfl gl_RX8_19 gk_X1_size gr_X1_size dX8_worthOf_1 (c_X1_size (d := d - 1) hF hA) (gFsh hF) (gFlt hF) (by decide) rfl rfl rfl (Nat.le_of_ble_eq_true rfl) (by show _ ≤ d; omega) ⟨Nat.le_refl _, Nat.le_refl _⟩ (fun e1 μ' hc => ?_)
  obtain ⟨rfl, rfl⟩ := hc
  refine gg_iconst dX8_worthOf_4 ?_
  refine gg_isub dX8_worthOf_5 ?_
  refine gg_istore_n (ls' := [(3, .int (iv ((n : Int) - 1))), (0, .ref (gad (gSS ad) 25)), (1, .ref (gad (gSS ad) a)), (2, .ref (gad (gSS ad) p))]) dX8_worthOf_6 rfl (by decide) rfl ?_
  refine gg_sub [0, 1, 2, 3] rfl ?_
  exact w_X8_worthOf hF hA hW hp hp' hd (n + 1) n J0 (by omega) (by omega) (fun j h1 h2 => by omega) (fun _ _ => rfl)

