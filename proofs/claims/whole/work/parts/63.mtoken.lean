/-! the reference's reader takes tokens -/
/-- the reference's tape -/
def gTq (I : Nat → Nat → Int) (T : Nat → Int) (n : Nat) : Prop := n ≤ 120 ∧ I 145 10 = (n : Int) ∧ ∀ q, q < n → I 189 q = T q ∧ 0 ≤ T q ∧ T q ≤ 255
def gF45 (I I' : Nat → Nat → Int) : Prop := (∀ p, p ≠ 145 → I' p = I p) ∧ ∀ k, k ≠ 11 → k ≠ 12 → k ≠ 13 → k ≠ 14 → k ≠ 16 → I' 145 k = I 145 k
theorem gF45_r (I : Nat → Nat → Int) : gF45 I I := ⟨fun _ _ => rfl, fun _ _ _ _ _ _ => rfl⟩
theorem gF45_t {I I' I2 : Nat → Nat → Int} (h : gF45 I I') (g : gF45 I' I2) : gF45 I I2 := ⟨fun p hp => (g.1 p hp).trans (h.1 p hp), fun k a b c d e => (g.2 k a b c d e).trans (h.2 k a b c d e)⟩
theorem gF45_u {I : Nat → Nat → Int} {q : Nat} {x : Int} (h : q = 11 ∨ q = 12 ∨ q = 13 ∨ q = 14 ∨ q = 16) : gF45 I (gu I 145 q x) := ⟨fun p hp => gu_other hp, fun k _ _ _ _ _ => gu_n (by omega)⟩
theorem gTq_f {I I' : Nat → Nat → Int} {T : Nat → Int} {n : Nat} (h : gTq I T n) (g : gF45 I I') : gTq I' T n := ⟨h.1, (g.2 10 (by omega) (by omega) (by omega) (by omega) (by omega)).trans h.2.1, fun q hq => by rw [g.1 189 (by omega)]; exact h.2.2 q hq⟩
def gby (T : Nat → Int) (n i : Nat) : Int := if i < n then T i else -1
theorem gby_rng {I : Nat → Nat → Int} {T : Nat → Int} {n : Nat} (h : gTq I T n) (i : Nat) : -1 ≤ gby T n i ∧ gby T n i ≤ 255 := by
  unfold gby
  by_cases hi : i < n
  · have := h.2.2 i hi
    rw [if_pos hi]
    omega
  · rw [if_neg hi]
    omega
theorem gby_in {T : Nat → Int} {n i : Nat} (h : i < n) : gby T n i = T i := if_pos h
theorem gby_is {T : Nat → Int} {n i : Nat} (h : 0 ≤ gby T n i) : i < n ∧ gby T n i = T i := by
  unfold gby at h ⊢
  by_cases hi : i < n
  · exact ⟨hi, if_pos hi⟩
  · rw [if_neg hi] at h
    omega
theorem gby_no {P : Int → Bool} {T : Nat → Int} {n i : Nat} (h : P (gby T n i) = false) : ¬ (i < n ∧ P (T i) = true) := by
  rintro ⟨h1, h2⟩
  rw [gby_in h1, h2] at h
  cases h
/-- the reference looks at the token behind q -/
def gRq (I : Nat → Nat → Int) (T : Nat → Int) (n q : Nat) : Prop := I 145 12 = (gtP T n q : Int) ∧ (gtC T n q = 1 → I 145 16 = 1) ∧ (gtC T n q ≠ 1 → I 145 16 = 0 ∧ I 145 11 = (gtE T n q : Int)) ∧ (gtC T n q = 0 → I 145 13 = 0) ∧ (gtC T n q = 2 → I 145 13 = 1 ∧ I 145 14 = gtV T n q) ∧ (gtC T n q = 3 → I 145 13 = 2 ∧ I 145 14 = gtV T n q) ∧ (3 < gtC T n q → I 145 13 = 3 ∧ I 145 14 = gtC T n q)
theorem gRq_1 {I : Nat → Nat → Int} {T : Nat → Int} {n q : Nat} (hC : gtC T n q = 1) (h12 : I 145 12 = (gtP T n q : Int)) (h16 : I 145 16 = 1) : gRq I T n q := ⟨h12, fun _ => h16, fun h => absurd hC h, fun h => by omega, fun h => by omega, fun h => by omega, fun h => by omega⟩
theorem gg_toL1 {l : Launch} {Γ : gC} {mt : gY} {B : gB} {pc w : Nat} {ls : List (Nat × Value)} {st : List Value} {μ : gM} {Q : Option Value → gM → Prop} {a b : Int} (h : a = b) (kk : gG l Γ mt B pc ((w, .int (iv b)) :: ls) st μ Q) : gG l Γ mt B pc ((w, .int (iv a)) :: ls) st μ Q := by
  rw [h]
  exact kk
set_option maxRecDepth 10000 in
theorem c_X10_byteAt {l : Launch} {Γ : gC} {ad : Nat → Nat} {I : Nat → Nat → Int} {J : Nat → Nat → Int64} {d : Nat} {T : Nat → Int} {n : Nat} {i : Nat} (hT : gTq I T n) (hi : i ≤ 1000) : gKi l Γ gm_X10_byteAt d [.ref (gad (gSS ad) 145), .int (iv (i : Int))] (gSS ad, I, J) (fun e μ => μ = (gSS ad, I, J) ∧ e = gby T n i) := by
  refine gKi_of gk_X10_byteAt.1 (Nat.le_of_ble_eq_true rfl) ?_
  show gG l Γ gm_X10_byteAt (d, 0, 0, 0, 0) 0 [(0, .ref (gad (gSS ad) 145)), (1, .int (iv (i : Int)))] [] _ _
  refine gg_iload_n dX10_byteAt_0 1 rfl ?_
  refine gg_aload_n dX10_byteAt_1 0 rfl ?_
  refine gg_getI rfl gf_RX10_117 dX10_byteAt_2 sh_145 pl_145 (by decide) (by decide) ?_
  refine gg_toI (b := (n : Int)) hT.2.1 ?_
  refine gg_icmp_ge (tgt := 17) dX10_byteAt_5 (by decide) (by have := hT.1; omega) (fun hb => ?_) (fun hb => ?_)
  · refine gg_iconst dX10_byteAt_17 ?_
    refine gg_ireti dX10_byteAt_18 rfl ⟨rfl, rfl⟩ ?_
    exact ⟨rfl, by unfold gby; rw [if_neg (by omega)]⟩
  · refine gg_aload_n dX10_byteAt_8 0 rfl ?_
    refine gg_getR (k' := 189) rfl gf_RX10_36 dX10_byteAt_9 sh_145 pl_145 (by decide) (by decide) rr_145_9 ?_
    refine gg_iload_n dX10_byteAt_12 1 rfl ?_
    refine gg_ialdj i dX10_byteAt_13 sh_189 pl_189 (by decide) rfl (by have := hT.1; omega) ?_
    refine gg_toI (b := T i) (hT.2.2 i (by omega)).1 ?_
    refine gg_goto (tgt := 18) dX10_byteAt_14 (by decide) ?_
    refine gg_ireti dX10_byteAt_18 rfl ⟨rfl, rfl⟩ ?_
    exact ⟨rfl, by unfold gby; rw [if_pos (by omega)]⟩

set_option maxRecDepth 10000 in
theorem w_X10_next {l : Launch} {Γ : gC} {ad : Nat → Nat} {I0 : Nat → Nat → Int} {J : Nat → Nat → Int64} {d : Nat} {T : Nat → Int} {n : Nat} {p q : Nat} (hP : gtP T n q = p) (hpn : p < n) (hlp : gLt (T p) = true) (hd : 1 ≤ d) : ∀ (m : Nat) (k : Nat) (I : Nat → Nat → Int), n - k < m → (p ≤ k ∧ k ≤ n) → (gTq I T n) → (I 145 11 = (k : Int)) → (I 145 12 = (p : Int)) → (I 145 13 = 1) → (I 145 14 = T p - 97) → (gRunE gLt T n k = gRunE gLt T n p) → (gF45 I0 I) → gG l Γ gm_X10_next (d, 0, 0, 0, 0) 101 [(1, .int (iv (T p))), (0, .ref (gad (gSS ad) 145))] [] (gSS ad, I, J) (gDv (fun μ => ∃ I1, μ = (gSS ad, I1, J) ∧ gF45 I0 I1 ∧ gRq I1 T n q)) := by
  intro m
  induction m with
  | zero => intros; omega
  | succ m ih =>
    intro k I hm hk hT h11 h12 h13 h14 hr hF
    have hn := hT.1
    refine gg_aload_n dX10_next_101 1 rfl ?_
    refine gg_aload_n dX10_next_102 1 rfl ?_
    refine gg_getI rfl gf_RX10_123 dX10_next_103 sh_145 pl_145 (by decide) (by decide) ?_
    refine gg_toI (b := (k : Int)) h11 ?_
    refine gg_callVi (own := RX10) (yt := gm_X10_byteAt) rfl gl_RX10_126 gk_X10_byteAt gr_X10_byteAt dX10_next_106 (c_X10_byteAt (d := d - 1) (T := T) (n := n) (i := k) hT (by have := hT.1; omega)) sh_145 pl_145 (by decide) rfl rfl rfl (Nat.le_of_ble_eq_true rfl) (by show _ ≤ d; omega) ⟨Nat.le_refl _, Nat.le_refl _⟩ (fun e1 μ' hc => ?_)
    obtain ⟨rfl, rfl⟩ := hc
    refine gg_bipush dX10_next_109 (by decide) ?_
    refine gg_bipush dX10_next_111 (by decide) ?_
    refine gg_callSi (own := RX10) (yt := gm_X10_in) rfl gl_RX10_84 gk_X10_in gr_X10_in dX10_next_113 (c_X10_in (d := d - 1) (by have := gby_rng hT k; omega)) rfl rfl (Nat.le_of_ble_eq_true rfl) (by show _ ≤ d; omega) ⟨Nat.le_refl _, Nat.le_refl _⟩ (fun e2 μ' hc => ?_)
    obtain ⟨rfl, ⟨rfl, hin⟩ | ⟨rfl, hin⟩⟩ := hc
    · obtain ⟨hlt, hbe⟩ := gby_is (T := T) (n := n) (i := k) (by omega)
      rw [hbe] at hin
      refine gg_if_eq_f (tgt := 132) dX10_next_116 (by decide) (by decide) (by decide) ?_
      refine gg_aload_n dX10_next_119 1 rfl ?_
      refine gg_dup dX10_next_120 rfl ?_
      refine gg_getI rfl gf_RX10_123 dX10_next_121 sh_145 pl_145 (by decide) (by decide) ?_
      refine gg_toI (b := (k : Int)) h11 ?_
      refine gg_iconst dX10_next_124 ?_
      refine gg_iadd dX10_next_125 ?_
      refine gg_toI (b := ((k + 1 : Nat) : Int)) (by omega) ?_
      refine gg_putI rfl gf_RX10_123 dX10_next_126 sh_145 pl_145 (by decide) (by decide) (by decide) (gfit_i _) ?_
      refine gg_memI (fun I2 hI2 => ?_)
      refine gg_goto (tgt := 101) dX10_next_129 (by decide) ?_
      have hf : gF45 I I2 := by rw [hI2]; exact (gF45_u (by omega))
      exact ih (k + 1) I2 (by omega) (by omega) (gTq_f hT hf) (by rw [hI2, gu_s]) (by rw [hI2, gu_n (by omega)]; exact h12) (by rw [hI2, gu_n (by omega)]; exact h13) (by rw [hI2, gu_n (by omega)]; exact h14) (by rw [← hr]; exact (gRunE_t hlt (by simp only [gLt, decide_eq_true_eq]; exact hin)).symm) (gF45_t hF hf)
    · have h2 : 97 ≤ T p ∧ T p ≤ 122 := by simpa only [gLt, decide_eq_true_eq] using hlp
      have hend : gRunE gLt T n k = k := gRunE_f (gby_no (P := gLt) (by simp only [gLt, decide_eq_false_iff_not]; omega))
      have hE : gtE T n q = k := by unfold gtE; rw [hP, if_neg (by omega), if_pos hlp, ← hr, hend]
      have hkp : k ≠ p := fun h => by
        subst h
        have h2 : 97 ≤ T k ∧ T k ≤ 122 := by simpa only [gLt, decide_eq_true_eq] using hlp
        rw [gby_in hpn] at hin
        omega
      have hC : gtC T n q = (if k - p = 1 ∧ T p - 97 < 8 then 2 else 1) := by unfold gtC; rw [hE, hP, if_neg (by omega), if_pos hlp]
      refine gg_if_eq_t (tgt := 132) dX10_next_116 (by decide) (by decide) (by decide) ?_
      refine gg_aload_n dX10_next_132 1 rfl ?_
      refine gg_aload_n dX10_next_133 1 rfl ?_
      refine gg_getI rfl gf_RX10_123 dX10_next_134 sh_145 pl_145 (by decide) (by decide) ?_
      refine gg_toI (b := (k : Int)) h11 ?_
      refine gg_aload_n dX10_next_137 1 rfl ?_
      refine gg_getI rfl gf_RX10_129 dX10_next_138 sh_145 pl_145 (by decide) (by decide) ?_
      refine gg_toI (b := (p : Int)) h12 ?_
      refine gg_isub dX10_next_141 ?_
      refine gg_iconst dX10_next_142 ?_
      refine gg_icmp_gt (tgt := 155) dX10_next_143 (by decide) (by have := hT.1; omega) (fun hgt => ?_) (fun hgt => ?_)
      · refine gg_iconst dX10_next_155 ?_
        refine gg_goto (tgt := 160) dX10_next_156 (by decide) ?_
        refine gg_putI rfl gf_RX10_120 dX10_next_160 sh_145 pl_145 (by decide) (by decide) (by decide) gfit_1 ?_
        refine gg_goto (tgt := 317) dX10_next_163 (by decide) ?_
        refine gg_vretv dX10_next_317 rfl ⟨rfl, rfl⟩ ?_
        have hC1 : gtC T n q = 1 := by rw [hC, if_neg (by omega)]
        exact ⟨_, rfl, gF45_t hF (gF45_u (by omega)), gRq_1 hC1 (by rw [gu_n (by omega), hP]; exact h12) gu_s⟩
      · refine gg_aload_n dX10_next_146 1 rfl ?_
        refine gg_getI rfl gf_RX10_135 dX10_next_147 sh_145 pl_145 (by decide) (by decide) ?_
        refine gg_toI (b := (T p - 97)) h14 ?_
        refine gg_bipush dX10_next_150 (by decide) ?_
        refine gg_icmp_lt (tgt := 159) dX10_next_152 (by decide) (by omega) (fun hv => ?_) (fun hv => ?_)
        · refine gg_iconst dX10_next_159 ?_
          refine gg_putI rfl gf_RX10_120 dX10_next_160 sh_145 pl_145 (by decide) (by decide) (by decide) gfit_0 ?_
          refine gg_goto (tgt := 317) dX10_next_163 (by decide) ?_
          refine gg_vretv dX10_next_317 rfl ⟨rfl, rfl⟩ ?_
          have hC2 : gtC T n q = 2 := by rw [hC, if_pos (by omega)]
          have hV : gtV T n q = T p - 97 := by unfold gtV; rw [hP, if_pos hlp]
          exact ⟨_, rfl, gF45_t hF (gF45_u (by omega)), by rw [gu_n (by omega), hP]; exact h12, fun h => by omega, fun _ => ⟨gu_s, by rw [gu_n (by omega), hE]; exact h11⟩, fun h => by omega, fun _ => ⟨by rw [gu_n (by omega)]; exact h13, by rw [gu_n (by omega), hV]; exact h14⟩, fun h => by omega, fun h => by omega⟩
        · refine gg_iconst dX10_next_155 ?_
          refine gg_goto (tgt := 160) dX10_next_156 (by decide) ?_
          refine gg_putI rfl gf_RX10_120 dX10_next_160 sh_145 pl_145 (by decide) (by decide) (by decide) gfit_1 ?_
          refine gg_goto (tgt := 317) dX10_next_163 (by decide) ?_
          refine gg_vretv dX10_next_317 rfl ⟨rfl, rfl⟩ ?_
          have hC1 : gtC T n q = 1 := by rw [hC, if_neg (by omega)]
          exact ⟨_, rfl, gF45_t hF (gF45_u (by omega)), gRq_1 hC1 (by rw [gu_n (by omega), hP]; exact h12) gu_s⟩

set_option maxRecDepth 10000 in
theorem v_X10_next {l : Launch} {Γ : gC} {ad : Nat → Nat} {I0 : Nat → Nat → Int} {J : Nat → Nat → Int64} {d : Nat} {T : Nat → Int} {n : Nat} {p q : Nat} (hP : gtP T n q = p) (hpn : p < n) (hnl : ¬ gLt (T p) = true) (hdg : gDgt (T p) = true) (hd : 1 ≤ d) : ∀ (m : Nat) (k : Nat) (I : Nat → Nat → Int), n - k < m → (p ≤ k ∧ k ≤ n) → (gTq I T n) → (I 145 11 = (k : Int)) → (I 145 12 = (p : Int)) → (I 145 13 = 2) → (I 145 14 = gVl T p (min (k - p) 4)) → (gRunE gDgt T n k = gRunE gDgt T n p) → (gF45 I0 I) → gG l Γ gm_X10_next (d, 0, 0, 0, 0) 187 [(1, .int (iv (T p))), (0, .ref (gad (gSS ad) 145))] [] (gSS ad, I, J) (gDv (fun μ => ∃ I1, μ = (gSS ad, I1, J) ∧ gF45 I0 I1 ∧ gRq I1 T n q)) := by
  intro m
  induction m with
  | zero => intros; omega
  | succ m ih =>
    intro k I hm hk hT h11 h12 h13 h14 hr hF
    have hn := hT.1
    refine gg_aload_n dX10_next_187 1 rfl ?_
    refine gg_aload_n dX10_next_188 1 rfl ?_
    refine gg_getI rfl gf_RX10_123 dX10_next_189 sh_145 pl_145 (by decide) (by decide) ?_
    refine gg_toI (b := (k : Int)) h11 ?_
    refine gg_callVi (own := RX10) (yt := gm_X10_byteAt) rfl gl_RX10_126 gk_X10_byteAt gr_X10_byteAt dX10_next_192 (c_X10_byteAt (d := d - 1) (T := T) (n := n) (i := k) hT (by have := hT.1; omega)) sh_145 pl_145 (by decide) rfl rfl rfl (Nat.le_of_ble_eq_true rfl) (by show _ ≤ d; omega) ⟨Nat.le_refl _, Nat.le_refl _⟩ (fun e1 μ' hc => ?_)
    obtain ⟨rfl, rfl⟩ := hc
    refine gg_bipush dX10_next_195 (by decide) ?_
    refine gg_bipush dX10_next_197 (by decide) ?_
    refine gg_callSi (own := RX10) (yt := gm_X10_in) rfl gl_RX10_84 gk_X10_in gr_X10_in dX10_next_199 (c_X10_in (d := d - 1) (by have := gby_rng hT k; omega)) rfl rfl (Nat.le_of_ble_eq_true rfl) (by show _ ≤ d; omega) ⟨Nat.le_refl _, Nat.le_refl _⟩ (fun e2 μ' hc => ?_)
    obtain ⟨rfl, ⟨rfl, hin⟩ | ⟨rfl, hin⟩⟩ := hc
    · obtain ⟨hlt, hbe⟩ := gby_is (T := T) (n := n) (i := k) (by omega)
      rw [hbe] at hin
      refine gg_if_eq_f (tgt := 254) dX10_next_202 (by decide) (by decide) (by decide) ?_
      refine gg_aload_n dX10_next_205 1 rfl ?_
      refine gg_getI rfl gf_RX10_123 dX10_next_206 sh_145 pl_145 (by decide) (by decide) ?_
      refine gg_toI (b := (k : Int)) h11 ?_
      refine gg_aload_n dX10_next_209 1 rfl ?_
      refine gg_getI rfl gf_RX10_129 dX10_next_210 sh_145 pl_145 (by decide) (by decide) ?_
      refine gg_toI (b := (p : Int)) h12 ?_
      refine gg_isub dX10_next_213 ?_
      refine gg_iconst dX10_next_214 ?_
      refine gg_icmp_ge (tgt := 241) dX10_next_215 (by decide) (by have := hT.1; omega) (fun hge => ?_) (fun hge => ?_)
      · refine gg_aload_n dX10_next_241 1 rfl ?_
        refine gg_dup dX10_next_242 rfl ?_
        refine gg_getI rfl gf_RX10_123 dX10_next_243 sh_145 pl_145 (by decide) (by decide) ?_
        refine gg_toI (b := (k : Int)) h11 ?_
        refine gg_iconst dX10_next_246 ?_
        refine gg_iadd dX10_next_247 ?_
        refine gg_toI (b := ((k + 1 : Nat) : Int)) (by omega) ?_
        refine gg_putI rfl gf_RX10_123 dX10_next_248 sh_145 pl_145 (by decide) (by decide) (by decide) (gfit_i _) ?_
        refine gg_memI (fun I3 hI3 => ?_)
        refine gg_goto (tgt := 187) dX10_next_251 (by decide) ?_
        have hf : gF45 I I3 := by rw [hI3]; exact (gF45_u (by omega))
        have h14n : I3 145 14 = gVl T p (min (k + 1 - p) 4) := by rw [hI3, gu_n (by omega), h14, show min (k + 1 - p) 4 = min (k - p) 4 by omega]
        exact ih (k + 1) I3 (by omega) (by omega) (gTq_f hT hf) (by rw [hI3, gu_s]) (by rw [hI3, gu_n (by omega)]; exact h12) (by rw [hI3, gu_n (by omega)]; exact h13) h14n (by rw [← hr]; exact (gRunE_t hlt (by simp only [gDgt, decide_eq_true_eq]; exact hin)).symm) (gF45_t hF hf)
      · refine gg_aload_n dX10_next_218 1 rfl ?_
        refine gg_bipush dX10_next_219 (by decide) ?_
        refine gg_aload_n dX10_next_221 1 rfl ?_
        refine gg_getI rfl gf_RX10_135 dX10_next_222 sh_145 pl_145 (by decide) (by decide) ?_
        refine gg_toI (b := gVl T p (k - p)) (by rw [h14, show min (k - p) 4 = k - p by omega]) ?_
        refine gg_imul dX10_next_225 ?_
        refine gg_aload_n dX10_next_226 1 rfl ?_
        refine gg_aload_n dX10_next_227 1 rfl ?_
        refine gg_getI rfl gf_RX10_123 dX10_next_228 sh_145 pl_145 (by decide) (by decide) ?_
        refine gg_toI (b := (k : Int)) h11 ?_
        refine gg_callVi (own := RX10) (yt := gm_X10_byteAt) rfl gl_RX10_126 gk_X10_byteAt gr_X10_byteAt dX10_next_231 (c_X10_byteAt (d := d - 1) (T := T) (n := n) (i := k) hT (by have := hT.1; omega)) sh_145 pl_145 (by decide) rfl rfl rfl (Nat.le_of_ble_eq_true rfl) (by show _ ≤ d; omega) ⟨Nat.le_refl _, Nat.le_refl _⟩ (fun e3 μ' hc => ?_)
        obtain ⟨rfl, rfl⟩ := hc
        refine gg_toI (b := T k) (gby_in hlt) ?_
        refine gg_iadd dX10_next_234 ?_
        refine gg_bipush dX10_next_235 (by decide) ?_
        refine gg_isub dX10_next_237 ?_
        refine gg_toI (b := gVl T p (k + 1 - p)) (by rw [show k + 1 - p = (k - p) + 1 by omega]; show _ = gVl T p (k - p) * 10 + T (p + (k - p)) - 48; rw [show p + (k - p) = k by omega]; omega) ?_
        refine gg_putI rfl gf_RX10_135 dX10_next_238 sh_145 pl_145 (by decide) (by decide) (by decide) (gfit_i _) ?_
        refine gg_memI (fun I2 hI2 => ?_)
        refine gg_aload_n dX10_next_241 1 rfl ?_
        refine gg_dup dX10_next_242 rfl ?_
        refine gg_getI rfl gf_RX10_123 dX10_next_243 sh_145 pl_145 (by decide) (by decide) ?_
        refine gg_toI (b := (k : Int)) (by rw [hI2, gu_n (by omega)]; exact h11) ?_
        refine gg_iconst dX10_next_246 ?_
        refine gg_iadd dX10_next_247 ?_
        refine gg_toI (b := ((k + 1 : Nat) : Int)) (by omega) ?_
        refine gg_putI rfl gf_RX10_123 dX10_next_248 sh_145 pl_145 (by decide) (by decide) (by decide) (gfit_i _) ?_
        refine gg_memI (fun I3 hI3 => ?_)
        refine gg_goto (tgt := 187) dX10_next_251 (by decide) ?_
        have hf : gF45 I I3 := by rw [hI3, hI2]; exact gF45_t (gF45_u (by omega)) (gF45_u (by omega))
        have h14n : I3 145 14 = gVl T p (min (k + 1 - p) 4) := by rw [hI3, gu_n (by omega), hI2, gu_s, show min (k + 1 - p) 4 = k + 1 - p by omega]
        exact ih (k + 1) I3 (by omega) (by omega) (gTq_f hT hf) (by rw [hI3, gu_s]) (by rw [hI3, gu_n (by omega), hI2, gu_n (by omega)]; exact h12) (by rw [hI3, gu_n (by omega), hI2, gu_n (by omega)]; exact h13) h14n (by rw [← hr]; exact (gRunE_t hlt (by simp only [gDgt, decide_eq_true_eq]; exact hin)).symm) (gF45_t hF hf)
    · have hend : gRunE gDgt T n k = k := gRunE_f (gby_no (P := gDgt) (by simp only [gDgt, decide_eq_false_iff_not]; omega))
      have hE : gtE T n q = k := by unfold gtE; rw [hP, if_neg (by omega), if_neg hnl, if_pos hdg, ← hr, hend]
      have hC : gtC T n q = (if k - p ≤ 4 then 3 else 1) := by unfold gtC; rw [hE, hP, if_neg (by omega), if_neg hnl, if_pos hdg]
      refine gg_if_eq_t (tgt := 254) dX10_next_202 (by decide) (by decide) (by decide) ?_
      refine gg_aload_n dX10_next_254 1 rfl ?_
      refine gg_aload_n dX10_next_255 1 rfl ?_
      refine gg_getI rfl gf_RX10_123 dX10_next_256 sh_145 pl_145 (by decide) (by decide) ?_
      refine gg_toI (b := (k : Int)) h11 ?_
      refine gg_aload_n dX10_next_259 1 rfl ?_
      refine gg_getI rfl gf_RX10_129 dX10_next_260 sh_145 pl_145 (by decide) (by decide) ?_
      refine gg_toI (b := (p : Int)) h12 ?_
      refine gg_isub dX10_next_263 ?_
      refine gg_iconst dX10_next_264 ?_
      refine gg_icmp_le (tgt := 272) dX10_next_265 (by decide) (by have := hT.1; omega) (fun hle => ?_) (fun hle => ?_)
      · refine gg_iconst dX10_next_272 ?_
        refine gg_putI rfl gf_RX10_120 dX10_next_273 sh_145 pl_145 (by decide) (by decide) (by decide) gfit_0 ?_
        refine gg_goto (tgt := 317) dX10_next_276 (by decide) ?_
        refine gg_vretv dX10_next_317 rfl ⟨rfl, rfl⟩ ?_
        have hC2 : gtC T n q = 3 := by rw [hC, if_pos (by omega)]
        have hV : gtV T n q = gVl T p (k - p) := by unfold gtV; rw [hE, hP, if_neg hnl]
        have hmn : min (k - p) 4 = k - p := by omega
        rw [hmn] at h14
        exact ⟨_, rfl, gF45_t hF (gF45_u (by omega)), by rw [gu_n (by omega), hP]; exact h12, fun h => by omega, fun _ => ⟨gu_s, by rw [gu_n (by omega), hE]; exact h11⟩, fun h => by omega, fun h => by omega, fun _ => ⟨by rw [gu_n (by omega)]; exact h13, by rw [gu_n (by omega), hV]; exact h14⟩, fun h => by omega⟩
      · refine gg_iconst dX10_next_268 ?_
        refine gg_goto (tgt := 273) dX10_next_269 (by decide) ?_
        refine gg_putI rfl gf_RX10_120 dX10_next_273 sh_145 pl_145 (by decide) (by decide) (by decide) gfit_1 ?_
        refine gg_goto (tgt := 317) dX10_next_276 (by decide) ?_
        refine gg_vretv dX10_next_317 rfl ⟨rfl, rfl⟩ ?_
        have hC1 : gtC T n q = 1 := by rw [hC, if_neg (by omega)]
        exact ⟨_, rfl, gF45_t hF (gF45_u (by omega)), gRq_1 hC1 (by rw [gu_n (by omega), hP]; exact h12) gu_s⟩

set_option maxRecDepth 10000 in
set_option maxRecDepth 10000 in
theorem s_X10_next {l : Launch} {Γ : gC} {ad : Nat → Nat} {I : Nat → Nat → Int} {J : Nat → Nat → Int64} {d : Nat} {T : Nat → Int} {n : Nat} {p q : Nat} (hT : gTq I T n) (h11 : I 145 11 = (p : Int)) (h16 : I 145 16 = 0) (hP : gtP T n q = p) (hp : p ≤ n) (hd : 4 ≤ d) : gG l Γ gm_X10_next (d, 0, 0, 0, 0) 47 [(0, .ref (gad (gSS ad) 145))] [] (gSS ad, I, J) (gDv (fun μ => ∃ I1, μ = (gSS ad, I1, J) ∧ gF45 I I1 ∧ gRq I1 T n q)) := by
  refine gg_aload_n dX10_next_47 0 rfl ?_
  refine gg_aload_n dX10_next_48 0 rfl ?_
  refine gg_getI rfl gf_RX10_123 dX10_next_49 sh_145 pl_145 (by decide) (by decide) ?_
  refine gg_toI (b := (p : Int)) h11 ?_
  refine gg_putI rfl gf_RX10_129 dX10_next_52 sh_145 pl_145 (by decide) (by decide) (by decide) (gfit_i _) ?_
  refine gg_memI (fun I2 hI2 => ?_)
  have hf2 : gF45 I I2 := by rw [hI2]; exact (gF45_u (by omega))
  have hT2 := gTq_f hT hf2
  have k11 : I2 145 11 = (p : Int) := by rw [hI2, gu_n (by omega)]; exact h11
  have k12 : I2 145 12 = (p : Int) := by rw [hI2, gu_s]
  refine gg_aload_n dX10_next_55 0 rfl ?_
  refine gg_aload_n dX10_next_56 0 rfl ?_
  refine gg_getI rfl gf_RX10_123 dX10_next_57 sh_145 pl_145 (by decide) (by decide) ?_
  refine gg_toI (b := (p : Int)) k11 ?_
  refine gg_callVi (own := RX10) (yt := gm_X10_byteAt) rfl gl_RX10_126 gk_X10_byteAt gr_X10_byteAt dX10_next_60 (c_X10_byteAt (d := d - 1) (T := T) (n := n) (i := p) hT2 (by have := hT.1; omega)) sh_145 pl_145 (by decide) rfl rfl rfl (Nat.le_of_ble_eq_true rfl) (by show _ ≤ d; omega) ⟨Nat.le_refl _, Nat.le_refl _⟩ (fun e1 μ' hc => ?_)
  obtain ⟨rfl, rfl⟩ := hc
  have hgr := gby_rng hT p
  refine gg_istore_n (ls' := [(1, .int (iv (gby T n p))), (0, .ref (gad (gSS ad) 145))]) dX10_next_63 rfl (by decide) rfl ?_
  refine gg_iload_n dX10_next_64 0 rfl ?_
  refine gg_iconst dX10_next_65 ?_
  refine gg_icmp_ne (tgt := 77) dX10_next_66 (by decide) (by omega) (fun hb => ?_) (fun hb => ?_)
  · obtain ⟨hlt, hbe⟩ := gby_is (T := T) (n := n) (i := p) (by omega)
    refine gg_toL1 hbe ?_
    have htr := hT.2.2 p hlt
    refine gg_iload_n dX10_next_77 0 rfl ?_
    refine gg_bipush dX10_next_78 (by decide) ?_
    refine gg_bipush dX10_next_80 (by decide) ?_
    refine gg_callSi (own := RX10) (yt := gm_X10_in) rfl gl_RX10_84 gk_X10_in gr_X10_in dX10_next_82 (c_X10_in (d := d - 1) (by omega)) rfl rfl (Nat.le_of_ble_eq_true rfl) (by show _ ≤ d; omega) ⟨Nat.le_refl _, Nat.le_refl _⟩ (fun e2 μ' hc => ?_)
    obtain ⟨rfl, ⟨rfl, hl⟩ | ⟨rfl, hl⟩⟩ := hc
    · have hlp : gLt (T p) = true := by simp only [gLt, decide_eq_true_eq]; exact hl
      refine gg_if_eq_f (tgt := 166) dX10_next_85 (by decide) (by decide) (by decide) ?_
      refine gg_aload_n dX10_next_88 1 rfl ?_
      refine gg_iconst dX10_next_89 ?_
      refine gg_putI rfl gf_RX10_132 dX10_next_90 sh_145 pl_145 (by decide) (by decide) (by decide) (gfit_i _) ?_
      refine gg_memI (fun I3 hI3 => ?_)
      refine gg_aload_n dX10_next_93 1 rfl ?_
      refine gg_iload_n dX10_next_94 0 rfl ?_
      refine gg_bipush dX10_next_95 (by decide) ?_
      refine gg_isub dX10_next_97 ?_
      refine gg_putI rfl gf_RX10_135 dX10_next_98 sh_145 pl_145 (by decide) (by decide) (by decide) (gfit_i _) ?_
      refine gg_memI (fun I4 hI4 => ?_)
      have hf4 : gF45 I I4 := gF45_t hf2 (by rw [hI4, hI3]; exact gF45_t (gF45_u (by omega)) (gF45_u (by omega)))
      exact w_X10_next (I0 := I) hP hlt hlp (by omega) (n - p + 1) p I4 (by omega) (by omega) (gTq_f hT hf4) (by rw [hI4, hI3, gu_n (by omega), gu_n (by omega)]; exact k11) (by rw [hI4, hI3, gu_n (by omega), gu_n (by omega)]; exact k12) (by rw [hI4, gu_n (by omega), hI3, gu_s]) (by rw [hI4, gu_s]) rfl hf4
    · have hnl : ¬ gLt (T p) = true := by simp only [gLt, decide_eq_true_eq]; exact hl
      refine gg_if_eq_t (tgt := 166) dX10_next_85 (by decide) (by decide) (by decide) ?_
      refine gg_iload_n dX10_next_166 0 rfl ?_
      refine gg_bipush dX10_next_167 (by decide) ?_
      refine gg_bipush dX10_next_169 (by decide) ?_
      refine gg_callSi (own := RX10) (yt := gm_X10_in) rfl gl_RX10_84 gk_X10_in gr_X10_in dX10_next_171 (c_X10_in (d := d - 1) (by omega)) rfl rfl (Nat.le_of_ble_eq_true rfl) (by show _ ≤ d; omega) ⟨Nat.le_refl _, Nat.le_refl _⟩ (fun e3 μ' hc => ?_)
      obtain ⟨rfl, ⟨rfl, hdd⟩ | ⟨rfl, hdd⟩⟩ := hc
      · have hdg : gDgt (T p) = true := by simp only [gDgt, decide_eq_true_eq]; exact hdd
        refine gg_if_eq_f (tgt := 279) dX10_next_174 (by decide) (by decide) (by decide) ?_
        refine gg_aload_n dX10_next_177 1 rfl ?_
        refine gg_iconst dX10_next_178 ?_
        refine gg_putI rfl gf_RX10_132 dX10_next_179 sh_145 pl_145 (by decide) (by decide) (by decide) (gfit_i _) ?_
        refine gg_memI (fun I3 hI3 => ?_)
        refine gg_aload_n dX10_next_182 1 rfl ?_
        refine gg_iconst dX10_next_183 ?_
        refine gg_putI rfl gf_RX10_135 dX10_next_184 sh_145 pl_145 (by decide) (by decide) (by decide) (gfit_i _) ?_
        refine gg_memI (fun I4 hI4 => ?_)
        have hf4 : gF45 I I4 := gF45_t hf2 (by rw [hI4, hI3]; exact gF45_t (gF45_u (by omega)) (gF45_u (by omega)))
        exact v_X10_next (I0 := I) hP hlt hnl hdg (by omega) (n - p + 1) p I4 (by omega) (by omega) (gTq_f hT hf4) (by rw [hI4, hI3, gu_n (by omega), gu_n (by omega)]; exact k11) (by rw [hI4, hI3, gu_n (by omega), gu_n (by omega)]; exact k12) (by rw [hI4, gu_n (by omega), hI3, gu_s]) (by rw [hI4, gu_s, Nat.sub_self]; rfl) rfl hf4
      · have hnd : ¬ gDgt (T p) = true := by simp only [gDgt, decide_eq_true_eq]; exact hdd
        refine gg_if_eq_t (tgt := 279) dX10_next_174 (by decide) (by decide) (by decide) ?_
        refine gg_aload_n dX10_next_279 1 rfl ?_
        refine gg_iconst dX10_next_280 ?_
        refine gg_putI rfl gf_RX10_132 dX10_next_281 sh_145 pl_145 (by decide) (by decide) (by decide) (gfit_i _) ?_
        refine gg_memI (fun I3 hI3 => ?_)
        refine gg_aload_n dX10_next_284 1 rfl ?_
        refine gg_iload_n dX10_next_285 0 rfl ?_
        refine gg_putI rfl gf_RX10_135 dX10_next_286 sh_145 pl_145 (by decide) (by decide) (by decide) (gfit_i _) ?_
        refine gg_memI (fun I4 hI4 => ?_)
        refine gg_aload_n dX10_next_289 1 rfl ?_
        refine gg_dup dX10_next_290 rfl ?_
        refine gg_getI rfl gf_RX10_123 dX10_next_291 sh_145 pl_145 (by decide) (by decide) ?_
        refine gg_toI (b := (p : Int)) (by rw [hI4, hI3, gu_n (by omega), gu_n (by omega)]; exact k11) ?_
        refine gg_iconst dX10_next_294 ?_
        refine gg_iadd dX10_next_295 ?_
        refine gg_toI (b := ((p + 1 : Nat) : Int)) (by omega) ?_
        refine gg_putI rfl gf_RX10_123 dX10_next_296 sh_145 pl_145 (by decide) (by decide) (by decide) (gfit_i _) ?_
        refine gg_memI (fun I5 hI5 => ?_)
        have hf5 : gF45 I I5 := gF45_t hf2 (by rw [hI5, hI4, hI3]; exact gF45_t (gF45_u (by omega)) (gF45_t (gF45_u (by omega)) (gF45_u (by omega))))
        have g11 : I5 145 11 = ((p + 1 : Nat) : Int) := by rw [hI5, gu_s]
        have g12 : I5 145 12 = (p : Int) := by rw [hI5, hI4, hI3, gu_n (by omega), gu_n (by omega), gu_n (by omega)]; exact k12
        have g13 : I5 145 13 = 3 := by rw [hI5, hI4, hI3, gu_n (by omega), gu_n (by omega), gu_s]
        have g14 : I5 145 14 = T p := by rw [hI5, hI4, gu_n (by omega), gu_s]
        refine gg_aload_n dX10_next_299 1 rfl ?_
        refine gg_sldc rfl dX10_next_300 ?_
        refine gg_iload_n dX10_next_302 0 rfl ?_
        refine gg_callKi (own := RX10) (yt := gm_J0_indexOf_0f7a4) rfl gl_RX10_140 gk_J0_indexOf_0f7a4 gr_J0_indexOf_0f7a4 dX10_next_303 (c_J0_indexOf_0f7a4 (d := d - 1) (ch := T p) (hT.2.2 p hlt).2 (by omega)) rfl rfl rfl (Nat.le_of_ble_eq_true rfl) (by show _ ≤ d; omega) ⟨Nat.le_refl _, Nat.le_refl _⟩ (fun e1 μ' hc => ?_)
        obtain ⟨rfl, he⟩ := hc
        have her : -1 ≤ e1 ∧ e1 ≤ 9 := by
          rcases he with ⟨h1, h2, -⟩ | ⟨h1, -⟩ <;> omega
        refine gg_if_ge (tgt := 313) dX10_next_306 (by decide) (by omega) (fun hsx => ?_) (fun hsx => ?_)
        · refine gg_iconst dX10_next_313 ?_
          refine gg_putI rfl gf_RX10_120 dX10_next_314 sh_145 pl_145 (by decide) (by decide) (by decide) gfit_0 ?_
          refine gg_vretv dX10_next_317 rfl ⟨rfl, rfl⟩ ?_
          have hE : gtE T n q = p + 1 := by unfold gtE; rw [hP, if_neg (by omega), if_neg hnl, if_neg hnd]
          have hsg : gSg (T p) := by
            rcases he with ⟨h1, h2, h3⟩ | ⟨h1, h2⟩
            · exact h3
            · omega
          have hC : gtC T n q = T p := by unfold gtC; rw [hP, if_neg (by omega), if_neg hnl, if_neg hnd]; exact if_pos hsg
          have hsr : 40 ≤ T p := by
            rcases hsg with h | h | h | h | h | h | h | h | h | h <;> omega
          exact ⟨_, rfl, gF45_t hf5 (gF45_u (by omega)), by rw [gu_n (by omega), g12, hP], fun h => by omega, fun _ => ⟨gu_s, by rw [gu_n (by omega), g11, hE]⟩, fun h => by omega, fun h => by omega, fun h => by omega, fun _ => ⟨by rw [gu_n (by omega)]; exact g13, by rw [gu_n (by omega), hC]; exact g14⟩⟩
        · refine gg_iconst dX10_next_309 ?_
          refine gg_goto (tgt := 314) dX10_next_310 (by decide) ?_
          refine gg_putI rfl gf_RX10_120 dX10_next_314 sh_145 pl_145 (by decide) (by decide) (by decide) gfit_1 ?_
          refine gg_vretv dX10_next_317 rfl ⟨rfl, rfl⟩ ?_
          have hE : gtE T n q = p + 1 := by unfold gtE; rw [hP, if_neg (by omega), if_neg hnl, if_neg hnd]
          have hns : ¬ gSg (T p) := by
            rcases he with ⟨h1, h2, h3⟩ | ⟨h1, h2⟩
            · omega
            · exact h2
          have hC1 : gtC T n q = 1 := by unfold gtC; rw [hP, if_neg (by omega), if_neg hnl, if_neg hnd]; exact if_neg hns
          exact ⟨_, rfl, gF45_t hf5 (gF45_u (by omega)), gRq_1 hC1 (by rw [gu_n (by omega), g12, hP]) gu_s⟩
  · have hpn : n ≤ p := by
      by_cases h : p < n
      · rw [gby_in h] at hb
        have := hT.2.2 p h
        omega
      · omega
    refine gg_aload_n dX10_next_69 1 rfl ?_
    refine gg_iconst dX10_next_70 ?_
    refine gg_putI rfl gf_RX10_132 dX10_next_71 sh_145 pl_145 (by decide) (by decide) (by decide) (gfit_i _) ?_
    refine gg_goto (tgt := 317) dX10_next_74 (by decide) ?_
    refine gg_vretv dX10_next_317 rfl ⟨rfl, rfl⟩ ?_
    have hE : gtE T n q = p := by unfold gtE; rw [hP, if_pos (by omega)]
    have hC : gtC T n q = 0 := by unfold gtC; rw [hP, if_pos (by omega)]
    exact ⟨_, rfl, gF45_t hf2 (gF45_u (by omega)), by rw [gu_n (by omega), hI2, gu_s, hP], fun h => by omega, fun _ => ⟨by rw [gu_n (by omega), hI2, gu_n (by omega)]; exact h16, by rw [gu_n (by omega), hI2, gu_n (by omega), hE]; exact h11⟩, fun _ => gu_s, fun h => by omega, fun h => by omega, fun h => by omega⟩

