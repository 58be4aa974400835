/-! feed, count on both sides -/
def gSel (a b c e f : Int) (k : Nat) : Int := if k = 0 then a else if k = 1 then b else if k = 2 then c else if k = 3 then e else f
/-- how many of the first k aren't empty; nodes of all of them -/
def gNE (nf : Nat → Nat) : Nat → Nat
  | 0 => 0
  | k + 1 => gNE nf k + (if nf k = 0 then 0 else 1)
def gNS (nf : Nat → Nat) : Nat → Nat
  | 0 => 0
  | k + 1 => gNS nf k + nf k
set_option maxRecDepth 10000 in
theorem c_X5_tapeSize {l : Launch} {Γ : gC} {ad : Nat → Nat} {I : Nat → Nat → Int} {J : Nat → Nat → Int64} {d : Nat}  : gKi l Γ gm_X5_tapeSize d [.ref (gad (gSS ad) 20)] (gSS ad, I, J) (fun e μ => μ = (gSS ad, I, J) ∧ e = I 20 2) := by
  refine gKi_of gk_X5_tapeSize.1 (Nat.le_of_ble_eq_true rfl) ?_
  show gG l Γ gm_X5_tapeSize (d, 0, 0, 0, 0) 0 [(0, .ref (gad (gSS ad) 20))] [] _ _
  refine gg_aload_n dX5_tapeSize_0 0 rfl ?_
  refine gg_getI rfl gf_RX5_19 dX5_tapeSize_1 sh_20 pl_20 (by decide) (by decide) ?_
  refine gg_ireti dX5_tapeSize_4 rfl ⟨rfl, rfl⟩ ?_
  exact ⟨rfl, rfl⟩

set_option maxRecDepth 10000 in
theorem c_X5_append {l : Launch} {Γ : gC} {ad : Nat → Nat} {I : Nat → Nat → Int} {J : Nat → Nat → Int64} {d : Nat} {t : Nat} {v : Int} (ht : I 20 2 = (t : Int)) (hl : t < 120) : gKv l Γ gm_X5_append d [.ref (gad (gSS ad) 20), .int (iv v)] (gSS ad, I, J) (fun μ => μ = (gSS ad, gu (gu I 21 t v) 20 2 ((t : Int) + 1), J)) := by
  refine gKv_of gk_X5_append.1 (Nat.le_of_ble_eq_true rfl) ?_
  show gG l Γ gm_X5_append (d, 0, 0, 0, 0) 0 [(0, .ref (gad (gSS ad) 20)), (1, .int (iv v))] [] _ _
  refine gg_aload_n dX5_append_0 0 rfl ?_
  refine gg_getI rfl gf_RX5_19 dX5_append_1 sh_20 pl_20 (by decide) (by decide) ?_
  refine gg_toI (b := (t : Int)) (by simp [gu, ht]) ?_
  refine gg_bipush dX5_append_4 (by decide) ?_
  refine gg_icmp_ge_f (tgt := 29) dX5_append_6 (by decide) (by omega) (by omega) ?_
  refine gg_aload_n dX5_append_9 0 rfl ?_
  refine gg_getR (k' := 21) rfl gf_RX5_9 dX5_append_10 sh_20 pl_20 (by decide) (by decide) rr_20_1 ?_
  refine gg_aload_n dX5_append_13 0 rfl ?_
  refine gg_getI rfl gf_RX5_19 dX5_append_14 sh_20 pl_20 (by decide) (by decide) ?_
  refine gg_toI (b := (t : Int)) (by simp [gu, ht]) ?_
  refine gg_iload_n dX5_append_17 1 rfl ?_
  refine gg_iastj t dX5_append_18 sh_21 pl_21 (by decide) rfl hl ?_
  refine gg_aload_n dX5_append_19 0 rfl ?_
  refine gg_dup dX5_append_20 rfl ?_
  refine gg_getI rfl gf_RX5_19 dX5_append_21 sh_20 pl_20 (by decide) (by decide) ?_
  refine gg_toI (b := (t : Int)) (by simp [gu, ht]) ?_
  refine gg_iconst dX5_append_24 ?_
  refine gg_iadd dX5_append_25 ?_
  refine gg_putI rfl gf_RX5_19 dX5_append_26 sh_20 pl_20 (by decide) (by decide) (by decide) (gfit_i _) ?_
  refine gg_vretv dX5_append_29 rfl ⟨rfl, rfl⟩ ?_
  exact rfl

set_option maxRecDepth 10000 in
theorem w_X9_feed {l : Launch} {Γ : gC} {ad : Nat → Nat} {I0 : Nat → Nat → Int} {J : Nat → Nat → Int64} {d : Nat} {n t : Nat} {a b c e1 f : Int} (htn : t + n ≤ 120) (hn : n ≤ 5) (hd : 2 ≤ d) : ∀ (m : Nat) (k : Nat) (I : Nat → Nat → Int), n - k < m → (k ≤ n) → (I 20 2 = (t : Int) + k) → (∀ j, j < t → I 21 j = I0 21 j) → (∀ j, j < k → I 21 (t + j) = gSel a b c e1 f j) → (∀ j, j < 5 → I 6 j = gSel a b c e1 f j) → (∀ p, p ≠ 6 → p ≠ 20 → p ≠ 21 → I p = I0 p) → (∀ q, q ≠ 2 → I 20 q = I0 20 q) → gG l Γ gm_X9_feed (d, 0, 0, 0, 0) 109 [(7, .int (iv (k : Int))), (0, .ref (gad (gSS ad) 0)), (1, .int (iv (n : Int)))] [] (gSS ad, I, J) (gDi (fun e μ => ∃ I', μ = (gSS ad, I', J) ∧ I' 20 2 = (t : Int) + n ∧ (∀ j, j < t → I' 21 j = I0 21 j) ∧ (∀ j, j < n → I' 21 (t + j) = gSel a b c e1 f j) ∧ (∀ p, p ≠ 6 → p ≠ 20 → p ≠ 21 → I' p = I0 p) ∧ (∀ q, q ≠ 2 → I' 20 q = I0 20 q) ∧ e = (t : Int) + n)) := by
  intro m
  induction m with
  | zero => intros; omega
  | succ m ih =>
    intro k I hm hk hs h1 h2 h6 hI hq
    refine gg_iload dX9_feed_109 0 rfl ?_
    refine gg_iload_n dX9_feed_111 2 rfl ?_
    refine gg_icmp_ge (tgt := 135) dX9_feed_112 (by decide) (by omega) (fun hx => ?_) (fun hx => ?_)
    · refine gg_aload_n dX9_feed_135 1 rfl ?_
      refine gg_getR (k' := 20) rfl gf_RX9_54 dX9_feed_136 sh_0 pl_0 (by decide) (by decide) rr_0_10 ?_
      refine gg_callVi (own := RX9) (yt := gm_X5_tapeSize) rfl gl_RX9_98 gk_X5_tapeSize gr_X5_tapeSize dX9_feed_139 (c_X5_tapeSize (d := d - 1)) sh_20 pl_20 (by decide) rfl rfl rfl (Nat.le_of_ble_eq_true rfl) (by show _ ≤ d; omega) ⟨Nat.le_refl _, Nat.le_refl _⟩ (fun e1 μ' hc => ?_)
      obtain ⟨rfl, rfl⟩ := hc
      refine gg_ireti dX9_feed_142 rfl ⟨rfl, rfl⟩ ?_
      have hkn : k = n := by omega
      subst hkn
      exact ⟨I, rfl, hs, h1, h2, hI, hq, hs⟩
    · refine gg_aload_n dX9_feed_115 1 rfl ?_
      refine gg_getR (k' := 20) rfl gf_RX9_54 dX9_feed_116 sh_0 pl_0 (by decide) (by decide) rr_0_10 ?_
      refine gg_aload_n dX9_feed_119 1 rfl ?_
      refine gg_getR (k' := 6) rfl gf_RX9_31 dX9_feed_120 sh_0 pl_0 (by decide) (by decide) rr_0_6 ?_
      refine gg_iload dX9_feed_123 0 rfl ?_
      refine gg_ialdj k dX9_feed_125 sh_6 pl_6 (by decide) rfl (by omega) ?_
      refine gg_callVv (own := RX9) (yt := gm_X5_append) rfl gl_RX9_102 gk_X5_append gr_X5_append dX9_feed_126 (c_X5_append (d := d - 1) (t := t + k) (by omega) (by omega)) sh_20 pl_20 (by decide) rfl rfl rfl (Nat.le_of_ble_eq_true rfl) (by show _ ≤ d; omega) ⟨Nat.le_refl _, Nat.le_refl _⟩ (fun μ' hc => ?_)
      obtain rfl := hc
      refine gg_memI (fun I1 hI1 => ?_)
      refine gg_iincv (ls' := [(7, .int (iv ((k + 1 : Nat) : Int))), (0, .ref (gad (gSS ad) 0)), (1, .int (iv (n : Int)))]) dX9_feed_129 0 rfl (by omega) (by decide) rfl ?_
      refine gg_goto (tgt := 109) dX9_feed_132 (by decide) ?_
      refine ih (k + 1) I1 (by omega) (by omega) ?_ (fun j hj => ?_) (fun j hj => ?_) (fun j hj => ?_) (fun p p1 p2 p3 => ?_) (fun q q1 => ?_)
      · rw [hI1, gu_s]
        omega
      · rw [hI1, gu_n (by omega), gu_n (by omega)]
        exact h1 j hj
      · rw [hI1, gu_n (by omega)]
        by_cases hjk : j = k
        · subst hjk
          rw [gu_s]
          exact h6 j (by omega)
        · rw [gu_n (by omega)]
          exact h2 j (by omega)
      · rw [hI1, gu_n (by omega), gu_n (by omega)]
        exact h6 j hj
      · rw [hI1, gu_other p2, gu_other p3]
        exact hI p p1 p2 p3
      · rw [hI1, gu_n (by omega), gu_n (by omega)]
        exact hq q q1

set_option maxRecDepth 10000 in
theorem c_X9_feed {l : Launch} {Γ : gC} {ad : Nat → Nat} {I : Nat → Nat → Int} {J : Nat → Nat → Int64} {d : Nat} {n t : Nat} {a b c e1 f : Int} (hn : 1 ≤ n ∧ n ≤ 5) (ht : I 20 2 = (t : Int)) (htl : t ≤ 120) (ha : 0 ≤ a ∧ a ≤ 255) (hb : 0 ≤ b ∧ b ≤ 255) (hc : 0 ≤ c ∧ c ≤ 255) (he : 0 ≤ e1 ∧ e1 ≤ 255) (hf : 0 ≤ f ∧ f ≤ 255) (hd : 3 ≤ d) : gKi l Γ gm_X9_feed d [.ref (gad (gSS ad) 0), .int (iv (n : Int)), .int (iv a), .int (iv b), .int (iv c), .int (iv e1), .int (iv f)] (gSS ad, I, J) (fun e μ => (¬ (t + n ≤ 120) ∧ μ = (gSS ad, I, J) ∧ e = -4) ∨ (t + n ≤ 120 ∧ ∃ I', μ = (gSS ad, I', J) ∧ I' 20 2 = (t : Int) + n ∧ (∀ j, j < t → I' 21 j = I 21 j) ∧ (∀ j, j < n → I' 21 (t + j) = gSel a b c e1 f j) ∧ (∀ p, p ≠ 6 → p ≠ 20 → p ≠ 21 → I' p = I p) ∧ (∀ q, q ≠ 2 → I' 20 q = I 20 q) ∧ e = (t : Int) + n)) := by
  refine gKi_of gk_X9_feed.1 (Nat.le_of_ble_eq_true rfl) ?_
  show gG l Γ gm_X9_feed (d, 0, 0, 0, 0) 0 [(0, .ref (gad (gSS ad) 0)), (1, .int (iv (n : Int))), (2, .int (iv a)), (3, .int (iv b)), (4, .int (iv c)), (5, .int (iv e1)), (6, .int (iv f))] [] _ _
  refine gg_iload_n dX9_feed_0 1 rfl ?_
  refine gg_iconst dX9_feed_1 ?_
  refine gg_icmp_lt_f (tgt := 48) dX9_feed_2 (by decide) (by omega) (by omega) ?_
  refine gg_iload_n dX9_feed_5 1 rfl ?_
  refine gg_iconst dX9_feed_6 ?_
  refine gg_icmp_gt_f (tgt := 48) dX9_feed_7 (by decide) (by omega) (by omega) ?_
  refine gg_iload_n dX9_feed_10 2 rfl ?_
  refine gg_callSi (own := RX9) (yt := gm_X9_isByte) rfl gl_RX9_94 gk_X9_isByte gr_X9_isByte dX9_feed_11 (c_X9_isByte (d := d - 1) (by omega)) rfl rfl (Nat.le_of_ble_eq_true rfl) (by show _ ≤ d; omega) ⟨Nat.le_refl _, Nat.le_refl _⟩ (fun e1 μ' hc => ?_)
  obtain ⟨rfl, ⟨rfl, hb2⟩ | ⟨rfl, hb2⟩⟩ := hc
  rotate_left
  · omega
  refine gg_if_eq_f (tgt := 48) dX9_feed_14 (by decide) (by decide) (by decide) ?_
  refine gg_iload_n dX9_feed_17 3 rfl ?_
  refine gg_callSi (own := RX9) (yt := gm_X9_isByte) rfl gl_RX9_94 gk_X9_isByte gr_X9_isByte dX9_feed_18 (c_X9_isByte (d := d - 1) (by omega)) rfl rfl (Nat.le_of_ble_eq_true rfl) (by show _ ≤ d; omega) ⟨Nat.le_refl _, Nat.le_refl _⟩ (fun e3 μ' hc => ?_)
  obtain ⟨rfl, ⟨rfl, hb4⟩ | ⟨rfl, hb4⟩⟩ := hc
  rotate_left
  · omega
  refine gg_if_eq_f (tgt := 48) dX9_feed_21 (by decide) (by decide) (by decide) ?_
  refine gg_iload dX9_feed_24 4 rfl ?_
  refine gg_callSi (own := RX9) (yt := gm_X9_isByte) rfl gl_RX9_94 gk_X9_isByte gr_X9_isByte dX9_feed_26 (c_X9_isByte (d := d - 1) (by omega)) rfl rfl (Nat.le_of_ble_eq_true rfl) (by show _ ≤ d; omega) ⟨Nat.le_refl _, Nat.le_refl _⟩ (fun e5 μ' hc => ?_)
  obtain ⟨rfl, ⟨rfl, hb6⟩ | ⟨rfl, hb6⟩⟩ := hc
  rotate_left
  · omega
  refine gg_if_eq_f (tgt := 48) dX9_feed_29 (by decide) (by decide) (by decide) ?_
  refine gg_iload dX9_feed_32 5 rfl ?_
  refine gg_callSi (own := RX9) (yt := gm_X9_isByte) rfl gl_RX9_94 gk_X9_isByte gr_X9_isByte dX9_feed_34 (c_X9_isByte (d := d - 1) (by omega)) rfl rfl (Nat.le_of_ble_eq_true rfl) (by show _ ≤ d; omega) ⟨Nat.le_refl _, Nat.le_refl _⟩ (fun e7 μ' hc => ?_)
  obtain ⟨rfl, ⟨rfl, hb8⟩ | ⟨rfl, hb8⟩⟩ := hc
  rotate_left
  · omega
  refine gg_if_eq_f (tgt := 48) dX9_feed_37 (by decide) (by decide) (by decide) ?_
  refine gg_iload dX9_feed_40 6 rfl ?_
  refine gg_callSi (own := RX9) (yt := gm_X9_isByte) rfl gl_RX9_94 gk_X9_isByte gr_X9_isByte dX9_feed_42 (c_X9_isByte (d := d - 1) (by omega)) rfl rfl (Nat.le_of_ble_eq_true rfl) (by show _ ≤ d; omega) ⟨Nat.le_refl _, Nat.le_refl _⟩ (fun e9 μ' hc => ?_)
  obtain ⟨rfl, ⟨rfl, hb10⟩ | ⟨rfl, hb10⟩⟩ := hc
  rotate_left
  · omega
  refine gg_if_ne_t (tgt := 51) dX9_feed_45 (by decide) (by decide) (by decide) ?_
  refine gg_aload_n dX9_feed_51 0 rfl ?_
  refine gg_getR (k' := 20) rfl gf_RX9_54 dX9_feed_52 sh_0 pl_0 (by decide) (by decide) rr_0_10 ?_
  refine gg_callVi (own := RX9) (yt := gm_X5_tapeSize) rfl gl_RX9_98 gk_X5_tapeSize gr_X5_tapeSize dX9_feed_55 (c_X5_tapeSize (d := d - 1)) sh_20 pl_20 (by decide) rfl rfl rfl (Nat.le_of_ble_eq_true rfl) (by show _ ≤ d; omega) ⟨Nat.le_refl _, Nat.le_refl _⟩ (fun e11 μ' hc => ?_)
  obtain ⟨rfl, rfl⟩ := hc
  refine gg_toI (b := (t : Int)) ht ?_
  refine gg_iload_n dX9_feed_58 1 rfl ?_
  refine gg_iadd dX9_feed_59 ?_
  refine gg_bipush dX9_feed_60 (by decide) ?_
  refine gg_icmp_le (tgt := 68) dX9_feed_62 (by decide) (by omega) (fun hx => ?_) (fun hx => ?_)
  · refine gg_aload_n dX9_feed_68 0 rfl ?_
    refine gg_getR (k' := 6) rfl gf_RX9_31 dX9_feed_69 sh_0 pl_0 (by decide) (by decide) rr_0_6 ?_
    refine gg_iconst dX9_feed_72 ?_
    refine gg_iload_n dX9_feed_73 2 rfl ?_
    refine gg_iastj 0 dX9_feed_74 sh_6 pl_6 (by decide) rfl (by omega) ?_
    refine gg_aload_n dX9_feed_75 0 rfl ?_
    refine gg_getR (k' := 6) rfl gf_RX9_31 dX9_feed_76 sh_0 pl_0 (by decide) (by decide) rr_0_6 ?_
    refine gg_iconst dX9_feed_79 ?_
    refine gg_iload_n dX9_feed_80 3 rfl ?_
    refine gg_iastj 1 dX9_feed_81 sh_6 pl_6 (by decide) rfl (by omega) ?_
    refine gg_aload_n dX9_feed_82 0 rfl ?_
    refine gg_getR (k' := 6) rfl gf_RX9_31 dX9_feed_83 sh_0 pl_0 (by decide) (by decide) rr_0_6 ?_
    refine gg_iconst dX9_feed_86 ?_
    refine gg_iload dX9_feed_87 4 rfl ?_
    refine gg_iastj 2 dX9_feed_89 sh_6 pl_6 (by decide) rfl (by omega) ?_
    refine gg_aload_n dX9_feed_90 0 rfl ?_
    refine gg_getR (k' := 6) rfl gf_RX9_31 dX9_feed_91 sh_0 pl_0 (by decide) (by decide) rr_0_6 ?_
    refine gg_iconst dX9_feed_94 ?_
    refine gg_iload dX9_feed_95 5 rfl ?_
    refine gg_iastj 3 dX9_feed_97 sh_6 pl_6 (by decide) rfl (by omega) ?_
    refine gg_aload_n dX9_feed_98 0 rfl ?_
    refine gg_getR (k' := 6) rfl gf_RX9_31 dX9_feed_99 sh_0 pl_0 (by decide) (by decide) rr_0_6 ?_
    refine gg_iconst dX9_feed_102 ?_
    refine gg_iload dX9_feed_103 6 rfl ?_
    refine gg_iastj 4 dX9_feed_105 sh_6 pl_6 (by decide) rfl (by omega) ?_
    refine gg_iconst dX9_feed_106 ?_
    refine gg_istore (ls' := [(7, .int (iv 0)), (0, .ref (gad (gSS ad) 0)), (1, .int (iv (n : Int))), (2, .int (iv a)), (3, .int (iv b)), (4, .int (iv c)), (5, .int (iv e1)), (6, .int (iv f))]) dX9_feed_107 (by decide) rfl ?_
    refine gg_sub [0, 1, 2] rfl ?_
    refine gG_post (w_X9_feed (a := a) (b := b) (c := c) (e1 := e1) (f := f) (t := t) (n := n) (by omega) (by omega) (by omega) (n + 1) 0 _ (by omega) (by omega) ?_ (fun j hj => rfl) (fun j hj => absurd hj (Nat.not_lt_zero _)) (fun j hj => ?_) (fun p p1 p2 p3 => rfl) (fun q q1 => rfl)) (fun r μ h => ?_)
    · simp [gu, ht]
    · have hj5 : j = 0 ∨ j = 1 ∨ j = 2 ∨ j = 3 ∨ j = 4 := by omega
      rcases hj5 with rfl | rfl | rfl | rfl | rfl <;> simp [gu, gSel]
    · obtain ⟨e, rfl, I', rfl, q1, q2, q3, q4, q5, q6⟩ := h
      refine ⟨e, rfl, Or.inr ⟨by omega, I', rfl, q1, fun j hj => ?_, q3, fun p p1 p2 p3 => ?_, fun q hq => ?_, q6⟩⟩
      · rw [q2 j hj]
        simp [gu]
      · rw [q4 p p1 p2 p3]
        simp [gu_other p1]
      · rw [q5 q hq]
        simp [gu]
  · refine gg_bipush dX9_feed_65 (by decide) ?_
    refine gg_ireti dX9_feed_67 rfl ⟨rfl, rfl⟩ ?_
    exact Or.inl ⟨by omega, rfl, rfl⟩

set_option maxRecDepth 10000 in
theorem c_X9_feed_out {l : Launch} {Γ : gC} {ad : Nat → Nat} {I : Nat → Nat → Int} {J : Nat → Nat → Int64} {d : Nat} {n a b c e1 f : Int} (hn : -2147483648 ≤ n ∧ n ≤ 2147483647) (ha : -2147483648 ≤ a ∧ a ≤ 2147483647) (hb : -2147483648 ≤ b ∧ b ≤ 2147483647) (hc : -2147483648 ≤ c ∧ c ≤ 2147483647) (he1 : -2147483648 ≤ e1 ∧ e1 ≤ 2147483647) (hf : -2147483648 ≤ f ∧ f ≤ 2147483647) (ho : ¬ (1 ≤ n ∧ n ≤ 5 ∧ 0 ≤ a ∧ a ≤ 255 ∧ 0 ≤ b ∧ b ≤ 255 ∧ 0 ≤ c ∧ c ≤ 255 ∧ 0 ≤ e1 ∧ e1 ≤ 255 ∧ 0 ≤ f ∧ f ≤ 255)) (hd : 3 ≤ d) : gKi l Γ gm_X9_feed d [.ref (gad (gSS ad) 0), .int (iv n), .int (iv a), .int (iv b), .int (iv c), .int (iv e1), .int (iv f)] (gSS ad, I, J) (fun e μ => μ = (gSS ad, I, J) ∧ e = -2) := by
  refine gKi_of gk_X9_feed.1 (Nat.le_of_ble_eq_true rfl) ?_
  show gG l Γ gm_X9_feed (d, 0, 0, 0, 0) 0 [(0, .ref (gad (gSS ad) 0)), (1, .int (iv n)), (2, .int (iv a)), (3, .int (iv b)), (4, .int (iv c)), (5, .int (iv e1)), (6, .int (iv f))] [] _ _
  refine gg_iload_n dX9_feed_0 1 rfl ?_
  refine gg_iconst dX9_feed_1 ?_
  refine gg_icmp_lt (tgt := 48) dX9_feed_2 (by decide) (by omega) (fun hb1 => ?_) (fun hb1 => ?_)
  · refine gg_bipush dX9_feed_48 (by decide) ?_
    refine gg_ireti dX9_feed_50 rfl ⟨rfl, rfl⟩ ?_
    exact ⟨rfl, rfl⟩
  · refine gg_iload_n dX9_feed_5 1 rfl ?_
    refine gg_iconst dX9_feed_6 ?_
    refine gg_icmp_gt (tgt := 48) dX9_feed_7 (by decide) (by omega) (fun hb2 => ?_) (fun hb2 => ?_)
    · refine gg_bipush dX9_feed_48 (by decide) ?_
      refine gg_ireti dX9_feed_50 rfl ⟨rfl, rfl⟩ ?_
      exact ⟨rfl, rfl⟩
    · refine gg_iload_n dX9_feed_10 2 rfl ?_
      refine gg_callSi (own := RX9) (yt := gm_X9_isByte) rfl gl_RX9_94 gk_X9_isByte gr_X9_isByte dX9_feed_11 (c_X9_isByte (d := d - 1) (by omega)) rfl rfl (Nat.le_of_ble_eq_true rfl) (by show _ ≤ d; omega) ⟨Nat.le_refl _, Nat.le_refl _⟩ (fun e3 μ' hc => ?_)
      obtain ⟨rfl, ⟨rfl, hb4⟩ | ⟨rfl, hb4⟩⟩ := hc
      · refine gg_if_eq_f (tgt := 48) dX9_feed_14 (by decide) (by decide) (by decide) ?_
        refine gg_iload_n dX9_feed_17 3 rfl ?_
        refine gg_callSi (own := RX9) (yt := gm_X9_isByte) rfl gl_RX9_94 gk_X9_isByte gr_X9_isByte dX9_feed_18 (c_X9_isByte (d := d - 1) (by omega)) rfl rfl (Nat.le_of_ble_eq_true rfl) (by show _ ≤ d; omega) ⟨Nat.le_refl _, Nat.le_refl _⟩ (fun e5 μ' hc => ?_)
        obtain ⟨rfl, ⟨rfl, hb6⟩ | ⟨rfl, hb6⟩⟩ := hc
        · refine gg_if_eq_f (tgt := 48) dX9_feed_21 (by decide) (by decide) (by decide) ?_
          refine gg_iload dX9_feed_24 4 rfl ?_
          refine gg_callSi (own := RX9) (yt := gm_X9_isByte) rfl gl_RX9_94 gk_X9_isByte gr_X9_isByte dX9_feed_26 (c_X9_isByte (d := d - 1) (by omega)) rfl rfl (Nat.le_of_ble_eq_true rfl) (by show _ ≤ d; omega) ⟨Nat.le_refl _, Nat.le_refl _⟩ (fun e7 μ' hc => ?_)
          obtain ⟨rfl, ⟨rfl, hb8⟩ | ⟨rfl, hb8⟩⟩ := hc
          · refine gg_if_eq_f (tgt := 48) dX9_feed_29 (by decide) (by decide) (by decide) ?_
            refine gg_iload dX9_feed_32 5 rfl ?_
            refine gg_callSi (own := RX9) (yt := gm_X9_isByte) rfl gl_RX9_94 gk_X9_isByte gr_X9_isByte dX9_feed_34 (c_X9_isByte (d := d - 1) (by omega)) rfl rfl (Nat.le_of_ble_eq_true rfl) (by show _ ≤ d; omega) ⟨Nat.le_refl _, Nat.le_refl _⟩ (fun e9 μ' hc => ?_)
            obtain ⟨rfl, ⟨rfl, hb10⟩ | ⟨rfl, hb10⟩⟩ := hc
            · refine gg_if_eq_f (tgt := 48) dX9_feed_37 (by decide) (by decide) (by decide) ?_
              refine gg_iload dX9_feed_40 6 rfl ?_
              refine gg_callSi (own := RX9) (yt := gm_X9_isByte) rfl gl_RX9_94 gk_X9_isByte gr_X9_isByte dX9_feed_42 (c_X9_isByte (d := d - 1) (by omega)) rfl rfl (Nat.le_of_ble_eq_true rfl) (by show _ ≤ d; omega) ⟨Nat.le_refl _, Nat.le_refl _⟩ (fun e11 μ' hc => ?_)
              obtain ⟨rfl, ⟨rfl, hb12⟩ | ⟨rfl, hb12⟩⟩ := hc
              · refine gg_if_ne_t (tgt := 51) dX9_feed_45 (by decide) (by decide) (by decide) ?_
                exfalso
                omega
              · refine gg_if_ne_f (tgt := 51) dX9_feed_45 (by decide) (by decide) (by decide) ?_
                refine gg_bipush dX9_feed_48 (by decide) ?_
                refine gg_ireti dX9_feed_50 rfl ⟨rfl, rfl⟩ ?_
                exact ⟨rfl, rfl⟩
            · refine gg_if_eq_t (tgt := 48) dX9_feed_37 (by decide) (by decide) (by decide) ?_
              refine gg_bipush dX9_feed_48 (by decide) ?_
              refine gg_ireti dX9_feed_50 rfl ⟨rfl, rfl⟩ ?_
              exact ⟨rfl, rfl⟩
          · refine gg_if_eq_t (tgt := 48) dX9_feed_29 (by decide) (by decide) (by decide) ?_
            refine gg_bipush dX9_feed_48 (by decide) ?_
            refine gg_ireti dX9_feed_50 rfl ⟨rfl, rfl⟩ ?_
            exact ⟨rfl, rfl⟩
        · refine gg_if_eq_t (tgt := 48) dX9_feed_21 (by decide) (by decide) (by decide) ?_
          refine gg_bipush dX9_feed_48 (by decide) ?_
          refine gg_ireti dX9_feed_50 rfl ⟨rfl, rfl⟩ ?_
          exact ⟨rfl, rfl⟩
      · refine gg_if_eq_t (tgt := 48) dX9_feed_14 (by decide) (by decide) (by decide) ?_
        refine gg_bipush dX9_feed_48 (by decide) ?_
        refine gg_ireti dX9_feed_50 rfl ⟨rfl, rfl⟩ ?_
        exact ⟨rfl, rfl⟩

set_option maxHeartbeats 1000000 in
set_option maxRecDepth 10000 in
theorem w_X10_feed {l : Launch} {Γ : gC} {ad : Nat → Nat} {I0 : Nat → Nat → Int} {J : Nat → Nat → Int64} {d : Nat} {n t : Nat} {a b c e1 f : Int} (htn : t + n ≤ 120) (hn : n ≤ 5) (hd : 2 ≤ d) : ∀ (m : Nat) (k : Nat) (I : Nat → Nat → Int), n - k < m → (k ≤ n) → (I 145 10 = (t : Int)) → (∀ j, j < t → I 189 j = I0 189 j) → (∀ j, j < k → I 189 (t + j) = gSel a b c e1 f j) → (∀ p, p ≠ 145 → p ≠ 189 → I p = I0 p) → (∀ q, q ≠ 10 → I 145 q = I0 145 q) → gG l Γ gm_X10_feed (d, 0, 0, 0, 0) 67 [(7, .int (iv (k : Int))), (0, .ref (gad (gSS ad) 145)), (1, .int (iv (n : Int))), (2, .int (iv a)), (3, .int (iv b)), (4, .int (iv c)), (5, .int (iv e1)), (6, .int (iv f))] [] (gSS ad, I, J) (gDi (fun e μ => ∃ I', μ = (gSS ad, I', J) ∧ I' 145 10 = (t : Int) + n ∧ (∀ j, j < t → I' 189 j = I0 189 j) ∧ (∀ j, j < n → I' 189 (t + j) = gSel a b c e1 f j) ∧ (∀ p, p ≠ 145 → p ≠ 189 → I' p = I0 p) ∧ (∀ q, q ≠ 10 → I' 145 q = I0 145 q) ∧ e = (t : Int) + n)) := by
  intro m
  induction m with
  | zero => intros; omega
  | succ m ih =>
    intro k I hm hk hs h1 h2 hI hq
    refine gg_iload dX10_feed_67 0 rfl ?_
    refine gg_iload_n dX10_feed_69 2 rfl ?_
    refine gg_icmp_ge (tgt := 134) dX10_feed_70 (by decide) (by omega) (fun hx => ?_) (fun hx => ?_)
    · refine gg_aload_n dX10_feed_134 1 rfl ?_
      refine gg_dup dX10_feed_135 rfl ?_
      refine gg_getI rfl gf_RX10_117 dX10_feed_136 sh_145 pl_145 (by decide) (by decide) ?_
      refine gg_toI (b := (t : Int)) hs ?_
      refine gg_iload_n dX10_feed_139 2 rfl ?_
      refine gg_iadd dX10_feed_140 ?_
      refine gg_putI rfl gf_RX10_117 dX10_feed_141 sh_145 pl_145 (by decide) (by decide) (by decide) (gfit_i _) ?_
      refine gg_aload_n dX10_feed_144 1 rfl ?_
      refine gg_getI rfl gf_RX10_117 dX10_feed_145 sh_145 pl_145 (by decide) (by decide) ?_
      refine gg_toI (b := (t : Int) + n) (by simp [gu]) ?_
      refine gg_ireti dX10_feed_148 rfl ⟨rfl, rfl⟩ ?_
      have hkn : k = n := by omega
      subst hkn
      refine ⟨_, rfl, by simp [gu], fun j hj => ?_, fun j hj => ?_, fun p p1 p2 => ?_, fun q q1 => ?_, rfl⟩
      · rw [gu_other (by omega)]
        exact h1 j hj
      · rw [gu_other (by omega)]
        exact h2 j hj
      · rw [gu_other p1]
        exact hI p p1 p2
      · rw [gu_n (by omega)]
        exact hq q q1
    · refine gg_aload_n dX10_feed_73 1 rfl ?_
      refine gg_getR (k' := 189) rfl gf_RX10_36 dX10_feed_74 sh_145 pl_145 (by decide) (by decide) rr_145_9 ?_
      refine gg_aload_n dX10_feed_77 1 rfl ?_
      refine gg_getI rfl gf_RX10_117 dX10_feed_78 sh_145 pl_145 (by decide) (by decide) ?_
      refine gg_toI (b := (t : Int)) hs ?_
      refine gg_iload dX10_feed_81 0 rfl ?_
      refine gg_iadd dX10_feed_83 ?_
      refine gg_iload dX10_feed_84 0 rfl ?_
      refine gg_if_ne (tgt := 93) dX10_feed_86 (by decide) (by omega) (fun hk0 => ?_) (fun hk0 => ?_)
      · refine gg_iload dX10_feed_93 0 rfl ?_
        refine gg_iconst dX10_feed_95 ?_
        refine gg_icmp_ne (tgt := 103) dX10_feed_96 (by decide) (by omega) (fun hk1 => ?_) (fun hk1 => ?_)
        · refine gg_iload dX10_feed_103 0 rfl ?_
          refine gg_iconst dX10_feed_105 ?_
          refine gg_icmp_ne (tgt := 114) dX10_feed_106 (by decide) (by omega) (fun hk2 => ?_) (fun hk2 => ?_)
          · refine gg_iload dX10_feed_114 0 rfl ?_
            refine gg_iconst dX10_feed_116 ?_
            refine gg_icmp_ne (tgt := 125) dX10_feed_117 (by decide) (by omega) (fun hk3 => ?_) (fun hk3 => ?_)
            · refine gg_iload dX10_feed_125 7 rfl ?_
              refine gg_iastj (t + k) dX10_feed_127 sh_189 pl_189 (by decide) (by omega) (by omega) ?_
              refine gg_memI (fun I1 hI1 => ?_)
              refine gg_iincv (ls' := [(7, .int (iv ((k + 1 : Nat) : Int))), (0, .ref (gad (gSS ad) 145)), (1, .int (iv (n : Int))), (2, .int (iv a)), (3, .int (iv b)), (4, .int (iv c)), (5, .int (iv e1)), (6, .int (iv f))]) dX10_feed_128 0 rfl (by omega) (by decide) rfl ?_
              refine gg_goto (tgt := 67) dX10_feed_131 (by decide) ?_
              refine ih (k + 1) I1 (by omega) (by omega) ?_ (fun j hj => ?_) (fun j hj => ?_) (fun p p1 p2 => ?_) (fun q q1 => ?_)
              · rw [hI1, gu_other (by omega)]
                exact hs
              · rw [hI1, gu_n (by omega)]
                exact h1 j hj
              · rw [hI1]
                by_cases hjk : j = k
                · subst hjk
                  rw [gu_s]
                  simp only [gSel]
                  repeat' split
                  all_goals first | rfl | omega
                · rw [gu_n (by omega)]
                  exact h2 j (by omega)
              · rw [hI1, gu_other p2]
                exact hI p p1 p2
              · rw [hI1, gu_n (by omega)]
                exact hq q q1
            · refine gg_iload dX10_feed_120 6 rfl ?_
              refine gg_goto (tgt := 127) dX10_feed_122 (by decide) ?_
              refine gg_iastj (t + k) dX10_feed_127 sh_189 pl_189 (by decide) (by omega) (by omega) ?_
              refine gg_memI (fun I1 hI1 => ?_)
              refine gg_iincv (ls' := [(7, .int (iv ((k + 1 : Nat) : Int))), (0, .ref (gad (gSS ad) 145)), (1, .int (iv (n : Int))), (2, .int (iv a)), (3, .int (iv b)), (4, .int (iv c)), (5, .int (iv e1)), (6, .int (iv f))]) dX10_feed_128 0 rfl (by omega) (by decide) rfl ?_
              refine gg_goto (tgt := 67) dX10_feed_131 (by decide) ?_
              refine ih (k + 1) I1 (by omega) (by omega) ?_ (fun j hj => ?_) (fun j hj => ?_) (fun p p1 p2 => ?_) (fun q q1 => ?_)
              · rw [hI1, gu_other (by omega)]
                exact hs
              · rw [hI1, gu_n (by omega)]
                exact h1 j hj
              · rw [hI1]
                by_cases hjk : j = k
                · subst hjk
                  rw [gu_s]
                  simp only [gSel]
                  repeat' split
                  all_goals first | rfl | omega
                · rw [gu_n (by omega)]
                  exact h2 j (by omega)
              · rw [hI1, gu_other p2]
                exact hI p p1 p2
              · rw [hI1, gu_n (by omega)]
                exact hq q q1
          · refine gg_iload dX10_feed_109 5 rfl ?_
            refine gg_goto (tgt := 127) dX10_feed_111 (by decide) ?_
            refine gg_iastj (t + k) dX10_feed_127 sh_189 pl_189 (by decide) (by omega) (by omega) ?_
            refine gg_memI (fun I1 hI1 => ?_)
            refine gg_iincv (ls' := [(7, .int (iv ((k + 1 : Nat) : Int))), (0, .ref (gad (gSS ad) 145)), (1, .int (iv (n : Int))), (2, .int (iv a)), (3, .int (iv b)), (4, .int (iv c)), (5, .int (iv e1)), (6, .int (iv f))]) dX10_feed_128 0 rfl (by omega) (by decide) rfl ?_
            refine gg_goto (tgt := 67) dX10_feed_131 (by decide) ?_
            refine ih (k + 1) I1 (by omega) (by omega) ?_ (fun j hj => ?_) (fun j hj => ?_) (fun p p1 p2 => ?_) (fun q q1 => ?_)
            · rw [hI1, gu_other (by omega)]
              exact hs
            · rw [hI1, gu_n (by omega)]
              exact h1 j hj
            · rw [hI1]
              by_cases hjk : j = k
              · subst hjk
                rw [gu_s]
                simp only [gSel]
                repeat' split
                all_goals first | rfl | omega
              · rw [gu_n (by omega)]
                exact h2 j (by omega)
            · rw [hI1, gu_other p2]
              exact hI p p1 p2
            · rw [hI1, gu_n (by omega)]
              exact hq q q1
        · refine gg_iload_n dX10_feed_99 4 rfl ?_
          refine gg_goto (tgt := 127) dX10_feed_100 (by decide) ?_
          refine gg_iastj (t + k) dX10_feed_127 sh_189 pl_189 (by decide) (by omega) (by omega) ?_
          refine gg_memI (fun I1 hI1 => ?_)
          refine gg_iincv (ls' := [(7, .int (iv ((k + 1 : Nat) : Int))), (0, .ref (gad (gSS ad) 145)), (1, .int (iv (n : Int))), (2, .int (iv a)), (3, .int (iv b)), (4, .int (iv c)), (5, .int (iv e1)), (6, .int (iv f))]) dX10_feed_128 0 rfl (by omega) (by decide) rfl ?_
          refine gg_goto (tgt := 67) dX10_feed_131 (by decide) ?_
          refine ih (k + 1) I1 (by omega) (by omega) ?_ (fun j hj => ?_) (fun j hj => ?_) (fun p p1 p2 => ?_) (fun q q1 => ?_)
          · rw [hI1, gu_other (by omega)]
            exact hs
          · rw [hI1, gu_n (by omega)]
            exact h1 j hj
          · rw [hI1]
            by_cases hjk : j = k
            · subst hjk
              rw [gu_s]
              simp only [gSel]
              repeat' split
              all_goals first | rfl | omega
            · rw [gu_n (by omega)]
              exact h2 j (by omega)
          · rw [hI1, gu_other p2]
            exact hI p p1 p2
          · rw [hI1, gu_n (by omega)]
            exact hq q q1
      · refine gg_iload_n dX10_feed_89 3 rfl ?_
        refine gg_goto (tgt := 127) dX10_feed_90 (by decide) ?_
        refine gg_iastj (t + k) dX10_feed_127 sh_189 pl_189 (by decide) (by omega) (by omega) ?_
        refine gg_memI (fun I1 hI1 => ?_)
        refine gg_iincv (ls' := [(7, .int (iv ((k + 1 : Nat) : Int))), (0, .ref (gad (gSS ad) 145)), (1, .int (iv (n : Int))), (2, .int (iv a)), (3, .int (iv b)), (4, .int (iv c)), (5, .int (iv e1)), (6, .int (iv f))]) dX10_feed_128 0 rfl (by omega) (by decide) rfl ?_
        refine gg_goto (tgt := 67) dX10_feed_131 (by decide) ?_
        refine ih (k + 1) I1 (by omega) (by omega) ?_ (fun j hj => ?_) (fun j hj => ?_) (fun p p1 p2 => ?_) (fun q q1 => ?_)
        · rw [hI1, gu_other (by omega)]
          exact hs
        · rw [hI1, gu_n (by omega)]
          exact h1 j hj
        · rw [hI1]
          by_cases hjk : j = k
          · subst hjk
            rw [gu_s]
            simp only [gSel]
            repeat' split
            all_goals first | rfl | omega
          · rw [gu_n (by omega)]
            exact h2 j (by omega)
        · rw [hI1, gu_other p2]
          exact hI p p1 p2
        · rw [hI1, gu_n (by omega)]
          exact hq q q1

set_option maxRecDepth 10000 in
theorem c_X10_feed {l : Launch} {Γ : gC} {ad : Nat → Nat} {I : Nat → Nat → Int} {J : Nat → Nat → Int64} {d : Nat} {n t : Nat} {a b c e1 f : Int} (hn : 1 ≤ n ∧ n ≤ 5) (ht : I 145 10 = (t : Int)) (htl : t ≤ 120) (ha : 0 ≤ a ∧ a ≤ 255) (hb : 0 ≤ b ∧ b ≤ 255) (hc : 0 ≤ c ∧ c ≤ 255) (he : 0 ≤ e1 ∧ e1 ≤ 255) (hf : 0 ≤ f ∧ f ≤ 255) (hd : 3 ≤ d) : gKi l Γ gm_X10_feed d [.ref (gad (gSS ad) 145), .int (iv (n : Int)), .int (iv a), .int (iv b), .int (iv c), .int (iv e1), .int (iv f)] (gSS ad, I, J) (fun e μ => (¬ (t + n ≤ 120) ∧ μ = (gSS ad, I, J) ∧ e = -4) ∨ (t + n ≤ 120 ∧ ∃ I', μ = (gSS ad, I', J) ∧ I' 145 10 = (t : Int) + n ∧ (∀ j, j < t → I' 189 j = I 189 j) ∧ (∀ j, j < n → I' 189 (t + j) = gSel a b c e1 f j) ∧ (∀ p, p ≠ 145 → p ≠ 189 → I' p = I p) ∧ (∀ q, q ≠ 10 → I' 145 q = I 145 q) ∧ e = (t : Int) + n)) := by
  refine gKi_of gk_X10_feed.1 (Nat.le_of_ble_eq_true rfl) ?_
  show gG l Γ gm_X10_feed (d, 0, 0, 0, 0) 0 [(0, .ref (gad (gSS ad) 145)), (1, .int (iv (n : Int))), (2, .int (iv a)), (3, .int (iv b)), (4, .int (iv c)), (5, .int (iv e1)), (6, .int (iv f))] [] _ _
  refine gg_iload_n dX10_feed_0 1 rfl ?_
  refine gg_iconst dX10_feed_1 ?_
  refine gg_iconst dX10_feed_2 ?_
  refine gg_callSi (own := RX10) (yt := gm_X10_in) rfl gl_RX10_84 gk_X10_in gr_X10_in dX10_feed_3 (c_X10_in (d := d - 1) (by omega)) rfl rfl (Nat.le_of_ble_eq_true rfl) (by show _ ≤ d; omega) ⟨Nat.le_refl _, Nat.le_refl _⟩ (fun e1 μ' hc => ?_)
  obtain ⟨rfl, ⟨rfl, hb2⟩ | ⟨rfl, hb2⟩⟩ := hc
  rotate_left
  · omega
  refine gg_if_eq_f (tgt := 47) dX10_feed_6 (by decide) (by decide) (by decide) ?_
  refine gg_iload_n dX10_feed_9 2 rfl ?_
  refine gg_callSi (own := RX10) (yt := gm_X10_isByte) rfl gl_RX10_113 gk_X10_isByte gr_X10_isByte dX10_feed_10 (c_X10_isByte (d := d - 1) (by omega) (by omega)) rfl rfl (Nat.le_of_ble_eq_true rfl) (by show _ ≤ d; omega) ⟨Nat.le_refl _, Nat.le_refl _⟩ (fun e3 μ' hc => ?_)
  obtain ⟨rfl, ⟨rfl, hb4⟩ | ⟨rfl, hb4⟩⟩ := hc
  rotate_left
  · omega
  refine gg_if_eq_f (tgt := 47) dX10_feed_13 (by decide) (by decide) (by decide) ?_
  refine gg_iload_n dX10_feed_16 3 rfl ?_
  refine gg_callSi (own := RX10) (yt := gm_X10_isByte) rfl gl_RX10_113 gk_X10_isByte gr_X10_isByte dX10_feed_17 (c_X10_isByte (d := d - 1) (by omega) (by omega)) rfl rfl (Nat.le_of_ble_eq_true rfl) (by show _ ≤ d; omega) ⟨Nat.le_refl _, Nat.le_refl _⟩ (fun e5 μ' hc => ?_)
  obtain ⟨rfl, ⟨rfl, hb6⟩ | ⟨rfl, hb6⟩⟩ := hc
  rotate_left
  · omega
  refine gg_if_eq_f (tgt := 47) dX10_feed_20 (by decide) (by decide) (by decide) ?_
  refine gg_iload dX10_feed_23 4 rfl ?_
  refine gg_callSi (own := RX10) (yt := gm_X10_isByte) rfl gl_RX10_113 gk_X10_isByte gr_X10_isByte dX10_feed_25 (c_X10_isByte (d := d - 1) (by omega) (by omega)) rfl rfl (Nat.le_of_ble_eq_true rfl) (by show _ ≤ d; omega) ⟨Nat.le_refl _, Nat.le_refl _⟩ (fun e7 μ' hc => ?_)
  obtain ⟨rfl, ⟨rfl, hb8⟩ | ⟨rfl, hb8⟩⟩ := hc
  rotate_left
  · omega
  refine gg_if_eq_f (tgt := 47) dX10_feed_28 (by decide) (by decide) (by decide) ?_
  refine gg_iload dX10_feed_31 5 rfl ?_
  refine gg_callSi (own := RX10) (yt := gm_X10_isByte) rfl gl_RX10_113 gk_X10_isByte gr_X10_isByte dX10_feed_33 (c_X10_isByte (d := d - 1) (by omega) (by omega)) rfl rfl (Nat.le_of_ble_eq_true rfl) (by show _ ≤ d; omega) ⟨Nat.le_refl _, Nat.le_refl _⟩ (fun e9 μ' hc => ?_)
  obtain ⟨rfl, ⟨rfl, hb10⟩ | ⟨rfl, hb10⟩⟩ := hc
  rotate_left
  · omega
  refine gg_if_eq_f (tgt := 47) dX10_feed_36 (by decide) (by decide) (by decide) ?_
  refine gg_iload dX10_feed_39 6 rfl ?_
  refine gg_callSi (own := RX10) (yt := gm_X10_isByte) rfl gl_RX10_113 gk_X10_isByte gr_X10_isByte dX10_feed_41 (c_X10_isByte (d := d - 1) (by omega) (by omega)) rfl rfl (Nat.le_of_ble_eq_true rfl) (by show _ ≤ d; omega) ⟨Nat.le_refl _, Nat.le_refl _⟩ (fun e11 μ' hc => ?_)
  obtain ⟨rfl, ⟨rfl, hb12⟩ | ⟨rfl, hb12⟩⟩ := hc
  rotate_left
  · omega
  refine gg_if_ne_t (tgt := 50) dX10_feed_44 (by decide) (by decide) (by decide) ?_
  refine gg_aload_n dX10_feed_50 0 rfl ?_
  refine gg_getI rfl gf_RX10_117 dX10_feed_51 sh_145 pl_145 (by decide) (by decide) ?_
  refine gg_toI (b := (t : Int)) ht ?_
  refine gg_iload_n dX10_feed_54 1 rfl ?_
  refine gg_iadd dX10_feed_55 ?_
  refine gg_bipush dX10_feed_56 (by decide) ?_
  refine gg_icmp_le (tgt := 64) dX10_feed_58 (by decide) (by omega) (fun hx => ?_) (fun hx => ?_)
  · refine gg_iconst dX10_feed_64 ?_
    refine gg_istore (ls' := [(7, .int (iv 0)), (0, .ref (gad (gSS ad) 145)), (1, .int (iv (n : Int))), (2, .int (iv a)), (3, .int (iv b)), (4, .int (iv c)), (5, .int (iv e1)), (6, .int (iv f))]) dX10_feed_65 (by decide) rfl ?_
    refine gg_sub [0, 1, 2, 3, 4, 5, 6, 7] rfl ?_
    refine gG_post (w_X10_feed (t := t) (n := n) (by omega) (by omega) (by omega) (n + 1) 0 I (by omega) (by omega) ht (fun j hj => rfl) (fun j hj => absurd hj (Nat.not_lt_zero _)) (fun p p1 p2 => rfl) (fun q q1 => rfl)) (fun r μ h => ?_)
    obtain ⟨e, rfl, h⟩ := h
    exact ⟨e, rfl, Or.inr ⟨by omega, h⟩⟩
  · refine gg_bipush dX10_feed_61 (by decide) ?_
    refine gg_ireti dX10_feed_63 rfl ⟨rfl, rfl⟩ ?_
    exact Or.inl ⟨by omega, rfl, rfl⟩

set_option maxRecDepth 10000 in
theorem c_X10_feed_out {l : Launch} {Γ : gC} {ad : Nat → Nat} {I : Nat → Nat → Int} {J : Nat → Nat → Int64} {d : Nat} {n a b c e1 f : Int} (hn : -2147483648 ≤ n ∧ n ≤ 2147483647) (ha : -2147483648 ≤ a ∧ a ≤ 2147483647) (hb : -2147483648 ≤ b ∧ b ≤ 2147483647) (hc : -2147483648 ≤ c ∧ c ≤ 2147483647) (he1 : -2147483648 ≤ e1 ∧ e1 ≤ 2147483647) (hf : -2147483648 ≤ f ∧ f ≤ 2147483647) (ho : ¬ (1 ≤ n ∧ n ≤ 5 ∧ 0 ≤ a ∧ a ≤ 255 ∧ 0 ≤ b ∧ b ≤ 255 ∧ 0 ≤ c ∧ c ≤ 255 ∧ 0 ≤ e1 ∧ e1 ≤ 255 ∧ 0 ≤ f ∧ f ≤ 255)) (hd : 3 ≤ d) : gKi l Γ gm_X10_feed d [.ref (gad (gSS ad) 145), .int (iv n), .int (iv a), .int (iv b), .int (iv c), .int (iv e1), .int (iv f)] (gSS ad, I, J) (fun e μ => μ = (gSS ad, I, J) ∧ e = -2) := by
  refine gKi_of gk_X10_feed.1 (Nat.le_of_ble_eq_true rfl) ?_
  show gG l Γ gm_X10_feed (d, 0, 0, 0, 0) 0 [(0, .ref (gad (gSS ad) 145)), (1, .int (iv n)), (2, .int (iv a)), (3, .int (iv b)), (4, .int (iv c)), (5, .int (iv e1)), (6, .int (iv f))] [] _ _
  refine gg_iload_n dX10_feed_0 1 rfl ?_
  refine gg_iconst dX10_feed_1 ?_
  refine gg_iconst dX10_feed_2 ?_
  refine gg_callSi (own := RX10) (yt := gm_X10_in) rfl gl_RX10_84 gk_X10_in gr_X10_in dX10_feed_3 (c_X10_in (d := d - 1) (by omega)) rfl rfl (Nat.le_of_ble_eq_true rfl) (by show _ ≤ d; omega) ⟨Nat.le_refl _, Nat.le_refl _⟩ (fun e1 μ' hc => ?_)
  obtain ⟨rfl, ⟨rfl, hb2⟩ | ⟨rfl, hb2⟩⟩ := hc
  · refine gg_if_eq_f (tgt := 47) dX10_feed_6 (by decide) (by decide) (by decide) ?_
    refine gg_iload_n dX10_feed_9 2 rfl ?_
    refine gg_callSi (own := RX10) (yt := gm_X10_isByte) rfl gl_RX10_113 gk_X10_isByte gr_X10_isByte dX10_feed_10 (c_X10_isByte (d := d - 1) (by omega) (by omega)) rfl rfl (Nat.le_of_ble_eq_true rfl) (by show _ ≤ d; omega) ⟨Nat.le_refl _, Nat.le_refl _⟩ (fun e3 μ' hc => ?_)
    obtain ⟨rfl, ⟨rfl, hb4⟩ | ⟨rfl, hb4⟩⟩ := hc
    · refine gg_if_eq_f (tgt := 47) dX10_feed_13 (by decide) (by decide) (by decide) ?_
      refine gg_iload_n dX10_feed_16 3 rfl ?_
      refine gg_callSi (own := RX10) (yt := gm_X10_isByte) rfl gl_RX10_113 gk_X10_isByte gr_X10_isByte dX10_feed_17 (c_X10_isByte (d := d - 1) (by omega) (by omega)) rfl rfl (Nat.le_of_ble_eq_true rfl) (by show _ ≤ d; omega) ⟨Nat.le_refl _, Nat.le_refl _⟩ (fun e5 μ' hc => ?_)
      obtain ⟨rfl, ⟨rfl, hb6⟩ | ⟨rfl, hb6⟩⟩ := hc
      · refine gg_if_eq_f (tgt := 47) dX10_feed_20 (by decide) (by decide) (by decide) ?_
        refine gg_iload dX10_feed_23 4 rfl ?_
        refine gg_callSi (own := RX10) (yt := gm_X10_isByte) rfl gl_RX10_113 gk_X10_isByte gr_X10_isByte dX10_feed_25 (c_X10_isByte (d := d - 1) (by omega) (by omega)) rfl rfl (Nat.le_of_ble_eq_true rfl) (by show _ ≤ d; omega) ⟨Nat.le_refl _, Nat.le_refl _⟩ (fun e7 μ' hc => ?_)
        obtain ⟨rfl, ⟨rfl, hb8⟩ | ⟨rfl, hb8⟩⟩ := hc
        · refine gg_if_eq_f (tgt := 47) dX10_feed_28 (by decide) (by decide) (by decide) ?_
          refine gg_iload dX10_feed_31 5 rfl ?_
          refine gg_callSi (own := RX10) (yt := gm_X10_isByte) rfl gl_RX10_113 gk_X10_isByte gr_X10_isByte dX10_feed_33 (c_X10_isByte (d := d - 1) (by omega) (by omega)) rfl rfl (Nat.le_of_ble_eq_true rfl) (by show _ ≤ d; omega) ⟨Nat.le_refl _, Nat.le_refl _⟩ (fun e9 μ' hc => ?_)
          obtain ⟨rfl, ⟨rfl, hb10⟩ | ⟨rfl, hb10⟩⟩ := hc
          · refine gg_if_eq_f (tgt := 47) dX10_feed_36 (by decide) (by decide) (by decide) ?_
            refine gg_iload dX10_feed_39 6 rfl ?_
            refine gg_callSi (own := RX10) (yt := gm_X10_isByte) rfl gl_RX10_113 gk_X10_isByte gr_X10_isByte dX10_feed_41 (c_X10_isByte (d := d - 1) (by omega) (by omega)) rfl rfl (Nat.le_of_ble_eq_true rfl) (by show _ ≤ d; omega) ⟨Nat.le_refl _, Nat.le_refl _⟩ (fun e11 μ' hc => ?_)
            obtain ⟨rfl, ⟨rfl, hb12⟩ | ⟨rfl, hb12⟩⟩ := hc
            · refine gg_if_ne_t (tgt := 50) dX10_feed_44 (by decide) (by decide) (by decide) ?_
              exfalso
              omega
            · refine gg_if_ne_f (tgt := 50) dX10_feed_44 (by decide) (by decide) (by decide) ?_
              refine gg_bipush dX10_feed_47 (by decide) ?_
              refine gg_ireti dX10_feed_49 rfl ⟨rfl, rfl⟩ ?_
              exact ⟨rfl, rfl⟩
          · refine gg_if_eq_t (tgt := 47) dX10_feed_36 (by decide) (by decide) (by decide) ?_
            refine gg_bipush dX10_feed_47 (by decide) ?_
            refine gg_ireti dX10_feed_49 rfl ⟨rfl, rfl⟩ ?_
            exact ⟨rfl, rfl⟩
        · refine gg_if_eq_t (tgt := 47) dX10_feed_28 (by decide) (by decide) (by decide) ?_
          refine gg_bipush dX10_feed_47 (by decide) ?_
          refine gg_ireti dX10_feed_49 rfl ⟨rfl, rfl⟩ ?_
          exact ⟨rfl, rfl⟩
      · refine gg_if_eq_t (tgt := 47) dX10_feed_20 (by decide) (by decide) (by decide) ?_
        refine gg_bipush dX10_feed_47 (by decide) ?_
        refine gg_ireti dX10_feed_49 rfl ⟨rfl, rfl⟩ ?_
        exact ⟨rfl, rfl⟩
    · refine gg_if_eq_t (tgt := 47) dX10_feed_13 (by decide) (by decide) (by decide) ?_
      refine gg_bipush dX10_feed_47 (by decide) ?_
      refine gg_ireti dX10_feed_49 rfl ⟨rfl, rfl⟩ ?_
      exact ⟨rfl, rfl⟩
  · refine gg_if_eq_t (tgt := 47) dX10_feed_6 (by decide) (by decide) (by decide) ?_
    refine gg_bipush dX10_feed_47 (by decide) ?_
    refine gg_ireti dX10_feed_49 rfl ⟨rfl, rfl⟩ ?_
    exact ⟨rfl, rfl⟩

