/-! measures -/
def gJn (q : Nat) (a b : Int) : Int := if q = 1 ∨ q = 3 then max a b else a + b
/-- what the parts of a node of kind k give together -/
def gDj (q k : Nat) (a b c : Int) : Int := if q = 4 ∧ k = 6 then gJn q a (max b c) else if q = 5 ∧ k = 7 then 2 * a else if gPar k = 0 then 0 else if gPar k = 1 then gJn q 0 a else if gPar k = 2 then gJn q (gJn q 0 a) b else gJn q (gJn q (gJn q 0 a) b) c
/-- what it gives itself -/
def gDo (q k : Nat) (x : Int) : Int := if q = 2 ∨ q = 4 then (if k = 5 then x else if k = 4 ∨ k = 7 then 3 else 1) else if q = 3 ∧ k = 2 then 0 else if q = 5 ∧ k = 7 then 2 else 1
def gdF (q : Nat) (K : Nat → Nat) (N : Nat → Int64) (Z : Nat → Nat) (D : Nat → Int) (j : Nat) : Int := min 9999 (gDj q (K j) (D (j + 1)) (D (gPt Z j 1)) (D (gPt Z j 2)) + gDo q (K j) (gl2i (N j)))
theorem gdF_loc {q : Nat} {K : Nat → Nat} {N : Nat → Int64} {Z : Nat → Nat} {D D' : Nat → Int} {j : Nat} (h : ∀ t, j < t → D t = D' t) : gdF q K N Z D j = gdF q K N Z D' j := by
  unfold gdF
  rw [h (j + 1) (by omega), h _ (gPt_gt Z j 1), h _ (gPt_gt Z j 2)]
theorem gD_ex (n q : Nat) (K : Nat → Nat) (N : Nat → Int64) (Z : Nat → Nat) : ∃ D : Nat → Int, ∀ j, j < n → D j = gdF q K N Z D j := gfix_ex 0 n (gdF q K N Z) (fun _ _ _ h => gdF_loc h)
noncomputable def gDc (n q : Nat) (K : Nat → Nat) (N : Nat → Int64) (Z : Nat → Nat) : Nat → Int := Classical.choose (gD_ex n q K N Z)
theorem gDc_is (n q : Nat) (K : Nat → Nat) (N : Nat → Int64) (Z : Nat → Nat) : ∀ j, j < n → gDc n q K N Z j = gdF q K N Z (gDc n q K N Z) j := Classical.choose_spec (gD_ex n q K N Z)
theorem gDo_rng {n : Nat} {K : Nat → Nat} {N : Nat → Int64} {Z : Nat → Nat} (hW : gWf n K N Z) {j : Nat} (hj : j < n) (q : Nat) : 0 ≤ gDo q (K j) (gl2i (N j)) ∧ gDo q (K j) (gl2i (N j)) ≤ 9 := by
  have h5 : K j = 5 → 0 ≤ gl2i (N j) ∧ gl2i (N j) ≤ 9 := by
    intro h
    obtain ⟨m, hm, e⟩ := (hW.2.2 j hj).2.2.2.2.2.2.2.2.2.2.2.1 h
    rw [e, gl2i_nat (by omega)]
    omega
  unfold gDo
  repeat' split
  all_goals first | omega | exact h5 (by assumption)
theorem gD_rng {n q : Nat} {K : Nat → Nat} {N : Nat → Int64} {Z : Nat → Nat} (hW : gWf n K N Z) : ∀ j, j < n → 0 ≤ gDc n q K N Z j ∧ gDc n q K N Z j ≤ 9999 := by
  have key : ∀ k, ∀ j, n - k ≤ j → j < n → 0 ≤ gDc n q K N Z j ∧ gDc n q K N Z j ≤ 9999 := by
    intro k
    induction k with
    | zero => intro j h1 h2; omega
    | succ k ih =>
      intro j h1 h2
      by_cases hj : n - k ≤ j
      · exact ih j hj h2
      · rw [gDc_is n q K N Z j h2]
        have ho := gDo_rng hW h2 q
        obtain ⟨hK, hZ1, hZ2, he0, he1, he2, he3, hc1, hc2, hc3, -⟩ := hW.2.2 j h2
        have q1 : 1 ≤ gPar (K j) → 0 ≤ gDc n q K N Z (j + 1) ∧ gDc n q K N Z (j + 1) ≤ 9999 := fun g => ih _ (by omega) (hc1 g)
        have q2 : 2 ≤ gPar (K j) → 0 ≤ gDc n q K N Z (gPt Z j 1) ∧ gDc n q K N Z (gPt Z j 1) ≤ 9999 := fun g => ih _ (by have := gPt_gt Z j 1; omega) (hc2 g)
        have q3 : 3 ≤ gPar (K j) → 0 ≤ gDc n q K N Z (gPt Z j 2) ∧ gDc n q K N Z (gPt Z j 2) ≤ 9999 := fun g => ih _ (by have := gPt_gt Z j 2; omega) (hc3 g)
        clear ih hc1 hc2 hc3 he0 he1 he2 he3 hW
        unfold gdF
        generalize gDo q (K j) (gl2i (N j)) = x at ho ⊢
        generalize gDc n q K N Z (j + 1) = a at *
        generalize gDc n q K N Z (gPt Z j 1) = b at *
        generalize gDc n q K N Z (gPt Z j 2) = c at *
        obtain hk | hk | hk | hk | hk | hk | hk | hk : K j = 0 ∨ K j = 1 ∨ K j = 2 ∨ K j = 3 ∨ K j = 4 ∨ K j = 5 ∨ K j = 6 ∨ K j = 7 := by omega
        all_goals rw [hk] at q1 q2 q3 ⊢
        all_goals simp [gPar] at q1 q2 q3
        all_goals simp only [gDj, gPar, gJn]
        all_goals repeat' split
        all_goals omega
  exact fun j hj => key n j (by omega) hj
set_option maxRecDepth 10000 in
theorem c_X2_join {l : Launch} {Γ : gC} {ad : Nat → Nat} {I : Nat → Nat → Int} {J : Nat → Nat → Int64} {d : Nat} {q : Nat} {a b : Int} (hq : q ≤ 5) (ha : -2147483648 ≤ a ∧ a ≤ 2147483647) (hb : -2147483648 ≤ b ∧ b ≤ 2147483647) (hd : 1 ≤ d) : gKi l Γ gm_X2_join d [.int (iv (q : Int)), .int (iv a), .int (iv b)] (gSS ad, I, J) (fun e μ => μ = (gSS ad, I, J) ∧ e = gJn q a b) := by
  refine gKi_of gk_X2_join.1 (Nat.le_of_ble_eq_true rfl) ?_
  show gG l Γ gm_X2_join (d, 0, 0, 0, 0) 0 [(0, .int (iv (q : Int))), (1, .int (iv a)), (2, .int (iv b))] [] _ _
  refine gg_iload_n dX2_join_0 0 rfl ?_
  refine gg_iconst dX2_join_1 ?_
  refine gg_icmp_eq (tgt := 10) dX2_join_2 (by decide) (by omega) (fun hb1 => ?_) (fun hb1 => ?_)
  · refine gg_iload_n dX2_join_10 1 rfl ?_
    refine gg_iload_n dX2_join_11 2 rfl ?_
    refine gg_mmax rfl gl_RX2_38 dX2_join_12 (by omega) (Nat.le_of_ble_eq_true rfl) (by omega) ⟨Nat.le_refl _, Nat.le_refl _⟩ ?_
    refine gg_goto (tgt := 21) dX2_join_15 (by decide) ?_
    refine gg_ireti dX2_join_21 rfl ⟨rfl, rfl⟩ ?_
    refine ⟨rfl, ?_⟩
    unfold gJn
    first | rw [if_pos (show q = 1 ∨ q = 3 by omega)] | rw [if_neg (show ¬ (q = 1 ∨ q = 3) by omega)]
  · refine gg_iload_n dX2_join_5 0 rfl ?_
    refine gg_iconst dX2_join_6 ?_
    refine gg_icmp_ne (tgt := 18) dX2_join_7 (by decide) (by omega) (fun hb2 => ?_) (fun hb2 => ?_)
    · refine gg_iload_n dX2_join_18 1 rfl ?_
      refine gg_iload_n dX2_join_19 2 rfl ?_
      refine gg_iadd dX2_join_20 ?_
      refine gg_ireti dX2_join_21 rfl ⟨rfl, rfl⟩ ?_
      refine ⟨rfl, ?_⟩
      unfold gJn
      first | rw [if_pos (show q = 1 ∨ q = 3 by omega)] | rw [if_neg (show ¬ (q = 1 ∨ q = 3) by omega)]
    · refine gg_iload_n dX2_join_10 1 rfl ?_
      refine gg_iload_n dX2_join_11 2 rfl ?_
      refine gg_mmax rfl gl_RX2_38 dX2_join_12 (by omega) (Nat.le_of_ble_eq_true rfl) (by omega) ⟨Nat.le_refl _, Nat.le_refl _⟩ ?_
      refine gg_goto (tgt := 21) dX2_join_15 (by decide) ?_
      refine gg_ireti dX2_join_21 rfl ⟨rfl, rfl⟩ ?_
      refine ⟨rfl, ?_⟩
      unfold gJn
      first | rw [if_pos (show q = 1 ∨ q = 3 by omega)] | rw [if_neg (show ¬ (q = 1 ∨ q = 3) by omega)]

set_option maxRecDepth 10000 in
theorem c_X10_join {l : Launch} {Γ : gC} {ad : Nat → Nat} {I : Nat → Nat → Int} {J : Nat → Nat → Int64} {d : Nat} {q : Nat} {a b : Int} (hq : q ≤ 5) (ha : -2147483648 ≤ a ∧ a ≤ 2147483647) (hb : -2147483648 ≤ b ∧ b ≤ 2147483647) (hd : 1 ≤ d) : gKi l Γ gm_X10_join d [.int (iv (q : Int)), .int (iv a), .int (iv b)] (gSS ad, I, J) (fun e μ => μ = (gSS ad, I, J) ∧ e = gJn q a b) := by
  refine gKi_of gk_X10_join.1 (Nat.le_of_ble_eq_true rfl) ?_
  show gG l Γ gm_X10_join (d, 0, 0, 0, 0) 0 [(0, .int (iv (q : Int))), (1, .int (iv a)), (2, .int (iv b))] [] _ _
  refine gg_iload_n dX10_join_0 0 rfl ?_
  refine gg_iconst dX10_join_1 ?_
  refine gg_icmp_eq (tgt := 10) dX10_join_2 (by decide) (by omega) (fun hb1 => ?_) (fun hb1 => ?_)
  · refine gg_iload_n dX10_join_10 1 rfl ?_
    refine gg_iload_n dX10_join_11 2 rfl ?_
    refine gg_mmax rfl gl_RX10_284 dX10_join_12 (by omega) (Nat.le_of_ble_eq_true rfl) (by omega) ⟨Nat.le_refl _, Nat.le_refl _⟩ ?_
    refine gg_goto (tgt := 21) dX10_join_15 (by decide) ?_
    refine gg_ireti dX10_join_21 rfl ⟨rfl, rfl⟩ ?_
    refine ⟨rfl, ?_⟩
    unfold gJn
    first | rw [if_pos (show q = 1 ∨ q = 3 by omega)] | rw [if_neg (show ¬ (q = 1 ∨ q = 3) by omega)]
  · refine gg_iload_n dX10_join_5 0 rfl ?_
    refine gg_iconst dX10_join_6 ?_
    refine gg_icmp_ne (tgt := 18) dX10_join_7 (by decide) (by omega) (fun hb2 => ?_) (fun hb2 => ?_)
    · refine gg_iload_n dX10_join_18 1 rfl ?_
      refine gg_iload_n dX10_join_19 2 rfl ?_
      refine gg_iadd dX10_join_20 ?_
      refine gg_ireti dX10_join_21 rfl ⟨rfl, rfl⟩ ?_
      refine ⟨rfl, ?_⟩
      unfold gJn
      first | rw [if_pos (show q = 1 ∨ q = 3 by omega)] | rw [if_neg (show ¬ (q = 1 ∨ q = 3) by omega)]
    · refine gg_iload_n dX10_join_10 1 rfl ?_
      refine gg_iload_n dX10_join_11 2 rfl ?_
      refine gg_mmax rfl gl_RX10_284 dX10_join_12 (by omega) (Nat.le_of_ble_eq_true rfl) (by omega) ⟨Nat.le_refl _, Nat.le_refl _⟩ ?_
      refine gg_goto (tgt := 21) dX10_join_15 (by decide) ?_
      refine gg_ireti dX10_join_21 rfl ⟨rfl, rfl⟩ ?_
      refine ⟨rfl, ?_⟩
      unfold gJn
      first | rw [if_pos (show q = 1 ∨ q = 3 by omega)] | rw [if_neg (show ¬ (q = 1 ∨ q = 3) by omega)]

set_option maxRecDepth 10000 in
theorem c_X10_own {l : Launch} {Γ : gC} {ad : Nat → Nat} {I : Nat → Nat → Int} {J : Nat → Nat → Int64} {d : Nat} {q k : Nat} {x : Int} (hq : q ≤ 5) (hk : k < 8) : gKi l Γ gm_X10_own d [.int (iv (q : Int)), .int (iv (k : Int)), .int (iv x)] (gSS ad, I, J) (fun e μ => μ = (gSS ad, I, J) ∧ e = (if q = 5 ∧ k = 7 then 1 else gDo q k x)) := by
  refine gKi_of gk_X10_own.1 (Nat.le_of_ble_eq_true rfl) ?_
  show gG l Γ gm_X10_own (d, 0, 0, 0, 0) 0 [(0, .int (iv (q : Int))), (1, .int (iv (k : Int))), (2, .int (iv x))] [] _ _
  refine gg_iload_n dX10_own_0 0 rfl ?_
  refine gg_iconst dX10_own_1 ?_
  refine gg_icmp_ne (tgt := 12) dX10_own_2 (by decide) (by omega) (fun hb1 => ?_) (fun hb1 => ?_)
  · refine gg_iload_n dX10_own_12 0 rfl ?_
    refine gg_iconst dX10_own_13 ?_
    refine gg_icmp_eq (tgt := 24) dX10_own_14 (by decide) (by omega) (fun hb2 => ?_) (fun hb2 => ?_)
    · refine gg_iload_n dX10_own_24 1 rfl ?_
      refine gg_iconst dX10_own_25 ?_
      refine gg_icmp_eq (tgt := 35) dX10_own_26 (by decide) (by omega) (fun hb3 => ?_) (fun hb3 => ?_)
      · refine gg_iconst dX10_own_35 ?_
        refine gg_goto (tgt := 49) dX10_own_36 (by decide) ?_
        refine gg_ireti dX10_own_49 rfl ⟨rfl, rfl⟩ ?_
        refine ⟨rfl, ?_⟩
        unfold gDo
        repeat' split
        all_goals first | rfl | (exfalso; omega)
      · refine gg_iload_n dX10_own_29 1 rfl ?_
        refine gg_bipush dX10_own_30 (by decide) ?_
        refine gg_icmp_ne (tgt := 39) dX10_own_32 (by decide) (by omega) (fun hb4 => ?_) (fun hb4 => ?_)
        · refine gg_iload_n dX10_own_39 1 rfl ?_
          refine gg_iconst dX10_own_40 ?_
          refine gg_icmp_ne (tgt := 48) dX10_own_41 (by decide) (by omega) (fun hb5 => ?_) (fun hb5 => ?_)
          · refine gg_iconst dX10_own_48 ?_
            refine gg_ireti dX10_own_49 rfl ⟨rfl, rfl⟩ ?_
            refine ⟨rfl, ?_⟩
            unfold gDo
            repeat' split
            all_goals first | rfl | (exfalso; omega)
          · refine gg_iload_n dX10_own_44 2 rfl ?_
            refine gg_goto (tgt := 49) dX10_own_45 (by decide) ?_
            refine gg_ireti dX10_own_49 rfl ⟨rfl, rfl⟩ ?_
            refine ⟨rfl, ?_⟩
            unfold gDo
            repeat' split
            all_goals first | rfl | (exfalso; omega)
        · refine gg_iconst dX10_own_35 ?_
          refine gg_goto (tgt := 49) dX10_own_36 (by decide) ?_
          refine gg_ireti dX10_own_49 rfl ⟨rfl, rfl⟩ ?_
          refine ⟨rfl, ?_⟩
          unfold gDo
          repeat' split
          all_goals first | rfl | (exfalso; omega)
    · refine gg_iload_n dX10_own_17 0 rfl ?_
      refine gg_iconst dX10_own_18 ?_
      refine gg_icmp_eq (tgt := 24) dX10_own_19 (by decide) (by omega) (fun hb6 => ?_) (fun hb6 => ?_)
      · refine gg_iload_n dX10_own_24 1 rfl ?_
        refine gg_iconst dX10_own_25 ?_
        refine gg_icmp_eq (tgt := 35) dX10_own_26 (by decide) (by omega) (fun hb7 => ?_) (fun hb7 => ?_)
        · refine gg_iconst dX10_own_35 ?_
          refine gg_goto (tgt := 49) dX10_own_36 (by decide) ?_
          refine gg_ireti dX10_own_49 rfl ⟨rfl, rfl⟩ ?_
          refine ⟨rfl, ?_⟩
          unfold gDo
          repeat' split
          all_goals first | rfl | (exfalso; omega)
        · refine gg_iload_n dX10_own_29 1 rfl ?_
          refine gg_bipush dX10_own_30 (by decide) ?_
          refine gg_icmp_ne (tgt := 39) dX10_own_32 (by decide) (by omega) (fun hb8 => ?_) (fun hb8 => ?_)
          · refine gg_iload_n dX10_own_39 1 rfl ?_
            refine gg_iconst dX10_own_40 ?_
            refine gg_icmp_ne (tgt := 48) dX10_own_41 (by decide) (by omega) (fun hb9 => ?_) (fun hb9 => ?_)
            · refine gg_iconst dX10_own_48 ?_
              refine gg_ireti dX10_own_49 rfl ⟨rfl, rfl⟩ ?_
              refine ⟨rfl, ?_⟩
              unfold gDo
              repeat' split
              all_goals first | rfl | (exfalso; omega)
            · refine gg_iload_n dX10_own_44 2 rfl ?_
              refine gg_goto (tgt := 49) dX10_own_45 (by decide) ?_
              refine gg_ireti dX10_own_49 rfl ⟨rfl, rfl⟩ ?_
              refine ⟨rfl, ?_⟩
              unfold gDo
              repeat' split
              all_goals first | rfl | (exfalso; omega)
          · refine gg_iconst dX10_own_35 ?_
            refine gg_goto (tgt := 49) dX10_own_36 (by decide) ?_
            refine gg_ireti dX10_own_49 rfl ⟨rfl, rfl⟩ ?_
            refine ⟨rfl, ?_⟩
            unfold gDo
            repeat' split
            all_goals first | rfl | (exfalso; omega)
      · refine gg_iconst dX10_own_22 ?_
        refine gg_ireti dX10_own_23 rfl ⟨rfl, rfl⟩ ?_
        refine ⟨rfl, ?_⟩
        unfold gDo
        repeat' split
        all_goals first | rfl | (exfalso; omega)
  · refine gg_iload_n dX10_own_5 1 rfl ?_
    refine gg_iconst dX10_own_6 ?_
    refine gg_icmp_ne (tgt := 12) dX10_own_7 (by decide) (by omega) (fun hb10 => ?_) (fun hb10 => ?_)
    · refine gg_iload_n dX10_own_12 0 rfl ?_
      refine gg_iconst dX10_own_13 ?_
      refine gg_icmp_eq (tgt := 24) dX10_own_14 (by decide) (by omega) (fun hb11 => ?_) (fun hb11 => ?_)
      · refine gg_iload_n dX10_own_24 1 rfl ?_
        refine gg_iconst dX10_own_25 ?_
        refine gg_icmp_eq (tgt := 35) dX10_own_26 (by decide) (by omega) (fun hb12 => ?_) (fun hb12 => ?_)
        · refine gg_iconst dX10_own_35 ?_
          refine gg_goto (tgt := 49) dX10_own_36 (by decide) ?_
          refine gg_ireti dX10_own_49 rfl ⟨rfl, rfl⟩ ?_
          refine ⟨rfl, ?_⟩
          unfold gDo
          repeat' split
          all_goals first | rfl | (exfalso; omega)
        · refine gg_iload_n dX10_own_29 1 rfl ?_
          refine gg_bipush dX10_own_30 (by decide) ?_
          refine gg_icmp_ne (tgt := 39) dX10_own_32 (by decide) (by omega) (fun hb13 => ?_) (fun hb13 => ?_)
          · refine gg_iload_n dX10_own_39 1 rfl ?_
            refine gg_iconst dX10_own_40 ?_
            refine gg_icmp_ne (tgt := 48) dX10_own_41 (by decide) (by omega) (fun hb14 => ?_) (fun hb14 => ?_)
            · refine gg_iconst dX10_own_48 ?_
              refine gg_ireti dX10_own_49 rfl ⟨rfl, rfl⟩ ?_
              refine ⟨rfl, ?_⟩
              unfold gDo
              repeat' split
              all_goals first | rfl | (exfalso; omega)
            · refine gg_iload_n dX10_own_44 2 rfl ?_
              refine gg_goto (tgt := 49) dX10_own_45 (by decide) ?_
              refine gg_ireti dX10_own_49 rfl ⟨rfl, rfl⟩ ?_
              refine ⟨rfl, ?_⟩
              unfold gDo
              repeat' split
              all_goals first | rfl | (exfalso; omega)
          · refine gg_iconst dX10_own_35 ?_
            refine gg_goto (tgt := 49) dX10_own_36 (by decide) ?_
            refine gg_ireti dX10_own_49 rfl ⟨rfl, rfl⟩ ?_
            refine ⟨rfl, ?_⟩
            unfold gDo
            repeat' split
            all_goals first | rfl | (exfalso; omega)
      · refine gg_iload_n dX10_own_17 0 rfl ?_
        refine gg_iconst dX10_own_18 ?_
        refine gg_icmp_eq (tgt := 24) dX10_own_19 (by decide) (by omega) (fun hb15 => ?_) (fun hb15 => ?_)
        · refine gg_iload_n dX10_own_24 1 rfl ?_
          refine gg_iconst dX10_own_25 ?_
          refine gg_icmp_eq (tgt := 35) dX10_own_26 (by decide) (by omega) (fun hb16 => ?_) (fun hb16 => ?_)
          · refine gg_iconst dX10_own_35 ?_
            refine gg_goto (tgt := 49) dX10_own_36 (by decide) ?_
            refine gg_ireti dX10_own_49 rfl ⟨rfl, rfl⟩ ?_
            refine ⟨rfl, ?_⟩
            unfold gDo
            repeat' split
            all_goals first | rfl | (exfalso; omega)
          · refine gg_iload_n dX10_own_29 1 rfl ?_
            refine gg_bipush dX10_own_30 (by decide) ?_
            refine gg_icmp_ne (tgt := 39) dX10_own_32 (by decide) (by omega) (fun hb17 => ?_) (fun hb17 => ?_)
            · refine gg_iload_n dX10_own_39 1 rfl ?_
              refine gg_iconst dX10_own_40 ?_
              refine gg_icmp_ne (tgt := 48) dX10_own_41 (by decide) (by omega) (fun hb18 => ?_) (fun hb18 => ?_)
              · refine gg_iconst dX10_own_48 ?_
                refine gg_ireti dX10_own_49 rfl ⟨rfl, rfl⟩ ?_
                refine ⟨rfl, ?_⟩
                unfold gDo
                repeat' split
                all_goals first | rfl | (exfalso; omega)
              · refine gg_iload_n dX10_own_44 2 rfl ?_
                refine gg_goto (tgt := 49) dX10_own_45 (by decide) ?_
                refine gg_ireti dX10_own_49 rfl ⟨rfl, rfl⟩ ?_
                refine ⟨rfl, ?_⟩
                unfold gDo
                repeat' split
                all_goals first | rfl | (exfalso; omega)
            · refine gg_iconst dX10_own_35 ?_
              refine gg_goto (tgt := 49) dX10_own_36 (by decide) ?_
              refine gg_ireti dX10_own_49 rfl ⟨rfl, rfl⟩ ?_
              refine ⟨rfl, ?_⟩
              unfold gDo
              repeat' split
              all_goals first | rfl | (exfalso; omega)
        · refine gg_iconst dX10_own_22 ?_
          refine gg_ireti dX10_own_23 rfl ⟨rfl, rfl⟩ ?_
          refine ⟨rfl, ?_⟩
          unfold gDo
          repeat' split
          all_goals first | rfl | (exfalso; omega)
    · refine gg_iconst dX10_own_10 ?_
      refine gg_ireti dX10_own_11 rfl ⟨rfl, rfl⟩ ?_
      refine ⟨rfl, ?_⟩
      unfold gDo
      repeat' split
      all_goals first | rfl | (exfalso; omega)

set_option maxRecDepth 10000 in
theorem c_X2_own {l : Launch} {Γ : gC} {ad : Nat → Nat} {I : Nat → Nat → Int} {J : Nat → Nat → Int64} {d : Nat} {a n : Nat} {K : Nat → Nat} {N : Nat → Int64} {Z : Nat → Nat} (hF : gF a) (hA : gAt I J a n K N Z) (hW : gWf n K N Z) {q j : Nat} (hq : q ≤ 5) (hj : j < n) (hd : 2 ≤ d) : gKi l Γ gm_X2_own d [.ref (gad (gSS ad) a), .int (iv (j : Int)), .int (iv (q : Int))] (gSS ad, I, J) (fun e μ => μ = (gSS ad, I, J) ∧ e = gDo q (K j) (gl2i (N j))) := by
  refine gKi_of gk_X2_own.1 (Nat.le_of_ble_eq_true rfl) ?_
  show gG l Γ gm_X2_own (d, 0, 0, 0, 0) 0 [(0, .ref (gad (gSS ad) a)), (1, .int (iv (j : Int))), (2, .int (iv (q : Int)))] [] _ _
  obtain ⟨hK, hZ1, hZ2, he0, he1, he2, he3, hc1, hc2, hc3, hnm, hpw, hz⟩ := hW.2.2 j hj
  have hn := hW.1
  clear hnm hpw hz
  refine gg_aload_n dX2_own_0 0 rfl ?_
  refine gg_iload_n dX2_own_1 1 rfl ?_
  refine gg_callVi (own := RX2) (yt := gm_X1_kind) rfl gl_RX2_41 gk_X1_kind gr_X1_kind dX2_own_2 (c_X1_kind (d := d - 1) hF hA hW.1 (j := j) (by omega) (by omega)) (gFsh hF) (gFlt hF) (by decide) rfl rfl rfl (Nat.le_of_ble_eq_true rfl) (by show _ ≤ d; omega) ⟨Nat.le_refl _, Nat.le_refl _⟩ (fun e1 μ' hc => ?_)
  obtain ⟨rfl, rfl⟩ := hc
  refine gg_istore_n (ls' := [(3, .int (iv (K (j) : Int))), (0, .ref (gad (gSS ad) a)), (1, .int (iv (j : Int))), (2, .int (iv (q : Int)))]) dX2_own_5 rfl (by decide) rfl ?_
  refine gg_iload_n dX2_own_6 3 rfl ?_
  refine gg_iconst dX2_own_7 ?_
  refine gg_icmp_eq (tgt := 16) dX2_own_8 (by decide) (by omega) (fun hb2 => ?_) (fun hb2 => ?_)
  · refine gg_iload_n dX2_own_16 0 rfl ?_
    refine gg_iconst dX2_own_17 ?_
    refine gg_icmp_ne (tgt := 28) dX2_own_18 (by decide) (by omega) (fun hb3 => ?_) (fun hb3 => ?_)
    · refine gg_iload_n dX2_own_28 0 rfl ?_
      refine gg_iconst dX2_own_29 ?_
      refine gg_icmp_eq (tgt := 39) dX2_own_30 (by decide) (by omega) (fun hb4 => ?_) (fun hb4 => ?_)
      · refine gg_iconst dX2_own_39 ?_
        refine gg_goto (tgt := 44) dX2_own_40 (by decide) ?_
        refine gg_ireti dX2_own_44 rfl ⟨rfl, rfl⟩ ?_
        refine ⟨rfl, ?_⟩
        unfold gDo
        repeat' split
        all_goals first | rfl | (exfalso; omega)
      · refine gg_iload_n dX2_own_33 0 rfl ?_
        refine gg_bipush dX2_own_34 (by decide) ?_
        refine gg_icmp_ne (tgt := 43) dX2_own_36 (by decide) (by omega) (fun hb5 => ?_) (fun hb5 => ?_)
        · refine gg_iconst dX2_own_43 ?_
          refine gg_ireti dX2_own_44 rfl ⟨rfl, rfl⟩ ?_
          refine ⟨rfl, ?_⟩
          unfold gDo
          repeat' split
          all_goals first | rfl | (exfalso; omega)
        · refine gg_iconst dX2_own_39 ?_
          refine gg_goto (tgt := 44) dX2_own_40 (by decide) ?_
          refine gg_ireti dX2_own_44 rfl ⟨rfl, rfl⟩ ?_
          refine ⟨rfl, ?_⟩
          unfold gDo
          repeat' split
          all_goals first | rfl | (exfalso; omega)
    · refine gg_aload_n dX2_own_21 1 rfl ?_
      refine gg_iload_n dX2_own_22 2 rfl ?_
      refine gg_callVl (own := RX2) (yt := gm_X1_number) rfl gl_RX2_45 gk_X1_number gr_X1_number dX2_own_23 (c_X1_number (d := d - 1) hF hA hW.1 (j := j) (by omega) (by omega)) (gFsh hF) (gFlt hF) (by decide) rfl rfl rfl (Nat.le_of_ble_eq_true rfl) (by show _ ≤ d; omega) ⟨Nat.le_refl _, Nat.le_refl _⟩ (fun e6 μ' hc => ?_)
      obtain ⟨rfl, rfl⟩ := hc
      refine gg_l2i dX2_own_26 ?_
      refine gg_ireti dX2_own_27 rfl ⟨rfl, rfl⟩ ?_
      refine ⟨rfl, ?_⟩
      unfold gDo
      repeat' split
      all_goals first | rfl | (exfalso; omega)
  · refine gg_iload_n dX2_own_11 3 rfl ?_
    refine gg_iconst dX2_own_12 ?_
    refine gg_icmp_ne (tgt := 45) dX2_own_13 (by decide) (by omega) (fun hb7 => ?_) (fun hb7 => ?_)
    · refine gg_iload_n dX2_own_45 3 rfl ?_
      refine gg_iconst dX2_own_46 ?_
      refine gg_icmp_ne (tgt := 57) dX2_own_47 (by decide) (by omega) (fun hb8 => ?_) (fun hb8 => ?_)
      · refine gg_iload_n dX2_own_57 3 rfl ?_
        refine gg_iconst dX2_own_58 ?_
        refine gg_icmp_ne (tgt := 72) dX2_own_59 (by decide) (by omega) (fun hb9 => ?_) (fun hb9 => ?_)
        · refine gg_iconst dX2_own_72 ?_
          refine gg_ireti dX2_own_73 rfl ⟨rfl, rfl⟩ ?_
          refine ⟨rfl, ?_⟩
          unfold gDo
          repeat' split
          all_goals first | rfl | (exfalso; omega)
        · refine gg_iload_n dX2_own_62 0 rfl ?_
          refine gg_bipush dX2_own_63 (by decide) ?_
          refine gg_icmp_ne (tgt := 72) dX2_own_65 (by decide) (by omega) (fun hb10 => ?_) (fun hb10 => ?_)
          · refine gg_iconst dX2_own_72 ?_
            refine gg_ireti dX2_own_73 rfl ⟨rfl, rfl⟩ ?_
            refine ⟨rfl, ?_⟩
            unfold gDo
            repeat' split
            all_goals first | rfl | (exfalso; omega)
          · refine gg_iconst dX2_own_68 ?_
            refine gg_goto (tgt := 73) dX2_own_69 (by decide) ?_
            refine gg_ireti dX2_own_73 rfl ⟨rfl, rfl⟩ ?_
            refine ⟨rfl, ?_⟩
            unfold gDo
            repeat' split
            all_goals first | rfl | (exfalso; omega)
      · refine gg_iload_n dX2_own_50 0 rfl ?_
        refine gg_iconst dX2_own_51 ?_
        refine gg_icmp_ne (tgt := 57) dX2_own_52 (by decide) (by omega) (fun hb11 => ?_) (fun hb11 => ?_)
        · refine gg_iload_n dX2_own_57 3 rfl ?_
          refine gg_iconst dX2_own_58 ?_
          refine gg_icmp_ne (tgt := 72) dX2_own_59 (by decide) (by omega) (fun hb12 => ?_) (fun hb12 => ?_)
          · refine gg_iconst dX2_own_72 ?_
            refine gg_ireti dX2_own_73 rfl ⟨rfl, rfl⟩ ?_
            refine ⟨rfl, ?_⟩
            unfold gDo
            repeat' split
            all_goals first | rfl | (exfalso; omega)
          · refine gg_iload_n dX2_own_62 0 rfl ?_
            refine gg_bipush dX2_own_63 (by decide) ?_
            refine gg_icmp_ne (tgt := 72) dX2_own_65 (by decide) (by omega) (fun hb13 => ?_) (fun hb13 => ?_)
            · refine gg_iconst dX2_own_72 ?_
              refine gg_ireti dX2_own_73 rfl ⟨rfl, rfl⟩ ?_
              refine ⟨rfl, ?_⟩
              unfold gDo
              repeat' split
              all_goals first | rfl | (exfalso; omega)
            · refine gg_iconst dX2_own_68 ?_
              refine gg_goto (tgt := 73) dX2_own_69 (by decide) ?_
              refine gg_ireti dX2_own_73 rfl ⟨rfl, rfl⟩ ?_
              refine ⟨rfl, ?_⟩
              unfold gDo
              repeat' split
              all_goals first | rfl | (exfalso; omega)
        · refine gg_iconst dX2_own_55 ?_
          refine gg_ireti dX2_own_56 rfl ⟨rfl, rfl⟩ ?_
          refine ⟨rfl, ?_⟩
          unfold gDo
          repeat' split
          all_goals first | rfl | (exfalso; omega)
    · refine gg_iload_n dX2_own_16 0 rfl ?_
      refine gg_iconst dX2_own_17 ?_
      refine gg_icmp_ne (tgt := 28) dX2_own_18 (by decide) (by omega) (fun hb14 => ?_) (fun hb14 => ?_)
      · refine gg_iload_n dX2_own_28 0 rfl ?_
        refine gg_iconst dX2_own_29 ?_
        refine gg_icmp_eq (tgt := 39) dX2_own_30 (by decide) (by omega) (fun hb15 => ?_) (fun hb15 => ?_)
        · refine gg_iconst dX2_own_39 ?_
          refine gg_goto (tgt := 44) dX2_own_40 (by decide) ?_
          refine gg_ireti dX2_own_44 rfl ⟨rfl, rfl⟩ ?_
          refine ⟨rfl, ?_⟩
          unfold gDo
          repeat' split
          all_goals first | rfl | (exfalso; omega)
        · refine gg_iload_n dX2_own_33 0 rfl ?_
          refine gg_bipush dX2_own_34 (by decide) ?_
          refine gg_icmp_ne (tgt := 43) dX2_own_36 (by decide) (by omega) (fun hb16 => ?_) (fun hb16 => ?_)
          · refine gg_iconst dX2_own_43 ?_
            refine gg_ireti dX2_own_44 rfl ⟨rfl, rfl⟩ ?_
            refine ⟨rfl, ?_⟩
            unfold gDo
            repeat' split
            all_goals first | rfl | (exfalso; omega)
          · refine gg_iconst dX2_own_39 ?_
            refine gg_goto (tgt := 44) dX2_own_40 (by decide) ?_
            refine gg_ireti dX2_own_44 rfl ⟨rfl, rfl⟩ ?_
            refine ⟨rfl, ?_⟩
            unfold gDo
            repeat' split
            all_goals first | rfl | (exfalso; omega)
      · refine gg_aload_n dX2_own_21 1 rfl ?_
        refine gg_iload_n dX2_own_22 2 rfl ?_
        refine gg_callVl (own := RX2) (yt := gm_X1_number) rfl gl_RX2_45 gk_X1_number gr_X1_number dX2_own_23 (c_X1_number (d := d - 1) hF hA hW.1 (j := j) (by omega) (by omega)) (gFsh hF) (gFlt hF) (by decide) rfl rfl rfl (Nat.le_of_ble_eq_true rfl) (by show _ ≤ d; omega) ⟨Nat.le_refl _, Nat.le_refl _⟩ (fun e17 μ' hc => ?_)
        obtain ⟨rfl, rfl⟩ := hc
        refine gg_l2i dX2_own_26 ?_
        refine gg_ireti dX2_own_27 rfl ⟨rfl, rfl⟩ ?_
        refine ⟨rfl, ?_⟩
        unfold gDo
        repeat' split
        all_goals first | rfl | (exfalso; omega)

set_option maxRecDepth 10000 in
theorem c_X2_toldOf {l : Launch} {Γ : gC} {ad : Nat → Nat} {I : Nat → Nat → Int} {J : Nat → Nat → Int64} {d : Nat} {k : Nat} (hk : k < 100000) : gKi l Γ gm_X2_toldOf d [.ref (gad (gSS ad) 38), .int (iv (k : Int))] (gSS ad, I, J) (fun e μ => μ = (gSS ad, I, J) ∧ e = (if k < 200 then I 39 k else 0)) := by
  refine gKi_of gk_X2_toldOf.1 (Nat.le_of_ble_eq_true rfl) ?_
  show gG l Γ gm_X2_toldOf (d, 0, 0, 0, 0) 0 [(0, .ref (gad (gSS ad) 38)), (1, .int (iv (k : Int)))] [] _ _
  refine gg_iload_n dX2_toldOf_0 1 rfl ?_
  refine gg_if_lt_f (tgt := 20) dX2_toldOf_1 (by decide) (by omega) (by omega) ?_
  refine gg_iload_n dX2_toldOf_4 1 rfl ?_
  refine gg_sipush dX2_toldOf_5 (by decide) ?_
  refine gg_icmp_ge (tgt := 20) dX2_toldOf_8 (by decide) (by omega) (fun hb => ?_) (fun hb => ?_)
  · refine gg_iconst dX2_toldOf_20 ?_
    refine gg_ireti dX2_toldOf_21 rfl ⟨rfl, rfl⟩ ?_
    exact ⟨rfl, by rw [if_neg (by omega)]⟩
  · refine gg_aload_n dX2_toldOf_11 0 rfl ?_
    refine gg_getR (k' := 39) rfl gf_RX2_9 dX2_toldOf_12 sh_38 pl_38 (by decide) (by decide) rr_38_0 ?_
    refine gg_iload_n dX2_toldOf_15 1 rfl ?_
    refine gg_ialdj k dX2_toldOf_16 sh_39 pl_39 (by decide) rfl (by omega) ?_
    refine gg_goto (tgt := 21) dX2_toldOf_17 (by decide) ?_
    refine gg_ireti dX2_toldOf_21 rfl ⟨rfl, rfl⟩ ?_
    exact ⟨rfl, by rw [if_pos (by omega)]⟩

theorem gJn_rng {q : Nat} {a b : Int} {x y : Nat} (ha : 0 ≤ a ∧ a ≤ (x : Int)) (hb : 0 ≤ b ∧ b ≤ (y : Int)) : 0 ≤ gJn q a b ∧ gJn q a b ≤ ((x + y : Nat) : Int) := by
  unfold gJn
  split <;> omega
set_option maxRecDepth 10000 in
theorem c_X2_joinedParts {l : Launch} {Γ : gC} {ad : Nat → Nat} {I : Nat → Nat → Int} {J : Nat → Nat → Int64} {d : Nat} {a n : Nat} {K : Nat → Nat} {N : Nat → Int64} {Z : Nat → Nat} (hF : gF a) (hA : gAt I J a n K N Z) (hW : gWf n K N Z) {q j : Nat} {D : Nat → Int} (hq : q ≤ 5) (hj : j < n) (ht : ∀ t, j < t → t < n → I 39 t = D t) (hr : ∀ t, t < n → 0 ≤ D t ∧ D t ≤ 9999) (hd : 3 ≤ d) : gKi l Γ gm_X2_joinedParts d [.ref (gad (gSS ad) 38), .ref (gad (gSS ad) a), .int (iv (j : Int)), .int (iv (q : Int))] (gSS ad, I, J) (fun e μ => μ = (gSS ad, I, J) ∧ e = gDj q (K j) (D (j + 1)) (D (gPt Z j 1)) (D (gPt Z j 2))) := by
  refine gKi_of gk_X2_joinedParts.1 (Nat.le_of_ble_eq_true rfl) ?_
  show gG l Γ gm_X2_joinedParts (d, 0, 0, 0, 0) 0 [(0, .ref (gad (gSS ad) 38)), (1, .ref (gad (gSS ad) a)), (2, .int (iv (j : Int))), (3, .int (iv (q : Int)))] [] _ _
  obtain ⟨hK, hZ1, hZ2, he0, he1, he2, he3, hc1, hc2, hc3, hnm, hpw, hz⟩ := hW.2.2 j hj
  have hn := hW.1
  clear hnm hpw hz
  have r1 : 1 ≤ gPar (K j) → 0 ≤ D (j + 1) ∧ D (j + 1) ≤ 9999 := fun g => hr _ (hc1 g)
  have r2 : 2 ≤ gPar (K j) → 0 ≤ D (gPt Z j 1) ∧ D (gPt Z j 1) ≤ 9999 := fun g => hr _ (hc2 g)
  have r3 : 3 ≤ gPar (K j) → 0 ≤ D (gPt Z j 2) ∧ D (gPt Z j 2) ≤ 9999 := fun g => hr _ (hc3 g)
  refine gg_aload_n dX2_joinedParts_0 1 rfl ?_
  refine gg_iload_n dX2_joinedParts_1 2 rfl ?_
  refine gg_callVi (own := RX2) (yt := gm_X1_kind) rfl gl_RX2_41 gk_X1_kind gr_X1_kind dX2_joinedParts_2 (c_X1_kind (d := d - 1) hF hA hW.1 (j := j) (by omega) (by omega)) (gFsh hF) (gFlt hF) (by decide) rfl rfl rfl (Nat.le_of_ble_eq_true rfl) (by show _ ≤ d; omega) ⟨Nat.le_refl _, Nat.le_refl _⟩ (fun e1 μ' hc => ?_)
  obtain ⟨rfl, rfl⟩ := hc
  obtain hk | hk | hk | hk | hk | hk | hk | hk := (by omega : K j = 0 ∨ K j = 1 ∨ K j = 2 ∨ K j = 3 ∨ K j = 4 ∨ K j = 5 ∨ K j = 6 ∨ K j = 7)
  · refine gg_toI (b := 0) (by omega) ?_
    refine gg_istore (ls' := [(4, .int (iv 0)), (0, .ref (gad (gSS ad) 38)), (1, .ref (gad (gSS ad) a)), (2, .int (iv (j : Int))), (3, .int (iv (q : Int)))]) dX2_joinedParts_5 (by decide) rfl ?_
    refine gg_aload_n dX2_joinedParts_7 1 rfl ?_
    refine gg_iload_n dX2_joinedParts_8 3 rfl ?_
    refine gg_iconst dX2_joinedParts_9 ?_
    refine gg_iadd dX2_joinedParts_10 ?_
    refine gg_callVi (own := RX2) (yt := gm_X2_toldOf) rfl gl_RX2_49 gk_X2_toldOf gr_X2_toldOf dX2_joinedParts_11 (c_X2_toldOf (d := d - 1) (k := j + 1) (by omega)) sh_38 pl_38 (by decide) rfl rfl rfl (Nat.le_of_ble_eq_true rfl) (by show _ ≤ d; omega) ⟨Nat.le_refl _, Nat.le_refl _⟩ (fun e2 μ' hc => ?_)
    obtain ⟨rfl, rfl⟩ := hc
    refine gg_istore (ls' := [(5, .int (iv (if j + 1 < 200 then I 39 (j + 1) else 0))), (4, .int (iv 0)), (0, .ref (gad (gSS ad) 38)), (1, .ref (gad (gSS ad) a)), (2, .int (iv (j : Int))), (3, .int (iv (q : Int)))]) dX2_joinedParts_14 (by decide) rfl ?_
    refine gg_iload_n dX2_joinedParts_16 5 rfl ?_
    refine gg_iconst dX2_joinedParts_17 ?_
    refine gg_icmp_ne (tgt := 58) dX2_joinedParts_18 (by decide) (by omega) (fun hq4 => ?_) (fun hq4 => ?_)
    · refine gg_iload_n dX2_joinedParts_58 5 rfl ?_
      refine gg_iconst dX2_joinedParts_59 ?_
      refine gg_icmp_ne (tgt := 75) dX2_joinedParts_60 (by decide) (by omega) (fun hq5 => ?_) (fun hq5 => ?_)
      · refine gg_iconst dX2_joinedParts_75 ?_
        refine gg_istore (ls' := [(6, .int (iv 0)), (5, .int (iv (if j + 1 < 200 then I 39 (j + 1) else 0))), (4, .int (iv 0)), (0, .ref (gad (gSS ad) 38)), (1, .ref (gad (gSS ad) a)), (2, .int (iv (j : Int))), (3, .int (iv (q : Int)))]) dX2_joinedParts_76 (by decide) rfl ?_
        refine gg_iconst dX2_joinedParts_78 ?_
        refine gg_istore (ls' := [(7, .int (iv 0)), (6, .int (iv 0)), (5, .int (iv (if j + 1 < 200 then I 39 (j + 1) else 0))), (4, .int (iv 0)), (0, .ref (gad (gSS ad) 38)), (1, .ref (gad (gSS ad) a)), (2, .int (iv (j : Int))), (3, .int (iv (q : Int)))]) dX2_joinedParts_79 (by decide) rfl ?_
        refine gg_iload dX2_joinedParts_81 0 rfl ?_
        refine gg_aload_n dX2_joinedParts_83 5 rfl ?_
        refine gg_iload_n dX2_joinedParts_84 6 rfl ?_
        refine gg_callVi (own := RX2) (yt := gm_X1_parts) rfl gl_RX2_59 gk_X1_parts gr_X1_parts dX2_joinedParts_85 (c_X1_parts (d := d - 1) hF hA hW.1 (j := j) (by omega) (by omega) hK) (gFsh hF) (gFlt hF) (by decide) rfl rfl rfl (Nat.le_of_ble_eq_true rfl) (by show _ ≤ d; omega) ⟨Nat.le_refl _, Nat.le_refl _⟩ (fun e3 μ' hc => ?_)
        obtain ⟨rfl, rfl⟩ := hc
        refine gg_toI (b := 0) (by rw [hk]; rfl) ?_
        refine gg_icmp_ge_t (tgt := 116) dX2_joinedParts_88 (by decide) (by decide) (by decide) ?_
        refine gg_iload dX2_joinedParts_116 1 rfl ?_
        refine gg_ireti dX2_joinedParts_118 rfl ⟨rfl, rfl⟩ ?_
        refine ⟨rfl, ?_⟩
        rw [hk]
        unfold gDj
        rw [if_neg (show ¬ (q = 4 ∧ 0 = 6) by omega), if_neg (show ¬ (q = 5 ∧ 0 = 7) by omega)]
        exact rfl
      · refine gg_iload dX2_joinedParts_63 1 rfl ?_
        refine gg_bipush dX2_joinedParts_65 (by decide) ?_
        refine gg_icmp_ne_t (tgt := 75) dX2_joinedParts_67 (by decide) (by decide) (by decide) ?_
        refine gg_iconst dX2_joinedParts_75 ?_
        refine gg_istore (ls' := [(6, .int (iv 0)), (5, .int (iv (if j + 1 < 200 then I 39 (j + 1) else 0))), (4, .int (iv 0)), (0, .ref (gad (gSS ad) 38)), (1, .ref (gad (gSS ad) a)), (2, .int (iv (j : Int))), (3, .int (iv (q : Int)))]) dX2_joinedParts_76 (by decide) rfl ?_
        refine gg_iconst dX2_joinedParts_78 ?_
        refine gg_istore (ls' := [(7, .int (iv 0)), (6, .int (iv 0)), (5, .int (iv (if j + 1 < 200 then I 39 (j + 1) else 0))), (4, .int (iv 0)), (0, .ref (gad (gSS ad) 38)), (1, .ref (gad (gSS ad) a)), (2, .int (iv (j : Int))), (3, .int (iv (q : Int)))]) dX2_joinedParts_79 (by decide) rfl ?_
        refine gg_iload dX2_joinedParts_81 0 rfl ?_
        refine gg_aload_n dX2_joinedParts_83 5 rfl ?_
        refine gg_iload_n dX2_joinedParts_84 6 rfl ?_
        refine gg_callVi (own := RX2) (yt := gm_X1_parts) rfl gl_RX2_59 gk_X1_parts gr_X1_parts dX2_joinedParts_85 (c_X1_parts (d := d - 1) hF hA hW.1 (j := j) (by omega) (by omega) hK) (gFsh hF) (gFlt hF) (by decide) rfl rfl rfl (Nat.le_of_ble_eq_true rfl) (by show _ ≤ d; omega) ⟨Nat.le_refl _, Nat.le_refl _⟩ (fun e4 μ' hc => ?_)
        obtain ⟨rfl, rfl⟩ := hc
        refine gg_toI (b := 0) (by rw [hk]; rfl) ?_
        refine gg_icmp_ge_t (tgt := 116) dX2_joinedParts_88 (by decide) (by decide) (by decide) ?_
        refine gg_iload dX2_joinedParts_116 1 rfl ?_
        refine gg_ireti dX2_joinedParts_118 rfl ⟨rfl, rfl⟩ ?_
        refine ⟨rfl, ?_⟩
        rw [hk]
        unfold gDj
        rw [if_neg (show ¬ (q = 4 ∧ 0 = 6) by omega), if_neg (show ¬ (q = 5 ∧ 0 = 7) by omega)]
        exact rfl
    · refine gg_iload dX2_joinedParts_21 1 rfl ?_
      refine gg_bipush dX2_joinedParts_23 (by decide) ?_
      refine gg_icmp_ne_t (tgt := 58) dX2_joinedParts_25 (by decide) (by decide) (by decide) ?_
      refine gg_iload_n dX2_joinedParts_58 5 rfl ?_
      refine gg_iconst dX2_joinedParts_59 ?_
      refine gg_icmp_ne (tgt := 75) dX2_joinedParts_60 (by decide) (by omega) (fun hq5 => ?_) (fun hq5 => ?_)
      · refine gg_iconst dX2_joinedParts_75 ?_
        refine gg_istore (ls' := [(6, .int (iv 0)), (5, .int (iv (if j + 1 < 200 then I 39 (j + 1) else 0))), (4, .int (iv 0)), (0, .ref (gad (gSS ad) 38)), (1, .ref (gad (gSS ad) a)), (2, .int (iv (j : Int))), (3, .int (iv (q : Int)))]) dX2_joinedParts_76 (by decide) rfl ?_
        refine gg_iconst dX2_joinedParts_78 ?_
        refine gg_istore (ls' := [(7, .int (iv 0)), (6, .int (iv 0)), (5, .int (iv (if j + 1 < 200 then I 39 (j + 1) else 0))), (4, .int (iv 0)), (0, .ref (gad (gSS ad) 38)), (1, .ref (gad (gSS ad) a)), (2, .int (iv (j : Int))), (3, .int (iv (q : Int)))]) dX2_joinedParts_79 (by decide) rfl ?_
        refine gg_iload dX2_joinedParts_81 0 rfl ?_
        refine gg_aload_n dX2_joinedParts_83 5 rfl ?_
        refine gg_iload_n dX2_joinedParts_84 6 rfl ?_
        refine gg_callVi (own := RX2) (yt := gm_X1_parts) rfl gl_RX2_59 gk_X1_parts gr_X1_parts dX2_joinedParts_85 (c_X1_parts (d := d - 1) hF hA hW.1 (j := j) (by omega) (by omega) hK) (gFsh hF) (gFlt hF) (by decide) rfl rfl rfl (Nat.le_of_ble_eq_true rfl) (by show _ ≤ d; omega) ⟨Nat.le_refl _, Nat.le_refl _⟩ (fun e5 μ' hc => ?_)
        obtain ⟨rfl, rfl⟩ := hc
        refine gg_toI (b := 0) (by rw [hk]; rfl) ?_
        refine gg_icmp_ge_t (tgt := 116) dX2_joinedParts_88 (by decide) (by decide) (by decide) ?_
        refine gg_iload dX2_joinedParts_116 1 rfl ?_
        refine gg_ireti dX2_joinedParts_118 rfl ⟨rfl, rfl⟩ ?_
        refine ⟨rfl, ?_⟩
        rw [hk]
        unfold gDj
        rw [if_neg (show ¬ (q = 4 ∧ 0 = 6) by omega), if_neg (show ¬ (q = 5 ∧ 0 = 7) by omega)]
        exact rfl
      · refine gg_iload dX2_joinedParts_63 1 rfl ?_
        refine gg_bipush dX2_joinedParts_65 (by decide) ?_
        refine gg_icmp_ne_t (tgt := 75) dX2_joinedParts_67 (by decide) (by decide) (by decide) ?_
        refine gg_iconst dX2_joinedParts_75 ?_
        refine gg_istore (ls' := [(6, .int (iv 0)), (5, .int (iv (if j + 1 < 200 then I 39 (j + 1) else 0))), (4, .int (iv 0)), (0, .ref (gad (gSS ad) 38)), (1, .ref (gad (gSS ad) a)), (2, .int (iv (j : Int))), (3, .int (iv (q : Int)))]) dX2_joinedParts_76 (by decide) rfl ?_
        refine gg_iconst dX2_joinedParts_78 ?_
        refine gg_istore (ls' := [(7, .int (iv 0)), (6, .int (iv 0)), (5, .int (iv (if j + 1 < 200 then I 39 (j + 1) else 0))), (4, .int (iv 0)), (0, .ref (gad (gSS ad) 38)), (1, .ref (gad (gSS ad) a)), (2, .int (iv (j : Int))), (3, .int (iv (q : Int)))]) dX2_joinedParts_79 (by decide) rfl ?_
        refine gg_iload dX2_joinedParts_81 0 rfl ?_
        refine gg_aload_n dX2_joinedParts_83 5 rfl ?_
        refine gg_iload_n dX2_joinedParts_84 6 rfl ?_
        refine gg_callVi (own := RX2) (yt := gm_X1_parts) rfl gl_RX2_59 gk_X1_parts gr_X1_parts dX2_joinedParts_85 (c_X1_parts (d := d - 1) hF hA hW.1 (j := j) (by omega) (by omega) hK) (gFsh hF) (gFlt hF) (by decide) rfl rfl rfl (Nat.le_of_ble_eq_true rfl) (by show _ ≤ d; omega) ⟨Nat.le_refl _, Nat.le_refl _⟩ (fun e6 μ' hc => ?_)
        obtain ⟨rfl, rfl⟩ := hc
        refine gg_toI (b := 0) (by rw [hk]; rfl) ?_
        refine gg_icmp_ge_t (tgt := 116) dX2_joinedParts_88 (by decide) (by decide) (by decide) ?_
        refine gg_iload dX2_joinedParts_116 1 rfl ?_
        refine gg_ireti dX2_joinedParts_118 rfl ⟨rfl, rfl⟩ ?_
        refine ⟨rfl, ?_⟩
        rw [hk]
        unfold gDj
        rw [if_neg (show ¬ (q = 4 ∧ 0 = 6) by omega), if_neg (show ¬ (q = 5 ∧ 0 = 7) by omega)]
        exact rfl
  · refine gg_toI (b := 1) (by omega) ?_
    refine gg_istore (ls' := [(4, .int (iv 1)), (0, .ref (gad (gSS ad) 38)), (1, .ref (gad (gSS ad) a)), (2, .int (iv (j : Int))), (3, .int (iv (q : Int)))]) dX2_joinedParts_5 (by decide) rfl ?_
    refine gg_aload_n dX2_joinedParts_7 1 rfl ?_
    refine gg_iload_n dX2_joinedParts_8 3 rfl ?_
    refine gg_iconst dX2_joinedParts_9 ?_
    refine gg_iadd dX2_joinedParts_10 ?_
    refine gg_callVi (own := RX2) (yt := gm_X2_toldOf) rfl gl_RX2_49 gk_X2_toldOf gr_X2_toldOf dX2_joinedParts_11 (c_X2_toldOf (d := d - 1) (k := j + 1) (by omega)) sh_38 pl_38 (by decide) rfl rfl rfl (Nat.le_of_ble_eq_true rfl) (by show _ ≤ d; omega) ⟨Nat.le_refl _, Nat.le_refl _⟩ (fun e7 μ' hc => ?_)
    obtain ⟨rfl, rfl⟩ := hc
    refine gg_istore (ls' := [(5, .int (iv (if j + 1 < 200 then I 39 (j + 1) else 0))), (4, .int (iv 1)), (0, .ref (gad (gSS ad) 38)), (1, .ref (gad (gSS ad) a)), (2, .int (iv (j : Int))), (3, .int (iv (q : Int)))]) dX2_joinedParts_14 (by decide) rfl ?_
    refine gg_iload_n dX2_joinedParts_16 5 rfl ?_
    refine gg_iconst dX2_joinedParts_17 ?_
    refine gg_icmp_ne (tgt := 58) dX2_joinedParts_18 (by decide) (by omega) (fun hq4 => ?_) (fun hq4 => ?_)
    · refine gg_iload_n dX2_joinedParts_58 5 rfl ?_
      refine gg_iconst dX2_joinedParts_59 ?_
      refine gg_icmp_ne (tgt := 75) dX2_joinedParts_60 (by decide) (by omega) (fun hq5 => ?_) (fun hq5 => ?_)
      · refine gg_iconst dX2_joinedParts_75 ?_
        refine gg_istore (ls' := [(6, .int (iv 0)), (5, .int (iv (if j + 1 < 200 then I 39 (j + 1) else 0))), (4, .int (iv 1)), (0, .ref (gad (gSS ad) 38)), (1, .ref (gad (gSS ad) a)), (2, .int (iv (j : Int))), (3, .int (iv (q : Int)))]) dX2_joinedParts_76 (by decide) rfl ?_
        refine gg_iconst dX2_joinedParts_78 ?_
        refine gg_istore (ls' := [(7, .int (iv 0)), (6, .int (iv 0)), (5, .int (iv (if j + 1 < 200 then I 39 (j + 1) else 0))), (4, .int (iv 1)), (0, .ref (gad (gSS ad) 38)), (1, .ref (gad (gSS ad) a)), (2, .int (iv (j : Int))), (3, .int (iv (q : Int)))]) dX2_joinedParts_79 (by decide) rfl ?_
        refine gg_iload dX2_joinedParts_81 0 rfl ?_
        refine gg_aload_n dX2_joinedParts_83 5 rfl ?_
        refine gg_iload_n dX2_joinedParts_84 6 rfl ?_
        refine gg_callVi (own := RX2) (yt := gm_X1_parts) rfl gl_RX2_59 gk_X1_parts gr_X1_parts dX2_joinedParts_85 (c_X1_parts (d := d - 1) hF hA hW.1 (j := j) (by omega) (by omega) hK) (gFsh hF) (gFlt hF) (by decide) rfl rfl rfl (Nat.le_of_ble_eq_true rfl) (by show _ ≤ d; omega) ⟨Nat.le_refl _, Nat.le_refl _⟩ (fun e8 μ' hc => ?_)
        obtain ⟨rfl, rfl⟩ := hc
        refine gg_toI (b := 0) (by rw [hk]; rfl) ?_
        refine gg_icmp_ge_t (tgt := 116) dX2_joinedParts_88 (by decide) (by decide) (by decide) ?_
        refine gg_iload dX2_joinedParts_116 1 rfl ?_
        refine gg_ireti dX2_joinedParts_118 rfl ⟨rfl, rfl⟩ ?_
        refine ⟨rfl, ?_⟩
        rw [hk]
        unfold gDj
        rw [if_neg (show ¬ (q = 4 ∧ 1 = 6) by omega), if_neg (show ¬ (q = 5 ∧ 1 = 7) by omega)]
        exact rfl
      · refine gg_iload dX2_joinedParts_63 1 rfl ?_
        refine gg_bipush dX2_joinedParts_65 (by decide) ?_
        refine gg_icmp_ne_t (tgt := 75) dX2_joinedParts_67 (by decide) (by decide) (by decide) ?_
        refine gg_iconst dX2_joinedParts_75 ?_
        refine gg_istore (ls' := [(6, .int (iv 0)), (5, .int (iv (if j + 1 < 200 then I 39 (j + 1) else 0))), (4, .int (iv 1)), (0, .ref (gad (gSS ad) 38)), (1, .ref (gad (gSS ad) a)), (2, .int (iv (j : Int))), (3, .int (iv (q : Int)))]) dX2_joinedParts_76 (by decide) rfl ?_
        refine gg_iconst dX2_joinedParts_78 ?_
        refine gg_istore (ls' := [(7, .int (iv 0)), (6, .int (iv 0)), (5, .int (iv (if j + 1 < 200 then I 39 (j + 1) else 0))), (4, .int (iv 1)), (0, .ref (gad (gSS ad) 38)), (1, .ref (gad (gSS ad) a)), (2, .int (iv (j : Int))), (3, .int (iv (q : Int)))]) dX2_joinedParts_79 (by decide) rfl ?_
        refine gg_iload dX2_joinedParts_81 0 rfl ?_
        refine gg_aload_n dX2_joinedParts_83 5 rfl ?_
        refine gg_iload_n dX2_joinedParts_84 6 rfl ?_
        refine gg_callVi (own := RX2) (yt := gm_X1_parts) rfl gl_RX2_59 gk_X1_parts gr_X1_parts dX2_joinedParts_85 (c_X1_parts (d := d - 1) hF hA hW.1 (j := j) (by omega) (by omega) hK) (gFsh hF) (gFlt hF) (by decide) rfl rfl rfl (Nat.le_of_ble_eq_true rfl) (by show _ ≤ d; omega) ⟨Nat.le_refl _, Nat.le_refl _⟩ (fun e9 μ' hc => ?_)
        obtain ⟨rfl, rfl⟩ := hc
        refine gg_toI (b := 0) (by rw [hk]; rfl) ?_
        refine gg_icmp_ge_t (tgt := 116) dX2_joinedParts_88 (by decide) (by decide) (by decide) ?_
        refine gg_iload dX2_joinedParts_116 1 rfl ?_
        refine gg_ireti dX2_joinedParts_118 rfl ⟨rfl, rfl⟩ ?_
        refine ⟨rfl, ?_⟩
        rw [hk]
        unfold gDj
        rw [if_neg (show ¬ (q = 4 ∧ 1 = 6) by omega), if_neg (show ¬ (q = 5 ∧ 1 = 7) by omega)]
        exact rfl
    · refine gg_iload dX2_joinedParts_21 1 rfl ?_
      refine gg_bipush dX2_joinedParts_23 (by decide) ?_
      refine gg_icmp_ne_t (tgt := 58) dX2_joinedParts_25 (by decide) (by decide) (by decide) ?_
      refine gg_iload_n dX2_joinedParts_58 5 rfl ?_
      refine gg_iconst dX2_joinedParts_59 ?_
      refine gg_icmp_ne (tgt := 75) dX2_joinedParts_60 (by decide) (by omega) (fun hq5 => ?_) (fun hq5 => ?_)
      · refine gg_iconst dX2_joinedParts_75 ?_
        refine gg_istore (ls' := [(6, .int (iv 0)), (5, .int (iv (if j + 1 < 200 then I 39 (j + 1) else 0))), (4, .int (iv 1)), (0, .ref (gad (gSS ad) 38)), (1, .ref (gad (gSS ad) a)), (2, .int (iv (j : Int))), (3, .int (iv (q : Int)))]) dX2_joinedParts_76 (by decide) rfl ?_
        refine gg_iconst dX2_joinedParts_78 ?_
        refine gg_istore (ls' := [(7, .int (iv 0)), (6, .int (iv 0)), (5, .int (iv (if j + 1 < 200 then I 39 (j + 1) else 0))), (4, .int (iv 1)), (0, .ref (gad (gSS ad) 38)), (1, .ref (gad (gSS ad) a)), (2, .int (iv (j : Int))), (3, .int (iv (q : Int)))]) dX2_joinedParts_79 (by decide) rfl ?_
        refine gg_iload dX2_joinedParts_81 0 rfl ?_
        refine gg_aload_n dX2_joinedParts_83 5 rfl ?_
        refine gg_iload_n dX2_joinedParts_84 6 rfl ?_
        refine gg_callVi (own := RX2) (yt := gm_X1_parts) rfl gl_RX2_59 gk_X1_parts gr_X1_parts dX2_joinedParts_85 (c_X1_parts (d := d - 1) hF hA hW.1 (j := j) (by omega) (by omega) hK) (gFsh hF) (gFlt hF) (by decide) rfl rfl rfl (Nat.le_of_ble_eq_true rfl) (by show _ ≤ d; omega) ⟨Nat.le_refl _, Nat.le_refl _⟩ (fun e10 μ' hc => ?_)
        obtain ⟨rfl, rfl⟩ := hc
        refine gg_toI (b := 0) (by rw [hk]; rfl) ?_
        refine gg_icmp_ge_t (tgt := 116) dX2_joinedParts_88 (by decide) (by decide) (by decide) ?_
        refine gg_iload dX2_joinedParts_116 1 rfl ?_
        refine gg_ireti dX2_joinedParts_118 rfl ⟨rfl, rfl⟩ ?_
        refine ⟨rfl, ?_⟩
        rw [hk]
        unfold gDj
        rw [if_neg (show ¬ (q = 4 ∧ 1 = 6) by omega), if_neg (show ¬ (q = 5 ∧ 1 = 7) by omega)]
        exact rfl
      · refine gg_iload dX2_joinedParts_63 1 rfl ?_
        refine gg_bipush dX2_joinedParts_65 (by decide) ?_
        refine gg_icmp_ne_t (tgt := 75) dX2_joinedParts_67 (by decide) (by decide) (by decide) ?_
        refine gg_iconst dX2_joinedParts_75 ?_
        refine gg_istore (ls' := [(6, .int (iv 0)), (5, .int (iv (if j + 1 < 200 then I 39 (j + 1) else 0))), (4, .int (iv 1)), (0, .ref (gad (gSS ad) 38)), (1, .ref (gad (gSS ad) a)), (2, .int (iv (j : Int))), (3, .int (iv (q : Int)))]) dX2_joinedParts_76 (by decide) rfl ?_
        refine gg_iconst dX2_joinedParts_78 ?_
        refine gg_istore (ls' := [(7, .int (iv 0)), (6, .int (iv 0)), (5, .int (iv (if j + 1 < 200 then I 39 (j + 1) else 0))), (4, .int (iv 1)), (0, .ref (gad (gSS ad) 38)), (1, .ref (gad (gSS ad) a)), (2, .int (iv (j : Int))), (3, .int (iv (q : Int)))]) dX2_joinedParts_79 (by decide) rfl ?_
        refine gg_iload dX2_joinedParts_81 0 rfl ?_
        refine gg_aload_n dX2_joinedParts_83 5 rfl ?_
        refine gg_iload_n dX2_joinedParts_84 6 rfl ?_
        refine gg_callVi (own := RX2) (yt := gm_X1_parts) rfl gl_RX2_59 gk_X1_parts gr_X1_parts dX2_joinedParts_85 (c_X1_parts (d := d - 1) hF hA hW.1 (j := j) (by omega) (by omega) hK) (gFsh hF) (gFlt hF) (by decide) rfl rfl rfl (Nat.le_of_ble_eq_true rfl) (by show _ ≤ d; omega) ⟨Nat.le_refl _, Nat.le_refl _⟩ (fun e11 μ' hc => ?_)
        obtain ⟨rfl, rfl⟩ := hc
        refine gg_toI (b := 0) (by rw [hk]; rfl) ?_
        refine gg_icmp_ge_t (tgt := 116) dX2_joinedParts_88 (by decide) (by decide) (by decide) ?_
        refine gg_iload dX2_joinedParts_116 1 rfl ?_
        refine gg_ireti dX2_joinedParts_118 rfl ⟨rfl, rfl⟩ ?_
        refine ⟨rfl, ?_⟩
        rw [hk]
        unfold gDj
        rw [if_neg (show ¬ (q = 4 ∧ 1 = 6) by omega), if_neg (show ¬ (q = 5 ∧ 1 = 7) by omega)]
        exact rfl
  · refine gg_toI (b := 2) (by omega) ?_
    refine gg_istore (ls' := [(4, .int (iv 2)), (0, .ref (gad (gSS ad) 38)), (1, .ref (gad (gSS ad) a)), (2, .int (iv (j : Int))), (3, .int (iv (q : Int)))]) dX2_joinedParts_5 (by decide) rfl ?_
    have g1 := r1 (by rw [hk]; decide)
    refine gg_aload_n dX2_joinedParts_7 1 rfl ?_
    refine gg_iload_n dX2_joinedParts_8 3 rfl ?_
    refine gg_iconst dX2_joinedParts_9 ?_
    refine gg_iadd dX2_joinedParts_10 ?_
    refine gg_callVi (own := RX2) (yt := gm_X2_toldOf) rfl gl_RX2_49 gk_X2_toldOf gr_X2_toldOf dX2_joinedParts_11 (c_X2_toldOf (d := d - 1) (k := j + 1) (by have := (hc1 (by rw [hk]; decide)); omega)) sh_38 pl_38 (by decide) rfl rfl rfl (Nat.le_of_ble_eq_true rfl) (by show _ ≤ d; omega) ⟨Nat.le_refl _, Nat.le_refl _⟩ (fun e12 μ' hc => ?_)
    obtain ⟨rfl, rfl⟩ := hc
    refine gg_toI (b := D (j + 1)) (by have hlt : j + 1 < n := (hc1 (by rw [hk]; decide)); rw [if_pos (show j + 1 < 200 by omega)]; exact ht _ (by omega) hlt) ?_
    refine gg_istore (ls' := [(5, .int (iv (D (j + 1)))), (4, .int (iv 2)), (0, .ref (gad (gSS ad) 38)), (1, .ref (gad (gSS ad) a)), (2, .int (iv (j : Int))), (3, .int (iv (q : Int)))]) dX2_joinedParts_14 (by decide) rfl ?_
    refine gg_iload_n dX2_joinedParts_16 5 rfl ?_
    refine gg_iconst dX2_joinedParts_17 ?_
    refine gg_icmp_ne (tgt := 58) dX2_joinedParts_18 (by decide) (by omega) (fun hq4 => ?_) (fun hq4 => ?_)
    · refine gg_iload_n dX2_joinedParts_58 5 rfl ?_
      refine gg_iconst dX2_joinedParts_59 ?_
      refine gg_icmp_ne (tgt := 75) dX2_joinedParts_60 (by decide) (by omega) (fun hq5 => ?_) (fun hq5 => ?_)
      · refine gg_iconst dX2_joinedParts_75 ?_
        refine gg_istore (ls' := [(6, .int (iv 0)), (5, .int (iv (D (j + 1)))), (4, .int (iv 2)), (0, .ref (gad (gSS ad) 38)), (1, .ref (gad (gSS ad) a)), (2, .int (iv (j : Int))), (3, .int (iv (q : Int)))]) dX2_joinedParts_76 (by decide) rfl ?_
        refine gg_iconst dX2_joinedParts_78 ?_
        refine gg_istore (ls' := [(7, .int (iv 0)), (6, .int (iv 0)), (5, .int (iv (D (j + 1)))), (4, .int (iv 2)), (0, .ref (gad (gSS ad) 38)), (1, .ref (gad (gSS ad) a)), (2, .int (iv (j : Int))), (3, .int (iv (q : Int)))]) dX2_joinedParts_79 (by decide) rfl ?_
        refine gg_iload dX2_joinedParts_81 0 rfl ?_
        refine gg_aload_n dX2_joinedParts_83 5 rfl ?_
        refine gg_iload_n dX2_joinedParts_84 6 rfl ?_
        refine gg_callVi (own := RX2) (yt := gm_X1_parts) rfl gl_RX2_59 gk_X1_parts gr_X1_parts dX2_joinedParts_85 (c_X1_parts (d := d - 1) hF hA hW.1 (j := j) (by omega) (by omega) hK) (gFsh hF) (gFlt hF) (by decide) rfl rfl rfl (Nat.le_of_ble_eq_true rfl) (by show _ ≤ d; omega) ⟨Nat.le_refl _, Nat.le_refl _⟩ (fun e13 μ' hc => ?_)
        obtain ⟨rfl, rfl⟩ := hc
        refine gg_toI (b := 1) (by rw [hk]; rfl) ?_
        refine gg_icmp_ge_f (tgt := 116) dX2_joinedParts_88 (by decide) (by decide) (by decide) ?_
        refine gg_iload_n dX2_joinedParts_91 7 rfl ?_
        refine gg_iload dX2_joinedParts_92 1 rfl ?_
        refine gg_aload_n dX2_joinedParts_94 4 rfl ?_
        refine gg_aload_n dX2_joinedParts_95 5 rfl ?_
        refine gg_iload_n dX2_joinedParts_96 6 rfl ?_
        refine gg_iload dX2_joinedParts_97 0 rfl ?_
        refine gg_callVi (own := RX2) (yt := gm_X1_part) rfl gl_RX2_52 gk_X1_part gr_X1_part dX2_joinedParts_99 (c_X1_part0 (d := d - 1) hF hA hW.1 (j := j) hj (by omega)) (gFsh hF) (gFlt hF) (by decide) rfl rfl rfl (Nat.le_of_ble_eq_true rfl) (by show _ ≤ d; omega) ⟨Nat.le_refl _, Nat.le_refl _⟩ (fun e14 μ' hc => ?_)
        obtain ⟨rfl, rfl⟩ := hc
        refine gg_callVi (own := RX2) (yt := gm_X2_toldOf) rfl gl_RX2_49 gk_X2_toldOf gr_X2_toldOf dX2_joinedParts_102 (c_X2_toldOf (d := d - 1) (k := j + 1) (by have := (hc1 (by rw [hk]; decide)); omega)) sh_38 pl_38 (by decide) rfl rfl rfl (Nat.le_of_ble_eq_true rfl) (by show _ ≤ d; omega) ⟨Nat.le_refl _, Nat.le_refl _⟩ (fun e15 μ' hc => ?_)
        obtain ⟨rfl, rfl⟩ := hc
        refine gg_toI (b := D (j + 1)) (by have hlt : j + 1 < n := (hc1 (by rw [hk]; decide)); rw [if_pos (show j + 1 < 200 by omega)]; exact ht _ (by omega) hlt) ?_
        refine gg_callSi (own := RX2) (yt := gm_X2_join) rfl gl_RX2_55 gk_X2_join gr_X2_join dX2_joinedParts_105 (c_X2_join (d := d - 1) (q := q) hq (by first | omega | (have := @gJn_rng q 0 (D (j + 1)) 0 9999 (by omega) (by omega); have := @gJn_rng q (gJn q 0 (D (j + 1))) (D (gPt Z j 1)) 9999 9999 (by omega) (by omega); omega) | (have := @gJn_rng q 0 (D (j + 1)) 0 9999 (by omega) (by omega); omega)) (by omega) (by omega)) rfl rfl (Nat.le_of_ble_eq_true rfl) (by show _ ≤ d; omega) ⟨Nat.le_refl _, Nat.le_refl _⟩ (fun e16 μ' hc => ?_)
        obtain ⟨rfl, rfl⟩ := hc
        refine gg_istore (ls' := [(6, .int (iv (gJn q 0 (D (j + 1))))), (7, .int (iv 0)), (5, .int (iv (D (j + 1)))), (4, .int (iv 2)), (0, .ref (gad (gSS ad) 38)), (1, .ref (gad (gSS ad) a)), (2, .int (iv (j : Int))), (3, .int (iv (q : Int)))]) dX2_joinedParts_108 (by decide) rfl ?_
        refine gg_iincv (ls' := [(7, .int (iv 1)), (6, .int (iv (gJn q 0 (D (j + 1))))), (5, .int (iv (D (j + 1)))), (4, .int (iv 2)), (0, .ref (gad (gSS ad) 38)), (1, .ref (gad (gSS ad) a)), (2, .int (iv (j : Int))), (3, .int (iv (q : Int)))]) dX2_joinedParts_110 1 rfl rfl (by decide) rfl ?_
        refine gg_goto (tgt := 81) dX2_joinedParts_113 (by decide) ?_
        refine gg_iload dX2_joinedParts_81 0 rfl ?_
        refine gg_aload_n dX2_joinedParts_83 5 rfl ?_
        refine gg_iload_n dX2_joinedParts_84 6 rfl ?_
        refine gg_callVi (own := RX2) (yt := gm_X1_parts) rfl gl_RX2_59 gk_X1_parts gr_X1_parts dX2_joinedParts_85 (c_X1_parts (d := d - 1) hF hA hW.1 (j := j) (by omega) (by omega) hK) (gFsh hF) (gFlt hF) (by decide) rfl rfl rfl (Nat.le_of_ble_eq_true rfl) (by show _ ≤ d; omega) ⟨Nat.le_refl _, Nat.le_refl _⟩ (fun e17 μ' hc => ?_)
        obtain ⟨rfl, rfl⟩ := hc
        refine gg_toI (b := 1) (by rw [hk]; rfl) ?_
        refine gg_icmp_ge_t (tgt := 116) dX2_joinedParts_88 (by decide) (by decide) (by decide) ?_
        refine gg_iload dX2_joinedParts_116 1 rfl ?_
        refine gg_ireti dX2_joinedParts_118 rfl ⟨rfl, rfl⟩ ?_
        refine ⟨rfl, ?_⟩
        rw [hk]
        unfold gDj
        rw [if_neg (show ¬ (q = 4 ∧ 2 = 6) by omega), if_neg (show ¬ (q = 5 ∧ 2 = 7) by omega)]
        exact rfl
      · refine gg_iload dX2_joinedParts_63 1 rfl ?_
        refine gg_bipush dX2_joinedParts_65 (by decide) ?_
        refine gg_icmp_ne_t (tgt := 75) dX2_joinedParts_67 (by decide) (by decide) (by decide) ?_
        refine gg_iconst dX2_joinedParts_75 ?_
        refine gg_istore (ls' := [(6, .int (iv 0)), (5, .int (iv (D (j + 1)))), (4, .int (iv 2)), (0, .ref (gad (gSS ad) 38)), (1, .ref (gad (gSS ad) a)), (2, .int (iv (j : Int))), (3, .int (iv (q : Int)))]) dX2_joinedParts_76 (by decide) rfl ?_
        refine gg_iconst dX2_joinedParts_78 ?_
        refine gg_istore (ls' := [(7, .int (iv 0)), (6, .int (iv 0)), (5, .int (iv (D (j + 1)))), (4, .int (iv 2)), (0, .ref (gad (gSS ad) 38)), (1, .ref (gad (gSS ad) a)), (2, .int (iv (j : Int))), (3, .int (iv (q : Int)))]) dX2_joinedParts_79 (by decide) rfl ?_
        refine gg_iload dX2_joinedParts_81 0 rfl ?_
        refine gg_aload_n dX2_joinedParts_83 5 rfl ?_
        refine gg_iload_n dX2_joinedParts_84 6 rfl ?_
        refine gg_callVi (own := RX2) (yt := gm_X1_parts) rfl gl_RX2_59 gk_X1_parts gr_X1_parts dX2_joinedParts_85 (c_X1_parts (d := d - 1) hF hA hW.1 (j := j) (by omega) (by omega) hK) (gFsh hF) (gFlt hF) (by decide) rfl rfl rfl (Nat.le_of_ble_eq_true rfl) (by show _ ≤ d; omega) ⟨Nat.le_refl _, Nat.le_refl _⟩ (fun e18 μ' hc => ?_)
        obtain ⟨rfl, rfl⟩ := hc
        refine gg_toI (b := 1) (by rw [hk]; rfl) ?_
        refine gg_icmp_ge_f (tgt := 116) dX2_joinedParts_88 (by decide) (by decide) (by decide) ?_
        refine gg_iload_n dX2_joinedParts_91 7 rfl ?_
        refine gg_iload dX2_joinedParts_92 1 rfl ?_
        refine gg_aload_n dX2_joinedParts_94 4 rfl ?_
        refine gg_aload_n dX2_joinedParts_95 5 rfl ?_
        refine gg_iload_n dX2_joinedParts_96 6 rfl ?_
        refine gg_iload dX2_joinedParts_97 0 rfl ?_
        refine gg_callVi (own := RX2) (yt := gm_X1_part) rfl gl_RX2_52 gk_X1_part gr_X1_part dX2_joinedParts_99 (c_X1_part0 (d := d - 1) hF hA hW.1 (j := j) hj (by omega)) (gFsh hF) (gFlt hF) (by decide) rfl rfl rfl (Nat.le_of_ble_eq_true rfl) (by show _ ≤ d; omega) ⟨Nat.le_refl _, Nat.le_refl _⟩ (fun e19 μ' hc => ?_)
        obtain ⟨rfl, rfl⟩ := hc
        refine gg_callVi (own := RX2) (yt := gm_X2_toldOf) rfl gl_RX2_49 gk_X2_toldOf gr_X2_toldOf dX2_joinedParts_102 (c_X2_toldOf (d := d - 1) (k := j + 1) (by have := (hc1 (by rw [hk]; decide)); omega)) sh_38 pl_38 (by decide) rfl rfl rfl (Nat.le_of_ble_eq_true rfl) (by show _ ≤ d; omega) ⟨Nat.le_refl _, Nat.le_refl _⟩ (fun e20 μ' hc => ?_)
        obtain ⟨rfl, rfl⟩ := hc
        refine gg_toI (b := D (j + 1)) (by have hlt : j + 1 < n := (hc1 (by rw [hk]; decide)); rw [if_pos (show j + 1 < 200 by omega)]; exact ht _ (by omega) hlt) ?_
        refine gg_callSi (own := RX2) (yt := gm_X2_join) rfl gl_RX2_55 gk_X2_join gr_X2_join dX2_joinedParts_105 (c_X2_join (d := d - 1) (q := q) hq (by first | omega | (have := @gJn_rng q 0 (D (j + 1)) 0 9999 (by omega) (by omega); have := @gJn_rng q (gJn q 0 (D (j + 1))) (D (gPt Z j 1)) 9999 9999 (by omega) (by omega); omega) | (have := @gJn_rng q 0 (D (j + 1)) 0 9999 (by omega) (by omega); omega)) (by omega) (by omega)) rfl rfl (Nat.le_of_ble_eq_true rfl) (by show _ ≤ d; omega) ⟨Nat.le_refl _, Nat.le_refl _⟩ (fun e21 μ' hc => ?_)
        obtain ⟨rfl, rfl⟩ := hc
        refine gg_istore (ls' := [(6, .int (iv (gJn q 0 (D (j + 1))))), (7, .int (iv 0)), (5, .int (iv (D (j + 1)))), (4, .int (iv 2)), (0, .ref (gad (gSS ad) 38)), (1, .ref (gad (gSS ad) a)), (2, .int (iv (j : Int))), (3, .int (iv (q : Int)))]) dX2_joinedParts_108 (by decide) rfl ?_
        refine gg_iincv (ls' := [(7, .int (iv 1)), (6, .int (iv (gJn q 0 (D (j + 1))))), (5, .int (iv (D (j + 1)))), (4, .int (iv 2)), (0, .ref (gad (gSS ad) 38)), (1, .ref (gad (gSS ad) a)), (2, .int (iv (j : Int))), (3, .int (iv (q : Int)))]) dX2_joinedParts_110 1 rfl rfl (by decide) rfl ?_
        refine gg_goto (tgt := 81) dX2_joinedParts_113 (by decide) ?_
        refine gg_iload dX2_joinedParts_81 0 rfl ?_
        refine gg_aload_n dX2_joinedParts_83 5 rfl ?_
        refine gg_iload_n dX2_joinedParts_84 6 rfl ?_
        refine gg_callVi (own := RX2) (yt := gm_X1_parts) rfl gl_RX2_59 gk_X1_parts gr_X1_parts dX2_joinedParts_85 (c_X1_parts (d := d - 1) hF hA hW.1 (j := j) (by omega) (by omega) hK) (gFsh hF) (gFlt hF) (by decide) rfl rfl rfl (Nat.le_of_ble_eq_true rfl) (by show _ ≤ d; omega) ⟨Nat.le_refl _, Nat.le_refl _⟩ (fun e22 μ' hc => ?_)
        obtain ⟨rfl, rfl⟩ := hc
        refine gg_toI (b := 1) (by rw [hk]; rfl) ?_
        refine gg_icmp_ge_t (tgt := 116) dX2_joinedParts_88 (by decide) (by decide) (by decide) ?_
        refine gg_iload dX2_joinedParts_116 1 rfl ?_
        refine gg_ireti dX2_joinedParts_118 rfl ⟨rfl, rfl⟩ ?_
        refine ⟨rfl, ?_⟩
        rw [hk]
        unfold gDj
        rw [if_neg (show ¬ (q = 4 ∧ 2 = 6) by omega), if_neg (show ¬ (q = 5 ∧ 2 = 7) by omega)]
        exact rfl
    · refine gg_iload dX2_joinedParts_21 1 rfl ?_
      refine gg_bipush dX2_joinedParts_23 (by decide) ?_
      refine gg_icmp_ne_t (tgt := 58) dX2_joinedParts_25 (by decide) (by decide) (by decide) ?_
      refine gg_iload_n dX2_joinedParts_58 5 rfl ?_
      refine gg_iconst dX2_joinedParts_59 ?_
      refine gg_icmp_ne (tgt := 75) dX2_joinedParts_60 (by decide) (by omega) (fun hq5 => ?_) (fun hq5 => ?_)
      · refine gg_iconst dX2_joinedParts_75 ?_
        refine gg_istore (ls' := [(6, .int (iv 0)), (5, .int (iv (D (j + 1)))), (4, .int (iv 2)), (0, .ref (gad (gSS ad) 38)), (1, .ref (gad (gSS ad) a)), (2, .int (iv (j : Int))), (3, .int (iv (q : Int)))]) dX2_joinedParts_76 (by decide) rfl ?_
        refine gg_iconst dX2_joinedParts_78 ?_
        refine gg_istore (ls' := [(7, .int (iv 0)), (6, .int (iv 0)), (5, .int (iv (D (j + 1)))), (4, .int (iv 2)), (0, .ref (gad (gSS ad) 38)), (1, .ref (gad (gSS ad) a)), (2, .int (iv (j : Int))), (3, .int (iv (q : Int)))]) dX2_joinedParts_79 (by decide) rfl ?_
        refine gg_iload dX2_joinedParts_81 0 rfl ?_
        refine gg_aload_n dX2_joinedParts_83 5 rfl ?_
        refine gg_iload_n dX2_joinedParts_84 6 rfl ?_
        refine gg_callVi (own := RX2) (yt := gm_X1_parts) rfl gl_RX2_59 gk_X1_parts gr_X1_parts dX2_joinedParts_85 (c_X1_parts (d := d - 1) hF hA hW.1 (j := j) (by omega) (by omega) hK) (gFsh hF) (gFlt hF) (by decide) rfl rfl rfl (Nat.le_of_ble_eq_true rfl) (by show _ ≤ d; omega) ⟨Nat.le_refl _, Nat.le_refl _⟩ (fun e23 μ' hc => ?_)
        obtain ⟨rfl, rfl⟩ := hc
        refine gg_toI (b := 1) (by rw [hk]; rfl) ?_
        refine gg_icmp_ge_f (tgt := 116) dX2_joinedParts_88 (by decide) (by decide) (by decide) ?_
        refine gg_iload_n dX2_joinedParts_91 7 rfl ?_
        refine gg_iload dX2_joinedParts_92 1 rfl ?_
        refine gg_aload_n dX2_joinedParts_94 4 rfl ?_
        refine gg_aload_n dX2_joinedParts_95 5 rfl ?_
        refine gg_iload_n dX2_joinedParts_96 6 rfl ?_
        refine gg_iload dX2_joinedParts_97 0 rfl ?_
        refine gg_callVi (own := RX2) (yt := gm_X1_part) rfl gl_RX2_52 gk_X1_part gr_X1_part dX2_joinedParts_99 (c_X1_part0 (d := d - 1) hF hA hW.1 (j := j) hj (by omega)) (gFsh hF) (gFlt hF) (by decide) rfl rfl rfl (Nat.le_of_ble_eq_true rfl) (by show _ ≤ d; omega) ⟨Nat.le_refl _, Nat.le_refl _⟩ (fun e24 μ' hc => ?_)
        obtain ⟨rfl, rfl⟩ := hc
        refine gg_callVi (own := RX2) (yt := gm_X2_toldOf) rfl gl_RX2_49 gk_X2_toldOf gr_X2_toldOf dX2_joinedParts_102 (c_X2_toldOf (d := d - 1) (k := j + 1) (by have := (hc1 (by rw [hk]; decide)); omega)) sh_38 pl_38 (by decide) rfl rfl rfl (Nat.le_of_ble_eq_true rfl) (by show _ ≤ d; omega) ⟨Nat.le_refl _, Nat.le_refl _⟩ (fun e25 μ' hc => ?_)
        obtain ⟨rfl, rfl⟩ := hc
        refine gg_toI (b := D (j + 1)) (by have hlt : j + 1 < n := (hc1 (by rw [hk]; decide)); rw [if_pos (show j + 1 < 200 by omega)]; exact ht _ (by omega) hlt) ?_
        refine gg_callSi (own := RX2) (yt := gm_X2_join) rfl gl_RX2_55 gk_X2_join gr_X2_join dX2_joinedParts_105 (c_X2_join (d := d - 1) (q := q) hq (by first | omega | (have := @gJn_rng q 0 (D (j + 1)) 0 9999 (by omega) (by omega); have := @gJn_rng q (gJn q 0 (D (j + 1))) (D (gPt Z j 1)) 9999 9999 (by omega) (by omega); omega) | (have := @gJn_rng q 0 (D (j + 1)) 0 9999 (by omega) (by omega); omega)) (by omega) (by omega)) rfl rfl (Nat.le_of_ble_eq_true rfl) (by show _ ≤ d; omega) ⟨Nat.le_refl _, Nat.le_refl _⟩ (fun e26 μ' hc => ?_)
        obtain ⟨rfl, rfl⟩ := hc
        refine gg_istore (ls' := [(6, .int (iv (gJn q 0 (D (j + 1))))), (7, .int (iv 0)), (5, .int (iv (D (j + 1)))), (4, .int (iv 2)), (0, .ref (gad (gSS ad) 38)), (1, .ref (gad (gSS ad) a)), (2, .int (iv (j : Int))), (3, .int (iv (q : Int)))]) dX2_joinedParts_108 (by decide) rfl ?_
        refine gg_iincv (ls' := [(7, .int (iv 1)), (6, .int (iv (gJn q 0 (D (j + 1))))), (5, .int (iv (D (j + 1)))), (4, .int (iv 2)), (0, .ref (gad (gSS ad) 38)), (1, .ref (gad (gSS ad) a)), (2, .int (iv (j : Int))), (3, .int (iv (q : Int)))]) dX2_joinedParts_110 1 rfl rfl (by decide) rfl ?_
        refine gg_goto (tgt := 81) dX2_joinedParts_113 (by decide) ?_
        refine gg_iload dX2_joinedParts_81 0 rfl ?_
        refine gg_aload_n dX2_joinedParts_83 5 rfl ?_
        refine gg_iload_n dX2_joinedParts_84 6 rfl ?_
        refine gg_callVi (own := RX2) (yt := gm_X1_parts) rfl gl_RX2_59 gk_X1_parts gr_X1_parts dX2_joinedParts_85 (c_X1_parts (d := d - 1) hF hA hW.1 (j := j) (by omega) (by omega) hK) (gFsh hF) (gFlt hF) (by decide) rfl rfl rfl (Nat.le_of_ble_eq_true rfl) (by show _ ≤ d; omega) ⟨Nat.le_refl _, Nat.le_refl _⟩ (fun e27 μ' hc => ?_)
        obtain ⟨rfl, rfl⟩ := hc
        refine gg_toI (b := 1) (by rw [hk]; rfl) ?_
        refine gg_icmp_ge_t (tgt := 116) dX2_joinedParts_88 (by decide) (by decide) (by decide) ?_
        refine gg_iload dX2_joinedParts_116 1 rfl ?_
        refine gg_ireti dX2_joinedParts_118 rfl ⟨rfl, rfl⟩ ?_
        refine ⟨rfl, ?_⟩
        rw [hk]
        unfold gDj
        rw [if_neg (show ¬ (q = 4 ∧ 2 = 6) by omega), if_neg (show ¬ (q = 5 ∧ 2 = 7) by omega)]
        exact rfl
      · refine gg_iload dX2_joinedParts_63 1 rfl ?_
        refine gg_bipush dX2_joinedParts_65 (by decide) ?_
        refine gg_icmp_ne_t (tgt := 75) dX2_joinedParts_67 (by decide) (by decide) (by decide) ?_
        refine gg_iconst dX2_joinedParts_75 ?_
        refine gg_istore (ls' := [(6, .int (iv 0)), (5, .int (iv (D (j + 1)))), (4, .int (iv 2)), (0, .ref (gad (gSS ad) 38)), (1, .ref (gad (gSS ad) a)), (2, .int (iv (j : Int))), (3, .int (iv (q : Int)))]) dX2_joinedParts_76 (by decide) rfl ?_
        refine gg_iconst dX2_joinedParts_78 ?_
        refine gg_istore (ls' := [(7, .int (iv 0)), (6, .int (iv 0)), (5, .int (iv (D (j + 1)))), (4, .int (iv 2)), (0, .ref (gad (gSS ad) 38)), (1, .ref (gad (gSS ad) a)), (2, .int (iv (j : Int))), (3, .int (iv (q : Int)))]) dX2_joinedParts_79 (by decide) rfl ?_
        refine gg_iload dX2_joinedParts_81 0 rfl ?_
        refine gg_aload_n dX2_joinedParts_83 5 rfl ?_
        refine gg_iload_n dX2_joinedParts_84 6 rfl ?_
        refine gg_callVi (own := RX2) (yt := gm_X1_parts) rfl gl_RX2_59 gk_X1_parts gr_X1_parts dX2_joinedParts_85 (c_X1_parts (d := d - 1) hF hA hW.1 (j := j) (by omega) (by omega) hK) (gFsh hF) (gFlt hF) (by decide) rfl rfl rfl (Nat.le_of_ble_eq_true rfl) (by show _ ≤ d; omega) ⟨Nat.le_refl _, Nat.le_refl _⟩ (fun e28 μ' hc => ?_)
        obtain ⟨rfl, rfl⟩ := hc
        refine gg_toI (b := 1) (by rw [hk]; rfl) ?_
        refine gg_icmp_ge_f (tgt := 116) dX2_joinedParts_88 (by decide) (by decide) (by decide) ?_
        refine gg_iload_n dX2_joinedParts_91 7 rfl ?_
        refine gg_iload dX2_joinedParts_92 1 rfl ?_
        refine gg_aload_n dX2_joinedParts_94 4 rfl ?_
        refine gg_aload_n dX2_joinedParts_95 5 rfl ?_
        refine gg_iload_n dX2_joinedParts_96 6 rfl ?_
        refine gg_iload dX2_joinedParts_97 0 rfl ?_
        refine gg_callVi (own := RX2) (yt := gm_X1_part) rfl gl_RX2_52 gk_X1_part gr_X1_part dX2_joinedParts_99 (c_X1_part0 (d := d - 1) hF hA hW.1 (j := j) hj (by omega)) (gFsh hF) (gFlt hF) (by decide) rfl rfl rfl (Nat.le_of_ble_eq_true rfl) (by show _ ≤ d; omega) ⟨Nat.le_refl _, Nat.le_refl _⟩ (fun e29 μ' hc => ?_)
        obtain ⟨rfl, rfl⟩ := hc
        refine gg_callVi (own := RX2) (yt := gm_X2_toldOf) rfl gl_RX2_49 gk_X2_toldOf gr_X2_toldOf dX2_joinedParts_102 (c_X2_toldOf (d := d - 1) (k := j + 1) (by have := (hc1 (by rw [hk]; decide)); omega)) sh_38 pl_38 (by decide) rfl rfl rfl (Nat.le_of_ble_eq_true rfl) (by show _ ≤ d; omega) ⟨Nat.le_refl _, Nat.le_refl _⟩ (fun e30 μ' hc => ?_)
        obtain ⟨rfl, rfl⟩ := hc
        refine gg_toI (b := D (j + 1)) (by have hlt : j + 1 < n := (hc1 (by rw [hk]; decide)); rw [if_pos (show j + 1 < 200 by omega)]; exact ht _ (by omega) hlt) ?_
        refine gg_callSi (own := RX2) (yt := gm_X2_join) rfl gl_RX2_55 gk_X2_join gr_X2_join dX2_joinedParts_105 (c_X2_join (d := d - 1) (q := q) hq (by first | omega | (have := @gJn_rng q 0 (D (j + 1)) 0 9999 (by omega) (by omega); have := @gJn_rng q (gJn q 0 (D (j + 1))) (D (gPt Z j 1)) 9999 9999 (by omega) (by omega); omega) | (have := @gJn_rng q 0 (D (j + 1)) 0 9999 (by omega) (by omega); omega)) (by omega) (by omega)) rfl rfl (Nat.le_of_ble_eq_true rfl) (by show _ ≤ d; omega) ⟨Nat.le_refl _, Nat.le_refl _⟩ (fun e31 μ' hc => ?_)
        obtain ⟨rfl, rfl⟩ := hc
        refine gg_istore (ls' := [(6, .int (iv (gJn q 0 (D (j + 1))))), (7, .int (iv 0)), (5, .int (iv (D (j + 1)))), (4, .int (iv 2)), (0, .ref (gad (gSS ad) 38)), (1, .ref (gad (gSS ad) a)), (2, .int (iv (j : Int))), (3, .int (iv (q : Int)))]) dX2_joinedParts_108 (by decide) rfl ?_
        refine gg_iincv (ls' := [(7, .int (iv 1)), (6, .int (iv (gJn q 0 (D (j + 1))))), (5, .int (iv (D (j + 1)))), (4, .int (iv 2)), (0, .ref (gad (gSS ad) 38)), (1, .ref (gad (gSS ad) a)), (2, .int (iv (j : Int))), (3, .int (iv (q : Int)))]) dX2_joinedParts_110 1 rfl rfl (by decide) rfl ?_
        refine gg_goto (tgt := 81) dX2_joinedParts_113 (by decide) ?_
        refine gg_iload dX2_joinedParts_81 0 rfl ?_
        refine gg_aload_n dX2_joinedParts_83 5 rfl ?_
        refine gg_iload_n dX2_joinedParts_84 6 rfl ?_
        refine gg_callVi (own := RX2) (yt := gm_X1_parts) rfl gl_RX2_59 gk_X1_parts gr_X1_parts dX2_joinedParts_85 (c_X1_parts (d := d - 1) hF hA hW.1 (j := j) (by omega) (by omega) hK) (gFsh hF) (gFlt hF) (by decide) rfl rfl rfl (Nat.le_of_ble_eq_true rfl) (by show _ ≤ d; omega) ⟨Nat.le_refl _, Nat.le_refl _⟩ (fun e32 μ' hc => ?_)
        obtain ⟨rfl, rfl⟩ := hc
        refine gg_toI (b := 1) (by rw [hk]; rfl) ?_
        refine gg_icmp_ge_t (tgt := 116) dX2_joinedParts_88 (by decide) (by decide) (by decide) ?_
        refine gg_iload dX2_joinedParts_116 1 rfl ?_
        refine gg_ireti dX2_joinedParts_118 rfl ⟨rfl, rfl⟩ ?_
        refine ⟨rfl, ?_⟩
        rw [hk]
        unfold gDj
        rw [if_neg (show ¬ (q = 4 ∧ 2 = 6) by omega), if_neg (show ¬ (q = 5 ∧ 2 = 7) by omega)]
        exact rfl
  · refine gg_toI (b := 3) (by omega) ?_
    refine gg_istore (ls' := [(4, .int (iv 3)), (0, .ref (gad (gSS ad) 38)), (1, .ref (gad (gSS ad) a)), (2, .int (iv (j : Int))), (3, .int (iv (q : Int)))]) dX2_joinedParts_5 (by decide) rfl ?_
    have g1 := r1 (by rw [hk]; decide)
    have g2 := r2 (by rw [hk]; decide)
    refine gg_aload_n dX2_joinedParts_7 1 rfl ?_
    refine gg_iload_n dX2_joinedParts_8 3 rfl ?_
    refine gg_iconst dX2_joinedParts_9 ?_
    refine gg_iadd dX2_joinedParts_10 ?_
    refine gg_callVi (own := RX2) (yt := gm_X2_toldOf) rfl gl_RX2_49 gk_X2_toldOf gr_X2_toldOf dX2_joinedParts_11 (c_X2_toldOf (d := d - 1) (k := j + 1) (by have := (hc1 (by rw [hk]; decide)); omega)) sh_38 pl_38 (by decide) rfl rfl rfl (Nat.le_of_ble_eq_true rfl) (by show _ ≤ d; omega) ⟨Nat.le_refl _, Nat.le_refl _⟩ (fun e33 μ' hc => ?_)
    obtain ⟨rfl, rfl⟩ := hc
    refine gg_toI (b := D (j + 1)) (by have hlt : j + 1 < n := (hc1 (by rw [hk]; decide)); rw [if_pos (show j + 1 < 200 by omega)]; exact ht _ (by omega) hlt) ?_
    refine gg_istore (ls' := [(5, .int (iv (D (j + 1)))), (4, .int (iv 3)), (0, .ref (gad (gSS ad) 38)), (1, .ref (gad (gSS ad) a)), (2, .int (iv (j : Int))), (3, .int (iv (q : Int)))]) dX2_joinedParts_14 (by decide) rfl ?_
    refine gg_iload_n dX2_joinedParts_16 5 rfl ?_
    refine gg_iconst dX2_joinedParts_17 ?_
    refine gg_icmp_ne (tgt := 58) dX2_joinedParts_18 (by decide) (by omega) (fun hq4 => ?_) (fun hq4 => ?_)
    · refine gg_iload_n dX2_joinedParts_58 5 rfl ?_
      refine gg_iconst dX2_joinedParts_59 ?_
      refine gg_icmp_ne (tgt := 75) dX2_joinedParts_60 (by decide) (by omega) (fun hq5 => ?_) (fun hq5 => ?_)
      · refine gg_iconst dX2_joinedParts_75 ?_
        refine gg_istore (ls' := [(6, .int (iv 0)), (5, .int (iv (D (j + 1)))), (4, .int (iv 3)), (0, .ref (gad (gSS ad) 38)), (1, .ref (gad (gSS ad) a)), (2, .int (iv (j : Int))), (3, .int (iv (q : Int)))]) dX2_joinedParts_76 (by decide) rfl ?_
        refine gg_iconst dX2_joinedParts_78 ?_
        refine gg_istore (ls' := [(7, .int (iv 0)), (6, .int (iv 0)), (5, .int (iv (D (j + 1)))), (4, .int (iv 3)), (0, .ref (gad (gSS ad) 38)), (1, .ref (gad (gSS ad) a)), (2, .int (iv (j : Int))), (3, .int (iv (q : Int)))]) dX2_joinedParts_79 (by decide) rfl ?_
        refine gg_iload dX2_joinedParts_81 0 rfl ?_
        refine gg_aload_n dX2_joinedParts_83 5 rfl ?_
        refine gg_iload_n dX2_joinedParts_84 6 rfl ?_
        refine gg_callVi (own := RX2) (yt := gm_X1_parts) rfl gl_RX2_59 gk_X1_parts gr_X1_parts dX2_joinedParts_85 (c_X1_parts (d := d - 1) hF hA hW.1 (j := j) (by omega) (by omega) hK) (gFsh hF) (gFlt hF) (by decide) rfl rfl rfl (Nat.le_of_ble_eq_true rfl) (by show _ ≤ d; omega) ⟨Nat.le_refl _, Nat.le_refl _⟩ (fun e34 μ' hc => ?_)
        obtain ⟨rfl, rfl⟩ := hc
        refine gg_toI (b := 2) (by rw [hk]; rfl) ?_
        refine gg_icmp_ge_f (tgt := 116) dX2_joinedParts_88 (by decide) (by decide) (by decide) ?_
        refine gg_iload_n dX2_joinedParts_91 7 rfl ?_
        refine gg_iload dX2_joinedParts_92 1 rfl ?_
        refine gg_aload_n dX2_joinedParts_94 4 rfl ?_
        refine gg_aload_n dX2_joinedParts_95 5 rfl ?_
        refine gg_iload_n dX2_joinedParts_96 6 rfl ?_
        refine gg_iload dX2_joinedParts_97 0 rfl ?_
        refine gg_callVi (own := RX2) (yt := gm_X1_part) rfl gl_RX2_52 gk_X1_part gr_X1_part dX2_joinedParts_99 (c_X1_part0 (d := d - 1) hF hA hW.1 (j := j) hj (by omega)) (gFsh hF) (gFlt hF) (by decide) rfl rfl rfl (Nat.le_of_ble_eq_true rfl) (by show _ ≤ d; omega) ⟨Nat.le_refl _, Nat.le_refl _⟩ (fun e35 μ' hc => ?_)
        obtain ⟨rfl, rfl⟩ := hc
        refine gg_callVi (own := RX2) (yt := gm_X2_toldOf) rfl gl_RX2_49 gk_X2_toldOf gr_X2_toldOf dX2_joinedParts_102 (c_X2_toldOf (d := d - 1) (k := j + 1) (by have := (hc1 (by rw [hk]; decide)); omega)) sh_38 pl_38 (by decide) rfl rfl rfl (Nat.le_of_ble_eq_true rfl) (by show _ ≤ d; omega) ⟨Nat.le_refl _, Nat.le_refl _⟩ (fun e36 μ' hc => ?_)
        obtain ⟨rfl, rfl⟩ := hc
        refine gg_toI (b := D (j + 1)) (by have hlt : j + 1 < n := (hc1 (by rw [hk]; decide)); rw [if_pos (show j + 1 < 200 by omega)]; exact ht _ (by omega) hlt) ?_
        refine gg_callSi (own := RX2) (yt := gm_X2_join) rfl gl_RX2_55 gk_X2_join gr_X2_join dX2_joinedParts_105 (c_X2_join (d := d - 1) (q := q) hq (by first | omega | (have := @gJn_rng q 0 (D (j + 1)) 0 9999 (by omega) (by omega); have := @gJn_rng q (gJn q 0 (D (j + 1))) (D (gPt Z j 1)) 9999 9999 (by omega) (by omega); omega) | (have := @gJn_rng q 0 (D (j + 1)) 0 9999 (by omega) (by omega); omega)) (by omega) (by omega)) rfl rfl (Nat.le_of_ble_eq_true rfl) (by show _ ≤ d; omega) ⟨Nat.le_refl _, Nat.le_refl _⟩ (fun e37 μ' hc => ?_)
        obtain ⟨rfl, rfl⟩ := hc
        refine gg_istore (ls' := [(6, .int (iv (gJn q 0 (D (j + 1))))), (7, .int (iv 0)), (5, .int (iv (D (j + 1)))), (4, .int (iv 3)), (0, .ref (gad (gSS ad) 38)), (1, .ref (gad (gSS ad) a)), (2, .int (iv (j : Int))), (3, .int (iv (q : Int)))]) dX2_joinedParts_108 (by decide) rfl ?_
        refine gg_iincv (ls' := [(7, .int (iv 1)), (6, .int (iv (gJn q 0 (D (j + 1))))), (5, .int (iv (D (j + 1)))), (4, .int (iv 3)), (0, .ref (gad (gSS ad) 38)), (1, .ref (gad (gSS ad) a)), (2, .int (iv (j : Int))), (3, .int (iv (q : Int)))]) dX2_joinedParts_110 1 rfl rfl (by decide) rfl ?_
        refine gg_goto (tgt := 81) dX2_joinedParts_113 (by decide) ?_
        refine gg_iload dX2_joinedParts_81 0 rfl ?_
        refine gg_aload_n dX2_joinedParts_83 5 rfl ?_
        refine gg_iload_n dX2_joinedParts_84 6 rfl ?_
        refine gg_callVi (own := RX2) (yt := gm_X1_parts) rfl gl_RX2_59 gk_X1_parts gr_X1_parts dX2_joinedParts_85 (c_X1_parts (d := d - 1) hF hA hW.1 (j := j) (by omega) (by omega) hK) (gFsh hF) (gFlt hF) (by decide) rfl rfl rfl (Nat.le_of_ble_eq_true rfl) (by show _ ≤ d; omega) ⟨Nat.le_refl _, Nat.le_refl _⟩ (fun e38 μ' hc => ?_)
        obtain ⟨rfl, rfl⟩ := hc
        refine gg_toI (b := 2) (by rw [hk]; rfl) ?_
        refine gg_icmp_ge_f (tgt := 116) dX2_joinedParts_88 (by decide) (by decide) (by decide) ?_
        refine gg_iload_n dX2_joinedParts_91 7 rfl ?_
        refine gg_iload dX2_joinedParts_92 1 rfl ?_
        refine gg_aload_n dX2_joinedParts_94 4 rfl ?_
        refine gg_aload_n dX2_joinedParts_95 5 rfl ?_
        refine gg_iload_n dX2_joinedParts_96 6 rfl ?_
        refine gg_iload dX2_joinedParts_97 0 rfl ?_
        refine gg_callVi (own := RX2) (yt := gm_X1_part) rfl gl_RX2_52 gk_X1_part gr_X1_part dX2_joinedParts_99 (c_X1_part1 (d := d - 1) hF hA hW.1 (j := j) (hc1 (by rw [hk]; decide)) hj (by omega)) (gFsh hF) (gFlt hF) (by decide) rfl rfl rfl (Nat.le_of_ble_eq_true rfl) (by show _ ≤ d; omega) ⟨Nat.le_refl _, Nat.le_refl _⟩ (fun e39 μ' hc => ?_)
        obtain ⟨rfl, rfl⟩ := hc
        refine gg_callVi (own := RX2) (yt := gm_X2_toldOf) rfl gl_RX2_49 gk_X2_toldOf gr_X2_toldOf dX2_joinedParts_102 (c_X2_toldOf (d := d - 1) (k := gPt Z j 1) (by have := (hc2 (by rw [hk]; decide)); omega)) sh_38 pl_38 (by decide) rfl rfl rfl (Nat.le_of_ble_eq_true rfl) (by show _ ≤ d; omega) ⟨Nat.le_refl _, Nat.le_refl _⟩ (fun e40 μ' hc => ?_)
        obtain ⟨rfl, rfl⟩ := hc
        refine gg_toI (b := D (gPt Z j 1)) (by have hlt : gPt Z j 1 < n := (hc2 (by rw [hk]; decide)); rw [if_pos (show gPt Z j 1 < 200 by omega)]; exact ht _ (by simp only [gPt]; omega) hlt) ?_
        refine gg_callSi (own := RX2) (yt := gm_X2_join) rfl gl_RX2_55 gk_X2_join gr_X2_join dX2_joinedParts_105 (c_X2_join (d := d - 1) (q := q) hq (by first | omega | (have := @gJn_rng q 0 (D (j + 1)) 0 9999 (by omega) (by omega); have := @gJn_rng q (gJn q 0 (D (j + 1))) (D (gPt Z j 1)) 9999 9999 (by omega) (by omega); omega) | (have := @gJn_rng q 0 (D (j + 1)) 0 9999 (by omega) (by omega); omega)) (by omega) (by omega)) rfl rfl (Nat.le_of_ble_eq_true rfl) (by show _ ≤ d; omega) ⟨Nat.le_refl _, Nat.le_refl _⟩ (fun e41 μ' hc => ?_)
        obtain ⟨rfl, rfl⟩ := hc
        refine gg_istore (ls' := [(6, .int (iv (gJn q (gJn q 0 (D (j + 1))) (D (gPt Z j 1))))), (7, .int (iv 1)), (5, .int (iv (D (j + 1)))), (4, .int (iv 3)), (0, .ref (gad (gSS ad) 38)), (1, .ref (gad (gSS ad) a)), (2, .int (iv (j : Int))), (3, .int (iv (q : Int)))]) dX2_joinedParts_108 (by decide) rfl ?_
        refine gg_iincv (ls' := [(7, .int (iv 2)), (6, .int (iv (gJn q (gJn q 0 (D (j + 1))) (D (gPt Z j 1))))), (5, .int (iv (D (j + 1)))), (4, .int (iv 3)), (0, .ref (gad (gSS ad) 38)), (1, .ref (gad (gSS ad) a)), (2, .int (iv (j : Int))), (3, .int (iv (q : Int)))]) dX2_joinedParts_110 1 rfl rfl (by decide) rfl ?_
        refine gg_goto (tgt := 81) dX2_joinedParts_113 (by decide) ?_
        refine gg_iload dX2_joinedParts_81 0 rfl ?_
        refine gg_aload_n dX2_joinedParts_83 5 rfl ?_
        refine gg_iload_n dX2_joinedParts_84 6 rfl ?_
        refine gg_callVi (own := RX2) (yt := gm_X1_parts) rfl gl_RX2_59 gk_X1_parts gr_X1_parts dX2_joinedParts_85 (c_X1_parts (d := d - 1) hF hA hW.1 (j := j) (by omega) (by omega) hK) (gFsh hF) (gFlt hF) (by decide) rfl rfl rfl (Nat.le_of_ble_eq_true rfl) (by show _ ≤ d; omega) ⟨Nat.le_refl _, Nat.le_refl _⟩ (fun e42 μ' hc => ?_)
        obtain ⟨rfl, rfl⟩ := hc
        refine gg_toI (b := 2) (by rw [hk]; rfl) ?_
        refine gg_icmp_ge_t (tgt := 116) dX2_joinedParts_88 (by decide) (by decide) (by decide) ?_
        refine gg_iload dX2_joinedParts_116 1 rfl ?_
        refine gg_ireti dX2_joinedParts_118 rfl ⟨rfl, rfl⟩ ?_
        refine ⟨rfl, ?_⟩
        rw [hk]
        unfold gDj
        rw [if_neg (show ¬ (q = 4 ∧ 3 = 6) by omega), if_neg (show ¬ (q = 5 ∧ 3 = 7) by omega)]
        exact rfl
      · refine gg_iload dX2_joinedParts_63 1 rfl ?_
        refine gg_bipush dX2_joinedParts_65 (by decide) ?_
        refine gg_icmp_ne_t (tgt := 75) dX2_joinedParts_67 (by decide) (by decide) (by decide) ?_
        refine gg_iconst dX2_joinedParts_75 ?_
        refine gg_istore (ls' := [(6, .int (iv 0)), (5, .int (iv (D (j + 1)))), (4, .int (iv 3)), (0, .ref (gad (gSS ad) 38)), (1, .ref (gad (gSS ad) a)), (2, .int (iv (j : Int))), (3, .int (iv (q : Int)))]) dX2_joinedParts_76 (by decide) rfl ?_
        refine gg_iconst dX2_joinedParts_78 ?_
        refine gg_istore (ls' := [(7, .int (iv 0)), (6, .int (iv 0)), (5, .int (iv (D (j + 1)))), (4, .int (iv 3)), (0, .ref (gad (gSS ad) 38)), (1, .ref (gad (gSS ad) a)), (2, .int (iv (j : Int))), (3, .int (iv (q : Int)))]) dX2_joinedParts_79 (by decide) rfl ?_
        refine gg_iload dX2_joinedParts_81 0 rfl ?_
        refine gg_aload_n dX2_joinedParts_83 5 rfl ?_
        refine gg_iload_n dX2_joinedParts_84 6 rfl ?_
        refine gg_callVi (own := RX2) (yt := gm_X1_parts) rfl gl_RX2_59 gk_X1_parts gr_X1_parts dX2_joinedParts_85 (c_X1_parts (d := d - 1) hF hA hW.1 (j := j) (by omega) (by omega) hK) (gFsh hF) (gFlt hF) (by decide) rfl rfl rfl (Nat.le_of_ble_eq_true rfl) (by show _ ≤ d; omega) ⟨Nat.le_refl _, Nat.le_refl _⟩ (fun e43 μ' hc => ?_)
        obtain ⟨rfl, rfl⟩ := hc
        refine gg_toI (b := 2) (by rw [hk]; rfl) ?_
        refine gg_icmp_ge_f (tgt := 116) dX2_joinedParts_88 (by decide) (by decide) (by decide) ?_
        refine gg_iload_n dX2_joinedParts_91 7 rfl ?_
        refine gg_iload dX2_joinedParts_92 1 rfl ?_
        refine gg_aload_n dX2_joinedParts_94 4 rfl ?_
        refine gg_aload_n dX2_joinedParts_95 5 rfl ?_
        refine gg_iload_n dX2_joinedParts_96 6 rfl ?_
        refine gg_iload dX2_joinedParts_97 0 rfl ?_
        refine gg_callVi (own := RX2) (yt := gm_X1_part) rfl gl_RX2_52 gk_X1_part gr_X1_part dX2_joinedParts_99 (c_X1_part0 (d := d - 1) hF hA hW.1 (j := j) hj (by omega)) (gFsh hF) (gFlt hF) (by decide) rfl rfl rfl (Nat.le_of_ble_eq_true rfl) (by show _ ≤ d; omega) ⟨Nat.le_refl _, Nat.le_refl _⟩ (fun e44 μ' hc => ?_)
        obtain ⟨rfl, rfl⟩ := hc
        refine gg_callVi (own := RX2) (yt := gm_X2_toldOf) rfl gl_RX2_49 gk_X2_toldOf gr_X2_toldOf dX2_joinedParts_102 (c_X2_toldOf (d := d - 1) (k := j + 1) (by have := (hc1 (by rw [hk]; decide)); omega)) sh_38 pl_38 (by decide) rfl rfl rfl (Nat.le_of_ble_eq_true rfl) (by show _ ≤ d; omega) ⟨Nat.le_refl _, Nat.le_refl _⟩ (fun e45 μ' hc => ?_)
        obtain ⟨rfl, rfl⟩ := hc
        refine gg_toI (b := D (j + 1)) (by have hlt : j + 1 < n := (hc1 (by rw [hk]; decide)); rw [if_pos (show j + 1 < 200 by omega)]; exact ht _ (by omega) hlt) ?_
        refine gg_callSi (own := RX2) (yt := gm_X2_join) rfl gl_RX2_55 gk_X2_join gr_X2_join dX2_joinedParts_105 (c_X2_join (d := d - 1) (q := q) hq (by first | omega | (have := @gJn_rng q 0 (D (j + 1)) 0 9999 (by omega) (by omega); have := @gJn_rng q (gJn q 0 (D (j + 1))) (D (gPt Z j 1)) 9999 9999 (by omega) (by omega); omega) | (have := @gJn_rng q 0 (D (j + 1)) 0 9999 (by omega) (by omega); omega)) (by omega) (by omega)) rfl rfl (Nat.le_of_ble_eq_true rfl) (by show _ ≤ d; omega) ⟨Nat.le_refl _, Nat.le_refl _⟩ (fun e46 μ' hc => ?_)
        obtain ⟨rfl, rfl⟩ := hc
        refine gg_istore (ls' := [(6, .int (iv (gJn q 0 (D (j + 1))))), (7, .int (iv 0)), (5, .int (iv (D (j + 1)))), (4, .int (iv 3)), (0, .ref (gad (gSS ad) 38)), (1, .ref (gad (gSS ad) a)), (2, .int (iv (j : Int))), (3, .int (iv (q : Int)))]) dX2_joinedParts_108 (by decide) rfl ?_
        refine gg_iincv (ls' := [(7, .int (iv 1)), (6, .int (iv (gJn q 0 (D (j + 1))))), (5, .int (iv (D (j + 1)))), (4, .int (iv 3)), (0, .ref (gad (gSS ad) 38)), (1, .ref (gad (gSS ad) a)), (2, .int (iv (j : Int))), (3, .int (iv (q : Int)))]) dX2_joinedParts_110 1 rfl rfl (by decide) rfl ?_
        refine gg_goto (tgt := 81) dX2_joinedParts_113 (by decide) ?_
        refine gg_iload dX2_joinedParts_81 0 rfl ?_
        refine gg_aload_n dX2_joinedParts_83 5 rfl ?_
        refine gg_iload_n dX2_joinedParts_84 6 rfl ?_
        refine gg_callVi (own := RX2) (yt := gm_X1_parts) rfl gl_RX2_59 gk_X1_parts gr_X1_parts dX2_joinedParts_85 (c_X1_parts (d := d - 1) hF hA hW.1 (j := j) (by omega) (by omega) hK) (gFsh hF) (gFlt hF) (by decide) rfl rfl rfl (Nat.le_of_ble_eq_true rfl) (by show _ ≤ d; omega) ⟨Nat.le_refl _, Nat.le_refl _⟩ (fun e47 μ' hc => ?_)
        obtain ⟨rfl, rfl⟩ := hc
        refine gg_toI (b := 2) (by rw [hk]; rfl) ?_
        refine gg_icmp_ge_f (tgt := 116) dX2_joinedParts_88 (by decide) (by decide) (by decide) ?_
        refine gg_iload_n dX2_joinedParts_91 7 rfl ?_
        refine gg_iload dX2_joinedParts_92 1 rfl ?_
        refine gg_aload_n dX2_joinedParts_94 4 rfl ?_
        refine gg_aload_n dX2_joinedParts_95 5 rfl ?_
        refine gg_iload_n dX2_joinedParts_96 6 rfl ?_
        refine gg_iload dX2_joinedParts_97 0 rfl ?_
        refine gg_callVi (own := RX2) (yt := gm_X1_part) rfl gl_RX2_52 gk_X1_part gr_X1_part dX2_joinedParts_99 (c_X1_part1 (d := d - 1) hF hA hW.1 (j := j) (hc1 (by rw [hk]; decide)) hj (by omega)) (gFsh hF) (gFlt hF) (by decide) rfl rfl rfl (Nat.le_of_ble_eq_true rfl) (by show _ ≤ d; omega) ⟨Nat.le_refl _, Nat.le_refl _⟩ (fun e48 μ' hc => ?_)
        obtain ⟨rfl, rfl⟩ := hc
        refine gg_callVi (own := RX2) (yt := gm_X2_toldOf) rfl gl_RX2_49 gk_X2_toldOf gr_X2_toldOf dX2_joinedParts_102 (c_X2_toldOf (d := d - 1) (k := gPt Z j 1) (by have := (hc2 (by rw [hk]; decide)); omega)) sh_38 pl_38 (by decide) rfl rfl rfl (Nat.le_of_ble_eq_true rfl) (by show _ ≤ d; omega) ⟨Nat.le_refl _, Nat.le_refl _⟩ (fun e49 μ' hc => ?_)
        obtain ⟨rfl, rfl⟩ := hc
        refine gg_toI (b := D (gPt Z j 1)) (by have hlt : gPt Z j 1 < n := (hc2 (by rw [hk]; decide)); rw [if_pos (show gPt Z j 1 < 200 by omega)]; exact ht _ (by simp only [gPt]; omega) hlt) ?_
        refine gg_callSi (own := RX2) (yt := gm_X2_join) rfl gl_RX2_55 gk_X2_join gr_X2_join dX2_joinedParts_105 (c_X2_join (d := d - 1) (q := q) hq (by first | omega | (have := @gJn_rng q 0 (D (j + 1)) 0 9999 (by omega) (by omega); have := @gJn_rng q (gJn q 0 (D (j + 1))) (D (gPt Z j 1)) 9999 9999 (by omega) (by omega); omega) | (have := @gJn_rng q 0 (D (j + 1)) 0 9999 (by omega) (by omega); omega)) (by omega) (by omega)) rfl rfl (Nat.le_of_ble_eq_true rfl) (by show _ ≤ d; omega) ⟨Nat.le_refl _, Nat.le_refl _⟩ (fun e50 μ' hc => ?_)
        obtain ⟨rfl, rfl⟩ := hc
        refine gg_istore (ls' := [(6, .int (iv (gJn q (gJn q 0 (D (j + 1))) (D (gPt Z j 1))))), (7, .int (iv 1)), (5, .int (iv (D (j + 1)))), (4, .int (iv 3)), (0, .ref (gad (gSS ad) 38)), (1, .ref (gad (gSS ad) a)), (2, .int (iv (j : Int))), (3, .int (iv (q : Int)))]) dX2_joinedParts_108 (by decide) rfl ?_
        refine gg_iincv (ls' := [(7, .int (iv 2)), (6, .int (iv (gJn q (gJn q 0 (D (j + 1))) (D (gPt Z j 1))))), (5, .int (iv (D (j + 1)))), (4, .int (iv 3)), (0, .ref (gad (gSS ad) 38)), (1, .ref (gad (gSS ad) a)), (2, .int (iv (j : Int))), (3, .int (iv (q : Int)))]) dX2_joinedParts_110 1 rfl rfl (by decide) rfl ?_
        refine gg_goto (tgt := 81) dX2_joinedParts_113 (by decide) ?_
        refine gg_iload dX2_joinedParts_81 0 rfl ?_
        refine gg_aload_n dX2_joinedParts_83 5 rfl ?_
        refine gg_iload_n dX2_joinedParts_84 6 rfl ?_
        refine gg_callVi (own := RX2) (yt := gm_X1_parts) rfl gl_RX2_59 gk_X1_parts gr_X1_parts dX2_joinedParts_85 (c_X1_parts (d := d - 1) hF hA hW.1 (j := j) (by omega) (by omega) hK) (gFsh hF) (gFlt hF) (by decide) rfl rfl rfl (Nat.le_of_ble_eq_true rfl) (by show _ ≤ d; omega) ⟨Nat.le_refl _, Nat.le_refl _⟩ (fun e51 μ' hc => ?_)
        obtain ⟨rfl, rfl⟩ := hc
        refine gg_toI (b := 2) (by rw [hk]; rfl) ?_
        refine gg_icmp_ge_t (tgt := 116) dX2_joinedParts_88 (by decide) (by decide) (by decide) ?_
        refine gg_iload dX2_joinedParts_116 1 rfl ?_
        refine gg_ireti dX2_joinedParts_118 rfl ⟨rfl, rfl⟩ ?_
        refine ⟨rfl, ?_⟩
        rw [hk]
        unfold gDj
        rw [if_neg (show ¬ (q = 4 ∧ 3 = 6) by omega), if_neg (show ¬ (q = 5 ∧ 3 = 7) by omega)]
        exact rfl
    · refine gg_iload dX2_joinedParts_21 1 rfl ?_
      refine gg_bipush dX2_joinedParts_23 (by decide) ?_
      refine gg_icmp_ne_t (tgt := 58) dX2_joinedParts_25 (by decide) (by decide) (by decide) ?_
      refine gg_iload_n dX2_joinedParts_58 5 rfl ?_
      refine gg_iconst dX2_joinedParts_59 ?_
      refine gg_icmp_ne (tgt := 75) dX2_joinedParts_60 (by decide) (by omega) (fun hq5 => ?_) (fun hq5 => ?_)
      · refine gg_iconst dX2_joinedParts_75 ?_
        refine gg_istore (ls' := [(6, .int (iv 0)), (5, .int (iv (D (j + 1)))), (4, .int (iv 3)), (0, .ref (gad (gSS ad) 38)), (1, .ref (gad (gSS ad) a)), (2, .int (iv (j : Int))), (3, .int (iv (q : Int)))]) dX2_joinedParts_76 (by decide) rfl ?_
        refine gg_iconst dX2_joinedParts_78 ?_
        refine gg_istore (ls' := [(7, .int (iv 0)), (6, .int (iv 0)), (5, .int (iv (D (j + 1)))), (4, .int (iv 3)), (0, .ref (gad (gSS ad) 38)), (1, .ref (gad (gSS ad) a)), (2, .int (iv (j : Int))), (3, .int (iv (q : Int)))]) dX2_joinedParts_79 (by decide) rfl ?_
        refine gg_iload dX2_joinedParts_81 0 rfl ?_
        refine gg_aload_n dX2_joinedParts_83 5 rfl ?_
        refine gg_iload_n dX2_joinedParts_84 6 rfl ?_
        refine gg_callVi (own := RX2) (yt := gm_X1_parts) rfl gl_RX2_59 gk_X1_parts gr_X1_parts dX2_joinedParts_85 (c_X1_parts (d := d - 1) hF hA hW.1 (j := j) (by omega) (by omega) hK) (gFsh hF) (gFlt hF) (by decide) rfl rfl rfl (Nat.le_of_ble_eq_true rfl) (by show _ ≤ d; omega) ⟨Nat.le_refl _, Nat.le_refl _⟩ (fun e52 μ' hc => ?_)
        obtain ⟨rfl, rfl⟩ := hc
        refine gg_toI (b := 2) (by rw [hk]; rfl) ?_
        refine gg_icmp_ge_f (tgt := 116) dX2_joinedParts_88 (by decide) (by decide) (by decide) ?_
        refine gg_iload_n dX2_joinedParts_91 7 rfl ?_
        refine gg_iload dX2_joinedParts_92 1 rfl ?_
        refine gg_aload_n dX2_joinedParts_94 4 rfl ?_
        refine gg_aload_n dX2_joinedParts_95 5 rfl ?_
        refine gg_iload_n dX2_joinedParts_96 6 rfl ?_
        refine gg_iload dX2_joinedParts_97 0 rfl ?_
        refine gg_callVi (own := RX2) (yt := gm_X1_part) rfl gl_RX2_52 gk_X1_part gr_X1_part dX2_joinedParts_99 (c_X1_part0 (d := d - 1) hF hA hW.1 (j := j) hj (by omega)) (gFsh hF) (gFlt hF) (by decide) rfl rfl rfl (Nat.le_of_ble_eq_true rfl) (by show _ ≤ d; omega) ⟨Nat.le_refl _, Nat.le_refl _⟩ (fun e53 μ' hc => ?_)
        obtain ⟨rfl, rfl⟩ := hc
        refine gg_callVi (own := RX2) (yt := gm_X2_toldOf) rfl gl_RX2_49 gk_X2_toldOf gr_X2_toldOf dX2_joinedParts_102 (c_X2_toldOf (d := d - 1) (k := j + 1) (by have := (hc1 (by rw [hk]; decide)); omega)) sh_38 pl_38 (by decide) rfl rfl rfl (Nat.le_of_ble_eq_true rfl) (by show _ ≤ d; omega) ⟨Nat.le_refl _, Nat.le_refl _⟩ (fun e54 μ' hc => ?_)
        obtain ⟨rfl, rfl⟩ := hc
        refine gg_toI (b := D (j + 1)) (by have hlt : j + 1 < n := (hc1 (by rw [hk]; decide)); rw [if_pos (show j + 1 < 200 by omega)]; exact ht _ (by omega) hlt) ?_
        refine gg_callSi (own := RX2) (yt := gm_X2_join) rfl gl_RX2_55 gk_X2_join gr_X2_join dX2_joinedParts_105 (c_X2_join (d := d - 1) (q := q) hq (by first | omega | (have := @gJn_rng q 0 (D (j + 1)) 0 9999 (by omega) (by omega); have := @gJn_rng q (gJn q 0 (D (j + 1))) (D (gPt Z j 1)) 9999 9999 (by omega) (by omega); omega) | (have := @gJn_rng q 0 (D (j + 1)) 0 9999 (by omega) (by omega); omega)) (by omega) (by omega)) rfl rfl (Nat.le_of_ble_eq_true rfl) (by show _ ≤ d; omega) ⟨Nat.le_refl _, Nat.le_refl _⟩ (fun e55 μ' hc => ?_)
        obtain ⟨rfl, rfl⟩ := hc
        refine gg_istore (ls' := [(6, .int (iv (gJn q 0 (D (j + 1))))), (7, .int (iv 0)), (5, .int (iv (D (j + 1)))), (4, .int (iv 3)), (0, .ref (gad (gSS ad) 38)), (1, .ref (gad (gSS ad) a)), (2, .int (iv (j : Int))), (3, .int (iv (q : Int)))]) dX2_joinedParts_108 (by decide) rfl ?_
        refine gg_iincv (ls' := [(7, .int (iv 1)), (6, .int (iv (gJn q 0 (D (j + 1))))), (5, .int (iv (D (j + 1)))), (4, .int (iv 3)), (0, .ref (gad (gSS ad) 38)), (1, .ref (gad (gSS ad) a)), (2, .int (iv (j : Int))), (3, .int (iv (q : Int)))]) dX2_joinedParts_110 1 rfl rfl (by decide) rfl ?_
        refine gg_goto (tgt := 81) dX2_joinedParts_113 (by decide) ?_
        refine gg_iload dX2_joinedParts_81 0 rfl ?_
        refine gg_aload_n dX2_joinedParts_83 5 rfl ?_
        refine gg_iload_n dX2_joinedParts_84 6 rfl ?_
        refine gg_callVi (own := RX2) (yt := gm_X1_parts) rfl gl_RX2_59 gk_X1_parts gr_X1_parts dX2_joinedParts_85 (c_X1_parts (d := d - 1) hF hA hW.1 (j := j) (by omega) (by omega) hK) (gFsh hF) (gFlt hF) (by decide) rfl rfl rfl (Nat.le_of_ble_eq_true rfl) (by show _ ≤ d; omega) ⟨Nat.le_refl _, Nat.le_refl _⟩ (fun e56 μ' hc => ?_)
        obtain ⟨rfl, rfl⟩ := hc
        refine gg_toI (b := 2) (by rw [hk]; rfl) ?_
        refine gg_icmp_ge_f (tgt := 116) dX2_joinedParts_88 (by decide) (by decide) (by decide) ?_
        refine gg_iload_n dX2_joinedParts_91 7 rfl ?_
        refine gg_iload dX2_joinedParts_92 1 rfl ?_
        refine gg_aload_n dX2_joinedParts_94 4 rfl ?_
        refine gg_aload_n dX2_joinedParts_95 5 rfl ?_
        refine gg_iload_n dX2_joinedParts_96 6 rfl ?_
        refine gg_iload dX2_joinedParts_97 0 rfl ?_
        refine gg_callVi (own := RX2) (yt := gm_X1_part) rfl gl_RX2_52 gk_X1_part gr_X1_part dX2_joinedParts_99 (c_X1_part1 (d := d - 1) hF hA hW.1 (j := j) (hc1 (by rw [hk]; decide)) hj (by omega)) (gFsh hF) (gFlt hF) (by decide) rfl rfl rfl (Nat.le_of_ble_eq_true rfl) (by show _ ≤ d; omega) ⟨Nat.le_refl _, Nat.le_refl _⟩ (fun e57 μ' hc => ?_)
        obtain ⟨rfl, rfl⟩ := hc
        refine gg_callVi (own := RX2) (yt := gm_X2_toldOf) rfl gl_RX2_49 gk_X2_toldOf gr_X2_toldOf dX2_joinedParts_102 (c_X2_toldOf (d := d - 1) (k := gPt Z j 1) (by have := (hc2 (by rw [hk]; decide)); omega)) sh_38 pl_38 (by decide) rfl rfl rfl (Nat.le_of_ble_eq_true rfl) (by show _ ≤ d; omega) ⟨Nat.le_refl _, Nat.le_refl _⟩ (fun e58 μ' hc => ?_)
        obtain ⟨rfl, rfl⟩ := hc
        refine gg_toI (b := D (gPt Z j 1)) (by have hlt : gPt Z j 1 < n := (hc2 (by rw [hk]; decide)); rw [if_pos (show gPt Z j 1 < 200 by omega)]; exact ht _ (by simp only [gPt]; omega) hlt) ?_
        refine gg_callSi (own := RX2) (yt := gm_X2_join) rfl gl_RX2_55 gk_X2_join gr_X2_join dX2_joinedParts_105 (c_X2_join (d := d - 1) (q := q) hq (by first | omega | (have := @gJn_rng q 0 (D (j + 1)) 0 9999 (by omega) (by omega); have := @gJn_rng q (gJn q 0 (D (j + 1))) (D (gPt Z j 1)) 9999 9999 (by omega) (by omega); omega) | (have := @gJn_rng q 0 (D (j + 1)) 0 9999 (by omega) (by omega); omega)) (by omega) (by omega)) rfl rfl (Nat.le_of_ble_eq_true rfl) (by show _ ≤ d; omega) ⟨Nat.le_refl _, Nat.le_refl _⟩ (fun e59 μ' hc => ?_)
        obtain ⟨rfl, rfl⟩ := hc
        refine gg_istore (ls' := [(6, .int (iv (gJn q (gJn q 0 (D (j + 1))) (D (gPt Z j 1))))), (7, .int (iv 1)), (5, .int (iv (D (j + 1)))), (4, .int (iv 3)), (0, .ref (gad (gSS ad) 38)), (1, .ref (gad (gSS ad) a)), (2, .int (iv (j : Int))), (3, .int (iv (q : Int)))]) dX2_joinedParts_108 (by decide) rfl ?_
        refine gg_iincv (ls' := [(7, .int (iv 2)), (6, .int (iv (gJn q (gJn q 0 (D (j + 1))) (D (gPt Z j 1))))), (5, .int (iv (D (j + 1)))), (4, .int (iv 3)), (0, .ref (gad (gSS ad) 38)), (1, .ref (gad (gSS ad) a)), (2, .int (iv (j : Int))), (3, .int (iv (q : Int)))]) dX2_joinedParts_110 1 rfl rfl (by decide) rfl ?_
        refine gg_goto (tgt := 81) dX2_joinedParts_113 (by decide) ?_
        refine gg_iload dX2_joinedParts_81 0 rfl ?_
        refine gg_aload_n dX2_joinedParts_83 5 rfl ?_
        refine gg_iload_n dX2_joinedParts_84 6 rfl ?_
        refine gg_callVi (own := RX2) (yt := gm_X1_parts) rfl gl_RX2_59 gk_X1_parts gr_X1_parts dX2_joinedParts_85 (c_X1_parts (d := d - 1) hF hA hW.1 (j := j) (by omega) (by omega) hK) (gFsh hF) (gFlt hF) (by decide) rfl rfl rfl (Nat.le_of_ble_eq_true rfl) (by show _ ≤ d; omega) ⟨Nat.le_refl _, Nat.le_refl _⟩ (fun e60 μ' hc => ?_)
        obtain ⟨rfl, rfl⟩ := hc
        refine gg_toI (b := 2) (by rw [hk]; rfl) ?_
        refine gg_icmp_ge_t (tgt := 116) dX2_joinedParts_88 (by decide) (by decide) (by decide) ?_
        refine gg_iload dX2_joinedParts_116 1 rfl ?_
        refine gg_ireti dX2_joinedParts_118 rfl ⟨rfl, rfl⟩ ?_
        refine ⟨rfl, ?_⟩
        rw [hk]
        unfold gDj
        rw [if_neg (show ¬ (q = 4 ∧ 3 = 6) by omega), if_neg (show ¬ (q = 5 ∧ 3 = 7) by omega)]
        exact rfl
      · refine gg_iload dX2_joinedParts_63 1 rfl ?_
        refine gg_bipush dX2_joinedParts_65 (by decide) ?_
        refine gg_icmp_ne_t (tgt := 75) dX2_joinedParts_67 (by decide) (by decide) (by decide) ?_
        refine gg_iconst dX2_joinedParts_75 ?_
        refine gg_istore (ls' := [(6, .int (iv 0)), (5, .int (iv (D (j + 1)))), (4, .int (iv 3)), (0, .ref (gad (gSS ad) 38)), (1, .ref (gad (gSS ad) a)), (2, .int (iv (j : Int))), (3, .int (iv (q : Int)))]) dX2_joinedParts_76 (by decide) rfl ?_
        refine gg_iconst dX2_joinedParts_78 ?_
        refine gg_istore (ls' := [(7, .int (iv 0)), (6, .int (iv 0)), (5, .int (iv (D (j + 1)))), (4, .int (iv 3)), (0, .ref (gad (gSS ad) 38)), (1, .ref (gad (gSS ad) a)), (2, .int (iv (j : Int))), (3, .int (iv (q : Int)))]) dX2_joinedParts_79 (by decide) rfl ?_
        refine gg_iload dX2_joinedParts_81 0 rfl ?_
        refine gg_aload_n dX2_joinedParts_83 5 rfl ?_
        refine gg_iload_n dX2_joinedParts_84 6 rfl ?_
        refine gg_callVi (own := RX2) (yt := gm_X1_parts) rfl gl_RX2_59 gk_X1_parts gr_X1_parts dX2_joinedParts_85 (c_X1_parts (d := d - 1) hF hA hW.1 (j := j) (by omega) (by omega) hK) (gFsh hF) (gFlt hF) (by decide) rfl rfl rfl (Nat.le_of_ble_eq_true rfl) (by show _ ≤ d; omega) ⟨Nat.le_refl _, Nat.le_refl _⟩ (fun e61 μ' hc => ?_)
        obtain ⟨rfl, rfl⟩ := hc
        refine gg_toI (b := 2) (by rw [hk]; rfl) ?_
        refine gg_icmp_ge_f (tgt := 116) dX2_joinedParts_88 (by decide) (by decide) (by decide) ?_
        refine gg_iload_n dX2_joinedParts_91 7 rfl ?_
        refine gg_iload dX2_joinedParts_92 1 rfl ?_
        refine gg_aload_n dX2_joinedParts_94 4 rfl ?_
        refine gg_aload_n dX2_joinedParts_95 5 rfl ?_
        refine gg_iload_n dX2_joinedParts_96 6 rfl ?_
        refine gg_iload dX2_joinedParts_97 0 rfl ?_
        refine gg_callVi (own := RX2) (yt := gm_X1_part) rfl gl_RX2_52 gk_X1_part gr_X1_part dX2_joinedParts_99 (c_X1_part0 (d := d - 1) hF hA hW.1 (j := j) hj (by omega)) (gFsh hF) (gFlt hF) (by decide) rfl rfl rfl (Nat.le_of_ble_eq_true rfl) (by show _ ≤ d; omega) ⟨Nat.le_refl _, Nat.le_refl _⟩ (fun e62 μ' hc => ?_)
        obtain ⟨rfl, rfl⟩ := hc
        refine gg_callVi (own := RX2) (yt := gm_X2_toldOf) rfl gl_RX2_49 gk_X2_toldOf gr_X2_toldOf dX2_joinedParts_102 (c_X2_toldOf (d := d - 1) (k := j + 1) (by have := (hc1 (by rw [hk]; decide)); omega)) sh_38 pl_38 (by decide) rfl rfl rfl (Nat.le_of_ble_eq_true rfl) (by show _ ≤ d; omega) ⟨Nat.le_refl _, Nat.le_refl _⟩ (fun e63 μ' hc => ?_)
        obtain ⟨rfl, rfl⟩ := hc
        refine gg_toI (b := D (j + 1)) (by have hlt : j + 1 < n := (hc1 (by rw [hk]; decide)); rw [if_pos (show j + 1 < 200 by omega)]; exact ht _ (by omega) hlt) ?_
        refine gg_callSi (own := RX2) (yt := gm_X2_join) rfl gl_RX2_55 gk_X2_join gr_X2_join dX2_joinedParts_105 (c_X2_join (d := d - 1) (q := q) hq (by first | omega | (have := @gJn_rng q 0 (D (j + 1)) 0 9999 (by omega) (by omega); have := @gJn_rng q (gJn q 0 (D (j + 1))) (D (gPt Z j 1)) 9999 9999 (by omega) (by omega); omega) | (have := @gJn_rng q 0 (D (j + 1)) 0 9999 (by omega) (by omega); omega)) (by omega) (by omega)) rfl rfl (Nat.le_of_ble_eq_true rfl) (by show _ ≤ d; omega) ⟨Nat.le_refl _, Nat.le_refl _⟩ (fun e64 μ' hc => ?_)
        obtain ⟨rfl, rfl⟩ := hc
        refine gg_istore (ls' := [(6, .int (iv (gJn q 0 (D (j + 1))))), (7, .int (iv 0)), (5, .int (iv (D (j + 1)))), (4, .int (iv 3)), (0, .ref (gad (gSS ad) 38)), (1, .ref (gad (gSS ad) a)), (2, .int (iv (j : Int))), (3, .int (iv (q : Int)))]) dX2_joinedParts_108 (by decide) rfl ?_
        refine gg_iincv (ls' := [(7, .int (iv 1)), (6, .int (iv (gJn q 0 (D (j + 1))))), (5, .int (iv (D (j + 1)))), (4, .int (iv 3)), (0, .ref (gad (gSS ad) 38)), (1, .ref (gad (gSS ad) a)), (2, .int (iv (j : Int))), (3, .int (iv (q : Int)))]) dX2_joinedParts_110 1 rfl rfl (by decide) rfl ?_
        refine gg_goto (tgt := 81) dX2_joinedParts_113 (by decide) ?_
        refine gg_iload dX2_joinedParts_81 0 rfl ?_
        refine gg_aload_n dX2_joinedParts_83 5 rfl ?_
        refine gg_iload_n dX2_joinedParts_84 6 rfl ?_
        refine gg_callVi (own := RX2) (yt := gm_X1_parts) rfl gl_RX2_59 gk_X1_parts gr_X1_parts dX2_joinedParts_85 (c_X1_parts (d := d - 1) hF hA hW.1 (j := j) (by omega) (by omega) hK) (gFsh hF) (gFlt hF) (by decide) rfl rfl rfl (Nat.le_of_ble_eq_true rfl) (by show _ ≤ d; omega) ⟨Nat.le_refl _, Nat.le_refl _⟩ (fun e65 μ' hc => ?_)
        obtain ⟨rfl, rfl⟩ := hc
        refine gg_toI (b := 2) (by rw [hk]; rfl) ?_
        refine gg_icmp_ge_f (tgt := 116) dX2_joinedParts_88 (by decide) (by decide) (by decide) ?_
        refine gg_iload_n dX2_joinedParts_91 7 rfl ?_
        refine gg_iload dX2_joinedParts_92 1 rfl ?_
        refine gg_aload_n dX2_joinedParts_94 4 rfl ?_
        refine gg_aload_n dX2_joinedParts_95 5 rfl ?_
        refine gg_iload_n dX2_joinedParts_96 6 rfl ?_
        refine gg_iload dX2_joinedParts_97 0 rfl ?_
        refine gg_callVi (own := RX2) (yt := gm_X1_part) rfl gl_RX2_52 gk_X1_part gr_X1_part dX2_joinedParts_99 (c_X1_part1 (d := d - 1) hF hA hW.1 (j := j) (hc1 (by rw [hk]; decide)) hj (by omega)) (gFsh hF) (gFlt hF) (by decide) rfl rfl rfl (Nat.le_of_ble_eq_true rfl) (by show _ ≤ d; omega) ⟨Nat.le_refl _, Nat.le_refl _⟩ (fun e66 μ' hc => ?_)
        obtain ⟨rfl, rfl⟩ := hc
        refine gg_callVi (own := RX2) (yt := gm_X2_toldOf) rfl gl_RX2_49 gk_X2_toldOf gr_X2_toldOf dX2_joinedParts_102 (c_X2_toldOf (d := d - 1) (k := gPt Z j 1) (by have := (hc2 (by rw [hk]; decide)); omega)) sh_38 pl_38 (by decide) rfl rfl rfl (Nat.le_of_ble_eq_true rfl) (by show _ ≤ d; omega) ⟨Nat.le_refl _, Nat.le_refl _⟩ (fun e67 μ' hc => ?_)
        obtain ⟨rfl, rfl⟩ := hc
        refine gg_toI (b := D (gPt Z j 1)) (by have hlt : gPt Z j 1 < n := (hc2 (by rw [hk]; decide)); rw [if_pos (show gPt Z j 1 < 200 by omega)]; exact ht _ (by simp only [gPt]; omega) hlt) ?_
        refine gg_callSi (own := RX2) (yt := gm_X2_join) rfl gl_RX2_55 gk_X2_join gr_X2_join dX2_joinedParts_105 (c_X2_join (d := d - 1) (q := q) hq (by first | omega | (have := @gJn_rng q 0 (D (j + 1)) 0 9999 (by omega) (by omega); have := @gJn_rng q (gJn q 0 (D (j + 1))) (D (gPt Z j 1)) 9999 9999 (by omega) (by omega); omega) | (have := @gJn_rng q 0 (D (j + 1)) 0 9999 (by omega) (by omega); omega)) (by omega) (by omega)) rfl rfl (Nat.le_of_ble_eq_true rfl) (by show _ ≤ d; omega) ⟨Nat.le_refl _, Nat.le_refl _⟩ (fun e68 μ' hc => ?_)
        obtain ⟨rfl, rfl⟩ := hc
        refine gg_istore (ls' := [(6, .int (iv (gJn q (gJn q 0 (D (j + 1))) (D (gPt Z j 1))))), (7, .int (iv 1)), (5, .int (iv (D (j + 1)))), (4, .int (iv 3)), (0, .ref (gad (gSS ad) 38)), (1, .ref (gad (gSS ad) a)), (2, .int (iv (j : Int))), (3, .int (iv (q : Int)))]) dX2_joinedParts_108 (by decide) rfl ?_
        refine gg_iincv (ls' := [(7, .int (iv 2)), (6, .int (iv (gJn q (gJn q 0 (D (j + 1))) (D (gPt Z j 1))))), (5, .int (iv (D (j + 1)))), (4, .int (iv 3)), (0, .ref (gad (gSS ad) 38)), (1, .ref (gad (gSS ad) a)), (2, .int (iv (j : Int))), (3, .int (iv (q : Int)))]) dX2_joinedParts_110 1 rfl rfl (by decide) rfl ?_
        refine gg_goto (tgt := 81) dX2_joinedParts_113 (by decide) ?_
        refine gg_iload dX2_joinedParts_81 0 rfl ?_
        refine gg_aload_n dX2_joinedParts_83 5 rfl ?_
        refine gg_iload_n dX2_joinedParts_84 6 rfl ?_
        refine gg_callVi (own := RX2) (yt := gm_X1_parts) rfl gl_RX2_59 gk_X1_parts gr_X1_parts dX2_joinedParts_85 (c_X1_parts (d := d - 1) hF hA hW.1 (j := j) (by omega) (by omega) hK) (gFsh hF) (gFlt hF) (by decide) rfl rfl rfl (Nat.le_of_ble_eq_true rfl) (by show _ ≤ d; omega) ⟨Nat.le_refl _, Nat.le_refl _⟩ (fun e69 μ' hc => ?_)
        obtain ⟨rfl, rfl⟩ := hc
        refine gg_toI (b := 2) (by rw [hk]; rfl) ?_
        refine gg_icmp_ge_t (tgt := 116) dX2_joinedParts_88 (by decide) (by decide) (by decide) ?_
        refine gg_iload dX2_joinedParts_116 1 rfl ?_
        refine gg_ireti dX2_joinedParts_118 rfl ⟨rfl, rfl⟩ ?_
        refine ⟨rfl, ?_⟩
        rw [hk]
        unfold gDj
        rw [if_neg (show ¬ (q = 4 ∧ 3 = 6) by omega), if_neg (show ¬ (q = 5 ∧ 3 = 7) by omega)]
        exact rfl
  · refine gg_toI (b := 4) (by omega) ?_
    refine gg_istore (ls' := [(4, .int (iv 4)), (0, .ref (gad (gSS ad) 38)), (1, .ref (gad (gSS ad) a)), (2, .int (iv (j : Int))), (3, .int (iv (q : Int)))]) dX2_joinedParts_5 (by decide) rfl ?_
    have g1 := r1 (by rw [hk]; decide)
    have g2 := r2 (by rw [hk]; decide)
    refine gg_aload_n dX2_joinedParts_7 1 rfl ?_
    refine gg_iload_n dX2_joinedParts_8 3 rfl ?_
    refine gg_iconst dX2_joinedParts_9 ?_
    refine gg_iadd dX2_joinedParts_10 ?_
    refine gg_callVi (own := RX2) (yt := gm_X2_toldOf) rfl gl_RX2_49 gk_X2_toldOf gr_X2_toldOf dX2_joinedParts_11 (c_X2_toldOf (d := d - 1) (k := j + 1) (by have := (hc1 (by rw [hk]; decide)); omega)) sh_38 pl_38 (by decide) rfl rfl rfl (Nat.le_of_ble_eq_true rfl) (by show _ ≤ d; omega) ⟨Nat.le_refl _, Nat.le_refl _⟩ (fun e70 μ' hc => ?_)
    obtain ⟨rfl, rfl⟩ := hc
    refine gg_toI (b := D (j + 1)) (by have hlt : j + 1 < n := (hc1 (by rw [hk]; decide)); rw [if_pos (show j + 1 < 200 by omega)]; exact ht _ (by omega) hlt) ?_
    refine gg_istore (ls' := [(5, .int (iv (D (j + 1)))), (4, .int (iv 4)), (0, .ref (gad (gSS ad) 38)), (1, .ref (gad (gSS ad) a)), (2, .int (iv (j : Int))), (3, .int (iv (q : Int)))]) dX2_joinedParts_14 (by decide) rfl ?_
    refine gg_iload_n dX2_joinedParts_16 5 rfl ?_
    refine gg_iconst dX2_joinedParts_17 ?_
    refine gg_icmp_ne (tgt := 58) dX2_joinedParts_18 (by decide) (by omega) (fun hq4 => ?_) (fun hq4 => ?_)
    · refine gg_iload_n dX2_joinedParts_58 5 rfl ?_
      refine gg_iconst dX2_joinedParts_59 ?_
      refine gg_icmp_ne (tgt := 75) dX2_joinedParts_60 (by decide) (by omega) (fun hq5 => ?_) (fun hq5 => ?_)
      · refine gg_iconst dX2_joinedParts_75 ?_
        refine gg_istore (ls' := [(6, .int (iv 0)), (5, .int (iv (D (j + 1)))), (4, .int (iv 4)), (0, .ref (gad (gSS ad) 38)), (1, .ref (gad (gSS ad) a)), (2, .int (iv (j : Int))), (3, .int (iv (q : Int)))]) dX2_joinedParts_76 (by decide) rfl ?_
        refine gg_iconst dX2_joinedParts_78 ?_
        refine gg_istore (ls' := [(7, .int (iv 0)), (6, .int (iv 0)), (5, .int (iv (D (j + 1)))), (4, .int (iv 4)), (0, .ref (gad (gSS ad) 38)), (1, .ref (gad (gSS ad) a)), (2, .int (iv (j : Int))), (3, .int (iv (q : Int)))]) dX2_joinedParts_79 (by decide) rfl ?_
        refine gg_iload dX2_joinedParts_81 0 rfl ?_
        refine gg_aload_n dX2_joinedParts_83 5 rfl ?_
        refine gg_iload_n dX2_joinedParts_84 6 rfl ?_
        refine gg_callVi (own := RX2) (yt := gm_X1_parts) rfl gl_RX2_59 gk_X1_parts gr_X1_parts dX2_joinedParts_85 (c_X1_parts (d := d - 1) hF hA hW.1 (j := j) (by omega) (by omega) hK) (gFsh hF) (gFlt hF) (by decide) rfl rfl rfl (Nat.le_of_ble_eq_true rfl) (by show _ ≤ d; omega) ⟨Nat.le_refl _, Nat.le_refl _⟩ (fun e71 μ' hc => ?_)
        obtain ⟨rfl, rfl⟩ := hc
        refine gg_toI (b := 2) (by rw [hk]; rfl) ?_
        refine gg_icmp_ge_f (tgt := 116) dX2_joinedParts_88 (by decide) (by decide) (by decide) ?_
        refine gg_iload_n dX2_joinedParts_91 7 rfl ?_
        refine gg_iload dX2_joinedParts_92 1 rfl ?_
        refine gg_aload_n dX2_joinedParts_94 4 rfl ?_
        refine gg_aload_n dX2_joinedParts_95 5 rfl ?_
        refine gg_iload_n dX2_joinedParts_96 6 rfl ?_
        refine gg_iload dX2_joinedParts_97 0 rfl ?_
        refine gg_callVi (own := RX2) (yt := gm_X1_part) rfl gl_RX2_52 gk_X1_part gr_X1_part dX2_joinedParts_99 (c_X1_part0 (d := d - 1) hF hA hW.1 (j := j) hj (by omega)) (gFsh hF) (gFlt hF) (by decide) rfl rfl rfl (Nat.le_of_ble_eq_true rfl) (by show _ ≤ d; omega) ⟨Nat.le_refl _, Nat.le_refl _⟩ (fun e72 μ' hc => ?_)
        obtain ⟨rfl, rfl⟩ := hc
        refine gg_callVi (own := RX2) (yt := gm_X2_toldOf) rfl gl_RX2_49 gk_X2_toldOf gr_X2_toldOf dX2_joinedParts_102 (c_X2_toldOf (d := d - 1) (k := j + 1) (by have := (hc1 (by rw [hk]; decide)); omega)) sh_38 pl_38 (by decide) rfl rfl rfl (Nat.le_of_ble_eq_true rfl) (by show _ ≤ d; omega) ⟨Nat.le_refl _, Nat.le_refl _⟩ (fun e73 μ' hc => ?_)
        obtain ⟨rfl, rfl⟩ := hc
        refine gg_toI (b := D (j + 1)) (by have hlt : j + 1 < n := (hc1 (by rw [hk]; decide)); rw [if_pos (show j + 1 < 200 by omega)]; exact ht _ (by omega) hlt) ?_
        refine gg_callSi (own := RX2) (yt := gm_X2_join) rfl gl_RX2_55 gk_X2_join gr_X2_join dX2_joinedParts_105 (c_X2_join (d := d - 1) (q := q) hq (by first | omega | (have := @gJn_rng q 0 (D (j + 1)) 0 9999 (by omega) (by omega); have := @gJn_rng q (gJn q 0 (D (j + 1))) (D (gPt Z j 1)) 9999 9999 (by omega) (by omega); omega) | (have := @gJn_rng q 0 (D (j + 1)) 0 9999 (by omega) (by omega); omega)) (by omega) (by omega)) rfl rfl (Nat.le_of_ble_eq_true rfl) (by show _ ≤ d; omega) ⟨Nat.le_refl _, Nat.le_refl _⟩ (fun e74 μ' hc => ?_)
        obtain ⟨rfl, rfl⟩ := hc
        refine gg_istore (ls' := [(6, .int (iv (gJn q 0 (D (j + 1))))), (7, .int (iv 0)), (5, .int (iv (D (j + 1)))), (4, .int (iv 4)), (0, .ref (gad (gSS ad) 38)), (1, .ref (gad (gSS ad) a)), (2, .int (iv (j : Int))), (3, .int (iv (q : Int)))]) dX2_joinedParts_108 (by decide) rfl ?_
        refine gg_iincv (ls' := [(7, .int (iv 1)), (6, .int (iv (gJn q 0 (D (j + 1))))), (5, .int (iv (D (j + 1)))), (4, .int (iv 4)), (0, .ref (gad (gSS ad) 38)), (1, .ref (gad (gSS ad) a)), (2, .int (iv (j : Int))), (3, .int (iv (q : Int)))]) dX2_joinedParts_110 1 rfl rfl (by decide) rfl ?_
        refine gg_goto (tgt := 81) dX2_joinedParts_113 (by decide) ?_
        refine gg_iload dX2_joinedParts_81 0 rfl ?_
        refine gg_aload_n dX2_joinedParts_83 5 rfl ?_
        refine gg_iload_n dX2_joinedParts_84 6 rfl ?_
        refine gg_callVi (own := RX2) (yt := gm_X1_parts) rfl gl_RX2_59 gk_X1_parts gr_X1_parts dX2_joinedParts_85 (c_X1_parts (d := d - 1) hF hA hW.1 (j := j) (by omega) (by omega) hK) (gFsh hF) (gFlt hF) (by decide) rfl rfl rfl (Nat.le_of_ble_eq_true rfl) (by show _ ≤ d; omega) ⟨Nat.le_refl _, Nat.le_refl _⟩ (fun e75 μ' hc => ?_)
        obtain ⟨rfl, rfl⟩ := hc
        refine gg_toI (b := 2) (by rw [hk]; rfl) ?_
        refine gg_icmp_ge_f (tgt := 116) dX2_joinedParts_88 (by decide) (by decide) (by decide) ?_
        refine gg_iload_n dX2_joinedParts_91 7 rfl ?_
        refine gg_iload dX2_joinedParts_92 1 rfl ?_
        refine gg_aload_n dX2_joinedParts_94 4 rfl ?_
        refine gg_aload_n dX2_joinedParts_95 5 rfl ?_
        refine gg_iload_n dX2_joinedParts_96 6 rfl ?_
        refine gg_iload dX2_joinedParts_97 0 rfl ?_
        refine gg_callVi (own := RX2) (yt := gm_X1_part) rfl gl_RX2_52 gk_X1_part gr_X1_part dX2_joinedParts_99 (c_X1_part1 (d := d - 1) hF hA hW.1 (j := j) (hc1 (by rw [hk]; decide)) hj (by omega)) (gFsh hF) (gFlt hF) (by decide) rfl rfl rfl (Nat.le_of_ble_eq_true rfl) (by show _ ≤ d; omega) ⟨Nat.le_refl _, Nat.le_refl _⟩ (fun e76 μ' hc => ?_)
        obtain ⟨rfl, rfl⟩ := hc
        refine gg_callVi (own := RX2) (yt := gm_X2_toldOf) rfl gl_RX2_49 gk_X2_toldOf gr_X2_toldOf dX2_joinedParts_102 (c_X2_toldOf (d := d - 1) (k := gPt Z j 1) (by have := (hc2 (by rw [hk]; decide)); omega)) sh_38 pl_38 (by decide) rfl rfl rfl (Nat.le_of_ble_eq_true rfl) (by show _ ≤ d; omega) ⟨Nat.le_refl _, Nat.le_refl _⟩ (fun e77 μ' hc => ?_)
        obtain ⟨rfl, rfl⟩ := hc
        refine gg_toI (b := D (gPt Z j 1)) (by have hlt : gPt Z j 1 < n := (hc2 (by rw [hk]; decide)); rw [if_pos (show gPt Z j 1 < 200 by omega)]; exact ht _ (by simp only [gPt]; omega) hlt) ?_
        refine gg_callSi (own := RX2) (yt := gm_X2_join) rfl gl_RX2_55 gk_X2_join gr_X2_join dX2_joinedParts_105 (c_X2_join (d := d - 1) (q := q) hq (by first | omega | (have := @gJn_rng q 0 (D (j + 1)) 0 9999 (by omega) (by omega); have := @gJn_rng q (gJn q 0 (D (j + 1))) (D (gPt Z j 1)) 9999 9999 (by omega) (by omega); omega) | (have := @gJn_rng q 0 (D (j + 1)) 0 9999 (by omega) (by omega); omega)) (by omega) (by omega)) rfl rfl (Nat.le_of_ble_eq_true rfl) (by show _ ≤ d; omega) ⟨Nat.le_refl _, Nat.le_refl _⟩ (fun e78 μ' hc => ?_)
        obtain ⟨rfl, rfl⟩ := hc
        refine gg_istore (ls' := [(6, .int (iv (gJn q (gJn q 0 (D (j + 1))) (D (gPt Z j 1))))), (7, .int (iv 1)), (5, .int (iv (D (j + 1)))), (4, .int (iv 4)), (0, .ref (gad (gSS ad) 38)), (1, .ref (gad (gSS ad) a)), (2, .int (iv (j : Int))), (3, .int (iv (q : Int)))]) dX2_joinedParts_108 (by decide) rfl ?_
        refine gg_iincv (ls' := [(7, .int (iv 2)), (6, .int (iv (gJn q (gJn q 0 (D (j + 1))) (D (gPt Z j 1))))), (5, .int (iv (D (j + 1)))), (4, .int (iv 4)), (0, .ref (gad (gSS ad) 38)), (1, .ref (gad (gSS ad) a)), (2, .int (iv (j : Int))), (3, .int (iv (q : Int)))]) dX2_joinedParts_110 1 rfl rfl (by decide) rfl ?_
        refine gg_goto (tgt := 81) dX2_joinedParts_113 (by decide) ?_
        refine gg_iload dX2_joinedParts_81 0 rfl ?_
        refine gg_aload_n dX2_joinedParts_83 5 rfl ?_
        refine gg_iload_n dX2_joinedParts_84 6 rfl ?_
        refine gg_callVi (own := RX2) (yt := gm_X1_parts) rfl gl_RX2_59 gk_X1_parts gr_X1_parts dX2_joinedParts_85 (c_X1_parts (d := d - 1) hF hA hW.1 (j := j) (by omega) (by omega) hK) (gFsh hF) (gFlt hF) (by decide) rfl rfl rfl (Nat.le_of_ble_eq_true rfl) (by show _ ≤ d; omega) ⟨Nat.le_refl _, Nat.le_refl _⟩ (fun e79 μ' hc => ?_)
        obtain ⟨rfl, rfl⟩ := hc
        refine gg_toI (b := 2) (by rw [hk]; rfl) ?_
        refine gg_icmp_ge_t (tgt := 116) dX2_joinedParts_88 (by decide) (by decide) (by decide) ?_
        refine gg_iload dX2_joinedParts_116 1 rfl ?_
        refine gg_ireti dX2_joinedParts_118 rfl ⟨rfl, rfl⟩ ?_
        refine ⟨rfl, ?_⟩
        rw [hk]
        unfold gDj
        rw [if_neg (show ¬ (q = 4 ∧ 4 = 6) by omega), if_neg (show ¬ (q = 5 ∧ 4 = 7) by omega)]
        exact rfl
      · refine gg_iload dX2_joinedParts_63 1 rfl ?_
        refine gg_bipush dX2_joinedParts_65 (by decide) ?_
        refine gg_icmp_ne_t (tgt := 75) dX2_joinedParts_67 (by decide) (by decide) (by decide) ?_
        refine gg_iconst dX2_joinedParts_75 ?_
        refine gg_istore (ls' := [(6, .int (iv 0)), (5, .int (iv (D (j + 1)))), (4, .int (iv 4)), (0, .ref (gad (gSS ad) 38)), (1, .ref (gad (gSS ad) a)), (2, .int (iv (j : Int))), (3, .int (iv (q : Int)))]) dX2_joinedParts_76 (by decide) rfl ?_
        refine gg_iconst dX2_joinedParts_78 ?_
        refine gg_istore (ls' := [(7, .int (iv 0)), (6, .int (iv 0)), (5, .int (iv (D (j + 1)))), (4, .int (iv 4)), (0, .ref (gad (gSS ad) 38)), (1, .ref (gad (gSS ad) a)), (2, .int (iv (j : Int))), (3, .int (iv (q : Int)))]) dX2_joinedParts_79 (by decide) rfl ?_
        refine gg_iload dX2_joinedParts_81 0 rfl ?_
        refine gg_aload_n dX2_joinedParts_83 5 rfl ?_
        refine gg_iload_n dX2_joinedParts_84 6 rfl ?_
        refine gg_callVi (own := RX2) (yt := gm_X1_parts) rfl gl_RX2_59 gk_X1_parts gr_X1_parts dX2_joinedParts_85 (c_X1_parts (d := d - 1) hF hA hW.1 (j := j) (by omega) (by omega) hK) (gFsh hF) (gFlt hF) (by decide) rfl rfl rfl (Nat.le_of_ble_eq_true rfl) (by show _ ≤ d; omega) ⟨Nat.le_refl _, Nat.le_refl _⟩ (fun e80 μ' hc => ?_)
        obtain ⟨rfl, rfl⟩ := hc
        refine gg_toI (b := 2) (by rw [hk]; rfl) ?_
        refine gg_icmp_ge_f (tgt := 116) dX2_joinedParts_88 (by decide) (by decide) (by decide) ?_
        refine gg_iload_n dX2_joinedParts_91 7 rfl ?_
        refine gg_iload dX2_joinedParts_92 1 rfl ?_
        refine gg_aload_n dX2_joinedParts_94 4 rfl ?_
        refine gg_aload_n dX2_joinedParts_95 5 rfl ?_
        refine gg_iload_n dX2_joinedParts_96 6 rfl ?_
        refine gg_iload dX2_joinedParts_97 0 rfl ?_
        refine gg_callVi (own := RX2) (yt := gm_X1_part) rfl gl_RX2_52 gk_X1_part gr_X1_part dX2_joinedParts_99 (c_X1_part0 (d := d - 1) hF hA hW.1 (j := j) hj (by omega)) (gFsh hF) (gFlt hF) (by decide) rfl rfl rfl (Nat.le_of_ble_eq_true rfl) (by show _ ≤ d; omega) ⟨Nat.le_refl _, Nat.le_refl _⟩ (fun e81 μ' hc => ?_)
        obtain ⟨rfl, rfl⟩ := hc
        refine gg_callVi (own := RX2) (yt := gm_X2_toldOf) rfl gl_RX2_49 gk_X2_toldOf gr_X2_toldOf dX2_joinedParts_102 (c_X2_toldOf (d := d - 1) (k := j + 1) (by have := (hc1 (by rw [hk]; decide)); omega)) sh_38 pl_38 (by decide) rfl rfl rfl (Nat.le_of_ble_eq_true rfl) (by show _ ≤ d; omega) ⟨Nat.le_refl _, Nat.le_refl _⟩ (fun e82 μ' hc => ?_)
        obtain ⟨rfl, rfl⟩ := hc
        refine gg_toI (b := D (j + 1)) (by have hlt : j + 1 < n := (hc1 (by rw [hk]; decide)); rw [if_pos (show j + 1 < 200 by omega)]; exact ht _ (by omega) hlt) ?_
        refine gg_callSi (own := RX2) (yt := gm_X2_join) rfl gl_RX2_55 gk_X2_join gr_X2_join dX2_joinedParts_105 (c_X2_join (d := d - 1) (q := q) hq (by first | omega | (have := @gJn_rng q 0 (D (j + 1)) 0 9999 (by omega) (by omega); have := @gJn_rng q (gJn q 0 (D (j + 1))) (D (gPt Z j 1)) 9999 9999 (by omega) (by omega); omega) | (have := @gJn_rng q 0 (D (j + 1)) 0 9999 (by omega) (by omega); omega)) (by omega) (by omega)) rfl rfl (Nat.le_of_ble_eq_true rfl) (by show _ ≤ d; omega) ⟨Nat.le_refl _, Nat.le_refl _⟩ (fun e83 μ' hc => ?_)
        obtain ⟨rfl, rfl⟩ := hc
        refine gg_istore (ls' := [(6, .int (iv (gJn q 0 (D (j + 1))))), (7, .int (iv 0)), (5, .int (iv (D (j + 1)))), (4, .int (iv 4)), (0, .ref (gad (gSS ad) 38)), (1, .ref (gad (gSS ad) a)), (2, .int (iv (j : Int))), (3, .int (iv (q : Int)))]) dX2_joinedParts_108 (by decide) rfl ?_
        refine gg_iincv (ls' := [(7, .int (iv 1)), (6, .int (iv (gJn q 0 (D (j + 1))))), (5, .int (iv (D (j + 1)))), (4, .int (iv 4)), (0, .ref (gad (gSS ad) 38)), (1, .ref (gad (gSS ad) a)), (2, .int (iv (j : Int))), (3, .int (iv (q : Int)))]) dX2_joinedParts_110 1 rfl rfl (by decide) rfl ?_
        refine gg_goto (tgt := 81) dX2_joinedParts_113 (by decide) ?_
        refine gg_iload dX2_joinedParts_81 0 rfl ?_
        refine gg_aload_n dX2_joinedParts_83 5 rfl ?_
        refine gg_iload_n dX2_joinedParts_84 6 rfl ?_
        refine gg_callVi (own := RX2) (yt := gm_X1_parts) rfl gl_RX2_59 gk_X1_parts gr_X1_parts dX2_joinedParts_85 (c_X1_parts (d := d - 1) hF hA hW.1 (j := j) (by omega) (by omega) hK) (gFsh hF) (gFlt hF) (by decide) rfl rfl rfl (Nat.le_of_ble_eq_true rfl) (by show _ ≤ d; omega) ⟨Nat.le_refl _, Nat.le_refl _⟩ (fun e84 μ' hc => ?_)
        obtain ⟨rfl, rfl⟩ := hc
        refine gg_toI (b := 2) (by rw [hk]; rfl) ?_
        refine gg_icmp_ge_f (tgt := 116) dX2_joinedParts_88 (by decide) (by decide) (by decide) ?_
        refine gg_iload_n dX2_joinedParts_91 7 rfl ?_
        refine gg_iload dX2_joinedParts_92 1 rfl ?_
        refine gg_aload_n dX2_joinedParts_94 4 rfl ?_
        refine gg_aload_n dX2_joinedParts_95 5 rfl ?_
        refine gg_iload_n dX2_joinedParts_96 6 rfl ?_
        refine gg_iload dX2_joinedParts_97 0 rfl ?_
        refine gg_callVi (own := RX2) (yt := gm_X1_part) rfl gl_RX2_52 gk_X1_part gr_X1_part dX2_joinedParts_99 (c_X1_part1 (d := d - 1) hF hA hW.1 (j := j) (hc1 (by rw [hk]; decide)) hj (by omega)) (gFsh hF) (gFlt hF) (by decide) rfl rfl rfl (Nat.le_of_ble_eq_true rfl) (by show _ ≤ d; omega) ⟨Nat.le_refl _, Nat.le_refl _⟩ (fun e85 μ' hc => ?_)
        obtain ⟨rfl, rfl⟩ := hc
        refine gg_callVi (own := RX2) (yt := gm_X2_toldOf) rfl gl_RX2_49 gk_X2_toldOf gr_X2_toldOf dX2_joinedParts_102 (c_X2_toldOf (d := d - 1) (k := gPt Z j 1) (by have := (hc2 (by rw [hk]; decide)); omega)) sh_38 pl_38 (by decide) rfl rfl rfl (Nat.le_of_ble_eq_true rfl) (by show _ ≤ d; omega) ⟨Nat.le_refl _, Nat.le_refl _⟩ (fun e86 μ' hc => ?_)
        obtain ⟨rfl, rfl⟩ := hc
        refine gg_toI (b := D (gPt Z j 1)) (by have hlt : gPt Z j 1 < n := (hc2 (by rw [hk]; decide)); rw [if_pos (show gPt Z j 1 < 200 by omega)]; exact ht _ (by simp only [gPt]; omega) hlt) ?_
        refine gg_callSi (own := RX2) (yt := gm_X2_join) rfl gl_RX2_55 gk_X2_join gr_X2_join dX2_joinedParts_105 (c_X2_join (d := d - 1) (q := q) hq (by first | omega | (have := @gJn_rng q 0 (D (j + 1)) 0 9999 (by omega) (by omega); have := @gJn_rng q (gJn q 0 (D (j + 1))) (D (gPt Z j 1)) 9999 9999 (by omega) (by omega); omega) | (have := @gJn_rng q 0 (D (j + 1)) 0 9999 (by omega) (by omega); omega)) (by omega) (by omega)) rfl rfl (Nat.le_of_ble_eq_true rfl) (by show _ ≤ d; omega) ⟨Nat.le_refl _, Nat.le_refl _⟩ (fun e87 μ' hc => ?_)
        obtain ⟨rfl, rfl⟩ := hc
        refine gg_istore (ls' := [(6, .int (iv (gJn q (gJn q 0 (D (j + 1))) (D (gPt Z j 1))))), (7, .int (iv 1)), (5, .int (iv (D (j + 1)))), (4, .int (iv 4)), (0, .ref (gad (gSS ad) 38)), (1, .ref (gad (gSS ad) a)), (2, .int (iv (j : Int))), (3, .int (iv (q : Int)))]) dX2_joinedParts_108 (by decide) rfl ?_
        refine gg_iincv (ls' := [(7, .int (iv 2)), (6, .int (iv (gJn q (gJn q 0 (D (j + 1))) (D (gPt Z j 1))))), (5, .int (iv (D (j + 1)))), (4, .int (iv 4)), (0, .ref (gad (gSS ad) 38)), (1, .ref (gad (gSS ad) a)), (2, .int (iv (j : Int))), (3, .int (iv (q : Int)))]) dX2_joinedParts_110 1 rfl rfl (by decide) rfl ?_
        refine gg_goto (tgt := 81) dX2_joinedParts_113 (by decide) ?_
        refine gg_iload dX2_joinedParts_81 0 rfl ?_
        refine gg_aload_n dX2_joinedParts_83 5 rfl ?_
        refine gg_iload_n dX2_joinedParts_84 6 rfl ?_
        refine gg_callVi (own := RX2) (yt := gm_X1_parts) rfl gl_RX2_59 gk_X1_parts gr_X1_parts dX2_joinedParts_85 (c_X1_parts (d := d - 1) hF hA hW.1 (j := j) (by omega) (by omega) hK) (gFsh hF) (gFlt hF) (by decide) rfl rfl rfl (Nat.le_of_ble_eq_true rfl) (by show _ ≤ d; omega) ⟨Nat.le_refl _, Nat.le_refl _⟩ (fun e88 μ' hc => ?_)
        obtain ⟨rfl, rfl⟩ := hc
        refine gg_toI (b := 2) (by rw [hk]; rfl) ?_
        refine gg_icmp_ge_t (tgt := 116) dX2_joinedParts_88 (by decide) (by decide) (by decide) ?_
        refine gg_iload dX2_joinedParts_116 1 rfl ?_
        refine gg_ireti dX2_joinedParts_118 rfl ⟨rfl, rfl⟩ ?_
        refine ⟨rfl, ?_⟩
        rw [hk]
        unfold gDj
        rw [if_neg (show ¬ (q = 4 ∧ 4 = 6) by omega), if_neg (show ¬ (q = 5 ∧ 4 = 7) by omega)]
        exact rfl
    · refine gg_iload dX2_joinedParts_21 1 rfl ?_
      refine gg_bipush dX2_joinedParts_23 (by decide) ?_
      refine gg_icmp_ne_t (tgt := 58) dX2_joinedParts_25 (by decide) (by decide) (by decide) ?_
      refine gg_iload_n dX2_joinedParts_58 5 rfl ?_
      refine gg_iconst dX2_joinedParts_59 ?_
      refine gg_icmp_ne (tgt := 75) dX2_joinedParts_60 (by decide) (by omega) (fun hq5 => ?_) (fun hq5 => ?_)
      · refine gg_iconst dX2_joinedParts_75 ?_
        refine gg_istore (ls' := [(6, .int (iv 0)), (5, .int (iv (D (j + 1)))), (4, .int (iv 4)), (0, .ref (gad (gSS ad) 38)), (1, .ref (gad (gSS ad) a)), (2, .int (iv (j : Int))), (3, .int (iv (q : Int)))]) dX2_joinedParts_76 (by decide) rfl ?_
        refine gg_iconst dX2_joinedParts_78 ?_
        refine gg_istore (ls' := [(7, .int (iv 0)), (6, .int (iv 0)), (5, .int (iv (D (j + 1)))), (4, .int (iv 4)), (0, .ref (gad (gSS ad) 38)), (1, .ref (gad (gSS ad) a)), (2, .int (iv (j : Int))), (3, .int (iv (q : Int)))]) dX2_joinedParts_79 (by decide) rfl ?_
        refine gg_iload dX2_joinedParts_81 0 rfl ?_
        refine gg_aload_n dX2_joinedParts_83 5 rfl ?_
        refine gg_iload_n dX2_joinedParts_84 6 rfl ?_
        refine gg_callVi (own := RX2) (yt := gm_X1_parts) rfl gl_RX2_59 gk_X1_parts gr_X1_parts dX2_joinedParts_85 (c_X1_parts (d := d - 1) hF hA hW.1 (j := j) (by omega) (by omega) hK) (gFsh hF) (gFlt hF) (by decide) rfl rfl rfl (Nat.le_of_ble_eq_true rfl) (by show _ ≤ d; omega) ⟨Nat.le_refl _, Nat.le_refl _⟩ (fun e89 μ' hc => ?_)
        obtain ⟨rfl, rfl⟩ := hc
        refine gg_toI (b := 2) (by rw [hk]; rfl) ?_
        refine gg_icmp_ge_f (tgt := 116) dX2_joinedParts_88 (by decide) (by decide) (by decide) ?_
        refine gg_iload_n dX2_joinedParts_91 7 rfl ?_
        refine gg_iload dX2_joinedParts_92 1 rfl ?_
        refine gg_aload_n dX2_joinedParts_94 4 rfl ?_
        refine gg_aload_n dX2_joinedParts_95 5 rfl ?_
        refine gg_iload_n dX2_joinedParts_96 6 rfl ?_
        refine gg_iload dX2_joinedParts_97 0 rfl ?_
        refine gg_callVi (own := RX2) (yt := gm_X1_part) rfl gl_RX2_52 gk_X1_part gr_X1_part dX2_joinedParts_99 (c_X1_part0 (d := d - 1) hF hA hW.1 (j := j) hj (by omega)) (gFsh hF) (gFlt hF) (by decide) rfl rfl rfl (Nat.le_of_ble_eq_true rfl) (by show _ ≤ d; omega) ⟨Nat.le_refl _, Nat.le_refl _⟩ (fun e90 μ' hc => ?_)
        obtain ⟨rfl, rfl⟩ := hc
        refine gg_callVi (own := RX2) (yt := gm_X2_toldOf) rfl gl_RX2_49 gk_X2_toldOf gr_X2_toldOf dX2_joinedParts_102 (c_X2_toldOf (d := d - 1) (k := j + 1) (by have := (hc1 (by rw [hk]; decide)); omega)) sh_38 pl_38 (by decide) rfl rfl rfl (Nat.le_of_ble_eq_true rfl) (by show _ ≤ d; omega) ⟨Nat.le_refl _, Nat.le_refl _⟩ (fun e91 μ' hc => ?_)
        obtain ⟨rfl, rfl⟩ := hc
        refine gg_toI (b := D (j + 1)) (by have hlt : j + 1 < n := (hc1 (by rw [hk]; decide)); rw [if_pos (show j + 1 < 200 by omega)]; exact ht _ (by omega) hlt) ?_
        refine gg_callSi (own := RX2) (yt := gm_X2_join) rfl gl_RX2_55 gk_X2_join gr_X2_join dX2_joinedParts_105 (c_X2_join (d := d - 1) (q := q) hq (by first | omega | (have := @gJn_rng q 0 (D (j + 1)) 0 9999 (by omega) (by omega); have := @gJn_rng q (gJn q 0 (D (j + 1))) (D (gPt Z j 1)) 9999 9999 (by omega) (by omega); omega) | (have := @gJn_rng q 0 (D (j + 1)) 0 9999 (by omega) (by omega); omega)) (by omega) (by omega)) rfl rfl (Nat.le_of_ble_eq_true rfl) (by show _ ≤ d; omega) ⟨Nat.le_refl _, Nat.le_refl _⟩ (fun e92 μ' hc => ?_)
        obtain ⟨rfl, rfl⟩ := hc
        refine gg_istore (ls' := [(6, .int (iv (gJn q 0 (D (j + 1))))), (7, .int (iv 0)), (5, .int (iv (D (j + 1)))), (4, .int (iv 4)), (0, .ref (gad (gSS ad) 38)), (1, .ref (gad (gSS ad) a)), (2, .int (iv (j : Int))), (3, .int (iv (q : Int)))]) dX2_joinedParts_108 (by decide) rfl ?_
        refine gg_iincv (ls' := [(7, .int (iv 1)), (6, .int (iv (gJn q 0 (D (j + 1))))), (5, .int (iv (D (j + 1)))), (4, .int (iv 4)), (0, .ref (gad (gSS ad) 38)), (1, .ref (gad (gSS ad) a)), (2, .int (iv (j : Int))), (3, .int (iv (q : Int)))]) dX2_joinedParts_110 1 rfl rfl (by decide) rfl ?_
        refine gg_goto (tgt := 81) dX2_joinedParts_113 (by decide) ?_
        refine gg_iload dX2_joinedParts_81 0 rfl ?_
        refine gg_aload_n dX2_joinedParts_83 5 rfl ?_
        refine gg_iload_n dX2_joinedParts_84 6 rfl ?_
        refine gg_callVi (own := RX2) (yt := gm_X1_parts) rfl gl_RX2_59 gk_X1_parts gr_X1_parts dX2_joinedParts_85 (c_X1_parts (d := d - 1) hF hA hW.1 (j := j) (by omega) (by omega) hK) (gFsh hF) (gFlt hF) (by decide) rfl rfl rfl (Nat.le_of_ble_eq_true rfl) (by show _ ≤ d; omega) ⟨Nat.le_refl _, Nat.le_refl _⟩ (fun e93 μ' hc => ?_)
        obtain ⟨rfl, rfl⟩ := hc
        refine gg_toI (b := 2) (by rw [hk]; rfl) ?_
        refine gg_icmp_ge_f (tgt := 116) dX2_joinedParts_88 (by decide) (by decide) (by decide) ?_
        refine gg_iload_n dX2_joinedParts_91 7 rfl ?_
        refine gg_iload dX2_joinedParts_92 1 rfl ?_
        refine gg_aload_n dX2_joinedParts_94 4 rfl ?_
        refine gg_aload_n dX2_joinedParts_95 5 rfl ?_
        refine gg_iload_n dX2_joinedParts_96 6 rfl ?_
        refine gg_iload dX2_joinedParts_97 0 rfl ?_
        refine gg_callVi (own := RX2) (yt := gm_X1_part) rfl gl_RX2_52 gk_X1_part gr_X1_part dX2_joinedParts_99 (c_X1_part1 (d := d - 1) hF hA hW.1 (j := j) (hc1 (by rw [hk]; decide)) hj (by omega)) (gFsh hF) (gFlt hF) (by decide) rfl rfl rfl (Nat.le_of_ble_eq_true rfl) (by show _ ≤ d; omega) ⟨Nat.le_refl _, Nat.le_refl _⟩ (fun e94 μ' hc => ?_)
        obtain ⟨rfl, rfl⟩ := hc
        refine gg_callVi (own := RX2) (yt := gm_X2_toldOf) rfl gl_RX2_49 gk_X2_toldOf gr_X2_toldOf dX2_joinedParts_102 (c_X2_toldOf (d := d - 1) (k := gPt Z j 1) (by have := (hc2 (by rw [hk]; decide)); omega)) sh_38 pl_38 (by decide) rfl rfl rfl (Nat.le_of_ble_eq_true rfl) (by show _ ≤ d; omega) ⟨Nat.le_refl _, Nat.le_refl _⟩ (fun e95 μ' hc => ?_)
        obtain ⟨rfl, rfl⟩ := hc
        refine gg_toI (b := D (gPt Z j 1)) (by have hlt : gPt Z j 1 < n := (hc2 (by rw [hk]; decide)); rw [if_pos (show gPt Z j 1 < 200 by omega)]; exact ht _ (by simp only [gPt]; omega) hlt) ?_
        refine gg_callSi (own := RX2) (yt := gm_X2_join) rfl gl_RX2_55 gk_X2_join gr_X2_join dX2_joinedParts_105 (c_X2_join (d := d - 1) (q := q) hq (by first | omega | (have := @gJn_rng q 0 (D (j + 1)) 0 9999 (by omega) (by omega); have := @gJn_rng q (gJn q 0 (D (j + 1))) (D (gPt Z j 1)) 9999 9999 (by omega) (by omega); omega) | (have := @gJn_rng q 0 (D (j + 1)) 0 9999 (by omega) (by omega); omega)) (by omega) (by omega)) rfl rfl (Nat.le_of_ble_eq_true rfl) (by show _ ≤ d; omega) ⟨Nat.le_refl _, Nat.le_refl _⟩ (fun e96 μ' hc => ?_)
        obtain ⟨rfl, rfl⟩ := hc
        refine gg_istore (ls' := [(6, .int (iv (gJn q (gJn q 0 (D (j + 1))) (D (gPt Z j 1))))), (7, .int (iv 1)), (5, .int (iv (D (j + 1)))), (4, .int (iv 4)), (0, .ref (gad (gSS ad) 38)), (1, .ref (gad (gSS ad) a)), (2, .int (iv (j : Int))), (3, .int (iv (q : Int)))]) dX2_joinedParts_108 (by decide) rfl ?_
        refine gg_iincv (ls' := [(7, .int (iv 2)), (6, .int (iv (gJn q (gJn q 0 (D (j + 1))) (D (gPt Z j 1))))), (5, .int (iv (D (j + 1)))), (4, .int (iv 4)), (0, .ref (gad (gSS ad) 38)), (1, .ref (gad (gSS ad) a)), (2, .int (iv (j : Int))), (3, .int (iv (q : Int)))]) dX2_joinedParts_110 1 rfl rfl (by decide) rfl ?_
        refine gg_goto (tgt := 81) dX2_joinedParts_113 (by decide) ?_
        refine gg_iload dX2_joinedParts_81 0 rfl ?_
        refine gg_aload_n dX2_joinedParts_83 5 rfl ?_
        refine gg_iload_n dX2_joinedParts_84 6 rfl ?_
        refine gg_callVi (own := RX2) (yt := gm_X1_parts) rfl gl_RX2_59 gk_X1_parts gr_X1_parts dX2_joinedParts_85 (c_X1_parts (d := d - 1) hF hA hW.1 (j := j) (by omega) (by omega) hK) (gFsh hF) (gFlt hF) (by decide) rfl rfl rfl (Nat.le_of_ble_eq_true rfl) (by show _ ≤ d; omega) ⟨Nat.le_refl _, Nat.le_refl _⟩ (fun e97 μ' hc => ?_)
        obtain ⟨rfl, rfl⟩ := hc
        refine gg_toI (b := 2) (by rw [hk]; rfl) ?_
        refine gg_icmp_ge_t (tgt := 116) dX2_joinedParts_88 (by decide) (by decide) (by decide) ?_
        refine gg_iload dX2_joinedParts_116 1 rfl ?_
        refine gg_ireti dX2_joinedParts_118 rfl ⟨rfl, rfl⟩ ?_
        refine ⟨rfl, ?_⟩
        rw [hk]
        unfold gDj
        rw [if_neg (show ¬ (q = 4 ∧ 4 = 6) by omega), if_neg (show ¬ (q = 5 ∧ 4 = 7) by omega)]
        exact rfl
      · refine gg_iload dX2_joinedParts_63 1 rfl ?_
        refine gg_bipush dX2_joinedParts_65 (by decide) ?_
        refine gg_icmp_ne_t (tgt := 75) dX2_joinedParts_67 (by decide) (by decide) (by decide) ?_
        refine gg_iconst dX2_joinedParts_75 ?_
        refine gg_istore (ls' := [(6, .int (iv 0)), (5, .int (iv (D (j + 1)))), (4, .int (iv 4)), (0, .ref (gad (gSS ad) 38)), (1, .ref (gad (gSS ad) a)), (2, .int (iv (j : Int))), (3, .int (iv (q : Int)))]) dX2_joinedParts_76 (by decide) rfl ?_
        refine gg_iconst dX2_joinedParts_78 ?_
        refine gg_istore (ls' := [(7, .int (iv 0)), (6, .int (iv 0)), (5, .int (iv (D (j + 1)))), (4, .int (iv 4)), (0, .ref (gad (gSS ad) 38)), (1, .ref (gad (gSS ad) a)), (2, .int (iv (j : Int))), (3, .int (iv (q : Int)))]) dX2_joinedParts_79 (by decide) rfl ?_
        refine gg_iload dX2_joinedParts_81 0 rfl ?_
        refine gg_aload_n dX2_joinedParts_83 5 rfl ?_
        refine gg_iload_n dX2_joinedParts_84 6 rfl ?_
        refine gg_callVi (own := RX2) (yt := gm_X1_parts) rfl gl_RX2_59 gk_X1_parts gr_X1_parts dX2_joinedParts_85 (c_X1_parts (d := d - 1) hF hA hW.1 (j := j) (by omega) (by omega) hK) (gFsh hF) (gFlt hF) (by decide) rfl rfl rfl (Nat.le_of_ble_eq_true rfl) (by show _ ≤ d; omega) ⟨Nat.le_refl _, Nat.le_refl _⟩ (fun e98 μ' hc => ?_)
        obtain ⟨rfl, rfl⟩ := hc
        refine gg_toI (b := 2) (by rw [hk]; rfl) ?_
        refine gg_icmp_ge_f (tgt := 116) dX2_joinedParts_88 (by decide) (by decide) (by decide) ?_
        refine gg_iload_n dX2_joinedParts_91 7 rfl ?_
        refine gg_iload dX2_joinedParts_92 1 rfl ?_
        refine gg_aload_n dX2_joinedParts_94 4 rfl ?_
        refine gg_aload_n dX2_joinedParts_95 5 rfl ?_
        refine gg_iload_n dX2_joinedParts_96 6 rfl ?_
        refine gg_iload dX2_joinedParts_97 0 rfl ?_
        refine gg_callVi (own := RX2) (yt := gm_X1_part) rfl gl_RX2_52 gk_X1_part gr_X1_part dX2_joinedParts_99 (c_X1_part0 (d := d - 1) hF hA hW.1 (j := j) hj (by omega)) (gFsh hF) (gFlt hF) (by decide) rfl rfl rfl (Nat.le_of_ble_eq_true rfl) (by show _ ≤ d; omega) ⟨Nat.le_refl _, Nat.le_refl _⟩ (fun e99 μ' hc => ?_)
        obtain ⟨rfl, rfl⟩ := hc
        refine gg_callVi (own := RX2) (yt := gm_X2_toldOf) rfl gl_RX2_49 gk_X2_toldOf gr_X2_toldOf dX2_joinedParts_102 (c_X2_toldOf (d := d - 1) (k := j + 1) (by have := (hc1 (by rw [hk]; decide)); omega)) sh_38 pl_38 (by decide) rfl rfl rfl (Nat.le_of_ble_eq_true rfl) (by show _ ≤ d; omega) ⟨Nat.le_refl _, Nat.le_refl _⟩ (fun e100 μ' hc => ?_)
        obtain ⟨rfl, rfl⟩ := hc
        refine gg_toI (b := D (j + 1)) (by have hlt : j + 1 < n := (hc1 (by rw [hk]; decide)); rw [if_pos (show j + 1 < 200 by omega)]; exact ht _ (by omega) hlt) ?_
        refine gg_callSi (own := RX2) (yt := gm_X2_join) rfl gl_RX2_55 gk_X2_join gr_X2_join dX2_joinedParts_105 (c_X2_join (d := d - 1) (q := q) hq (by first | omega | (have := @gJn_rng q 0 (D (j + 1)) 0 9999 (by omega) (by omega); have := @gJn_rng q (gJn q 0 (D (j + 1))) (D (gPt Z j 1)) 9999 9999 (by omega) (by omega); omega) | (have := @gJn_rng q 0 (D (j + 1)) 0 9999 (by omega) (by omega); omega)) (by omega) (by omega)) rfl rfl (Nat.le_of_ble_eq_true rfl) (by show _ ≤ d; omega) ⟨Nat.le_refl _, Nat.le_refl _⟩ (fun e101 μ' hc => ?_)
        obtain ⟨rfl, rfl⟩ := hc
        refine gg_istore (ls' := [(6, .int (iv (gJn q 0 (D (j + 1))))), (7, .int (iv 0)), (5, .int (iv (D (j + 1)))), (4, .int (iv 4)), (0, .ref (gad (gSS ad) 38)), (1, .ref (gad (gSS ad) a)), (2, .int (iv (j : Int))), (3, .int (iv (q : Int)))]) dX2_joinedParts_108 (by decide) rfl ?_
        refine gg_iincv (ls' := [(7, .int (iv 1)), (6, .int (iv (gJn q 0 (D (j + 1))))), (5, .int (iv (D (j + 1)))), (4, .int (iv 4)), (0, .ref (gad (gSS ad) 38)), (1, .ref (gad (gSS ad) a)), (2, .int (iv (j : Int))), (3, .int (iv (q : Int)))]) dX2_joinedParts_110 1 rfl rfl (by decide) rfl ?_
        refine gg_goto (tgt := 81) dX2_joinedParts_113 (by decide) ?_
        refine gg_iload dX2_joinedParts_81 0 rfl ?_
        refine gg_aload_n dX2_joinedParts_83 5 rfl ?_
        refine gg_iload_n dX2_joinedParts_84 6 rfl ?_
        refine gg_callVi (own := RX2) (yt := gm_X1_parts) rfl gl_RX2_59 gk_X1_parts gr_X1_parts dX2_joinedParts_85 (c_X1_parts (d := d - 1) hF hA hW.1 (j := j) (by omega) (by omega) hK) (gFsh hF) (gFlt hF) (by decide) rfl rfl rfl (Nat.le_of_ble_eq_true rfl) (by show _ ≤ d; omega) ⟨Nat.le_refl _, Nat.le_refl _⟩ (fun e102 μ' hc => ?_)
        obtain ⟨rfl, rfl⟩ := hc
        refine gg_toI (b := 2) (by rw [hk]; rfl) ?_
        refine gg_icmp_ge_f (tgt := 116) dX2_joinedParts_88 (by decide) (by decide) (by decide) ?_
        refine gg_iload_n dX2_joinedParts_91 7 rfl ?_
        refine gg_iload dX2_joinedParts_92 1 rfl ?_
        refine gg_aload_n dX2_joinedParts_94 4 rfl ?_
        refine gg_aload_n dX2_joinedParts_95 5 rfl ?_
        refine gg_iload_n dX2_joinedParts_96 6 rfl ?_
        refine gg_iload dX2_joinedParts_97 0 rfl ?_
        refine gg_callVi (own := RX2) (yt := gm_X1_part) rfl gl_RX2_52 gk_X1_part gr_X1_part dX2_joinedParts_99 (c_X1_part1 (d := d - 1) hF hA hW.1 (j := j) (hc1 (by rw [hk]; decide)) hj (by omega)) (gFsh hF) (gFlt hF) (by decide) rfl rfl rfl (Nat.le_of_ble_eq_true rfl) (by show _ ≤ d; omega) ⟨Nat.le_refl _, Nat.le_refl _⟩ (fun e103 μ' hc => ?_)
        obtain ⟨rfl, rfl⟩ := hc
        refine gg_callVi (own := RX2) (yt := gm_X2_toldOf) rfl gl_RX2_49 gk_X2_toldOf gr_X2_toldOf dX2_joinedParts_102 (c_X2_toldOf (d := d - 1) (k := gPt Z j 1) (by have := (hc2 (by rw [hk]; decide)); omega)) sh_38 pl_38 (by decide) rfl rfl rfl (Nat.le_of_ble_eq_true rfl) (by show _ ≤ d; omega) ⟨Nat.le_refl _, Nat.le_refl _⟩ (fun e104 μ' hc => ?_)
        obtain ⟨rfl, rfl⟩ := hc
        refine gg_toI (b := D (gPt Z j 1)) (by have hlt : gPt Z j 1 < n := (hc2 (by rw [hk]; decide)); rw [if_pos (show gPt Z j 1 < 200 by omega)]; exact ht _ (by simp only [gPt]; omega) hlt) ?_
        refine gg_callSi (own := RX2) (yt := gm_X2_join) rfl gl_RX2_55 gk_X2_join gr_X2_join dX2_joinedParts_105 (c_X2_join (d := d - 1) (q := q) hq (by first | omega | (have := @gJn_rng q 0 (D (j + 1)) 0 9999 (by omega) (by omega); have := @gJn_rng q (gJn q 0 (D (j + 1))) (D (gPt Z j 1)) 9999 9999 (by omega) (by omega); omega) | (have := @gJn_rng q 0 (D (j + 1)) 0 9999 (by omega) (by omega); omega)) (by omega) (by omega)) rfl rfl (Nat.le_of_ble_eq_true rfl) (by show _ ≤ d; omega) ⟨Nat.le_refl _, Nat.le_refl _⟩ (fun e105 μ' hc => ?_)
        obtain ⟨rfl, rfl⟩ := hc
        refine gg_istore (ls' := [(6, .int (iv (gJn q (gJn q 0 (D (j + 1))) (D (gPt Z j 1))))), (7, .int (iv 1)), (5, .int (iv (D (j + 1)))), (4, .int (iv 4)), (0, .ref (gad (gSS ad) 38)), (1, .ref (gad (gSS ad) a)), (2, .int (iv (j : Int))), (3, .int (iv (q : Int)))]) dX2_joinedParts_108 (by decide) rfl ?_
        refine gg_iincv (ls' := [(7, .int (iv 2)), (6, .int (iv (gJn q (gJn q 0 (D (j + 1))) (D (gPt Z j 1))))), (5, .int (iv (D (j + 1)))), (4, .int (iv 4)), (0, .ref (gad (gSS ad) 38)), (1, .ref (gad (gSS ad) a)), (2, .int (iv (j : Int))), (3, .int (iv (q : Int)))]) dX2_joinedParts_110 1 rfl rfl (by decide) rfl ?_
        refine gg_goto (tgt := 81) dX2_joinedParts_113 (by decide) ?_
        refine gg_iload dX2_joinedParts_81 0 rfl ?_
        refine gg_aload_n dX2_joinedParts_83 5 rfl ?_
        refine gg_iload_n dX2_joinedParts_84 6 rfl ?_
        refine gg_callVi (own := RX2) (yt := gm_X1_parts) rfl gl_RX2_59 gk_X1_parts gr_X1_parts dX2_joinedParts_85 (c_X1_parts (d := d - 1) hF hA hW.1 (j := j) (by omega) (by omega) hK) (gFsh hF) (gFlt hF) (by decide) rfl rfl rfl (Nat.le_of_ble_eq_true rfl) (by show _ ≤ d; omega) ⟨Nat.le_refl _, Nat.le_refl _⟩ (fun e106 μ' hc => ?_)
        obtain ⟨rfl, rfl⟩ := hc
        refine gg_toI (b := 2) (by rw [hk]; rfl) ?_
        refine gg_icmp_ge_t (tgt := 116) dX2_joinedParts_88 (by decide) (by decide) (by decide) ?_
        refine gg_iload dX2_joinedParts_116 1 rfl ?_
        refine gg_ireti dX2_joinedParts_118 rfl ⟨rfl, rfl⟩ ?_
        refine ⟨rfl, ?_⟩
        rw [hk]
        unfold gDj
        rw [if_neg (show ¬ (q = 4 ∧ 4 = 6) by omega), if_neg (show ¬ (q = 5 ∧ 4 = 7) by omega)]
        exact rfl
  · refine gg_toI (b := 5) (by omega) ?_
    refine gg_istore (ls' := [(4, .int (iv 5)), (0, .ref (gad (gSS ad) 38)), (1, .ref (gad (gSS ad) a)), (2, .int (iv (j : Int))), (3, .int (iv (q : Int)))]) dX2_joinedParts_5 (by decide) rfl ?_
    have g1 := r1 (by rw [hk]; decide)
    refine gg_aload_n dX2_joinedParts_7 1 rfl ?_
    refine gg_iload_n dX2_joinedParts_8 3 rfl ?_
    refine gg_iconst dX2_joinedParts_9 ?_
    refine gg_iadd dX2_joinedParts_10 ?_
    refine gg_callVi (own := RX2) (yt := gm_X2_toldOf) rfl gl_RX2_49 gk_X2_toldOf gr_X2_toldOf dX2_joinedParts_11 (c_X2_toldOf (d := d - 1) (k := j + 1) (by have := (hc1 (by rw [hk]; decide)); omega)) sh_38 pl_38 (by decide) rfl rfl rfl (Nat.le_of_ble_eq_true rfl) (by show _ ≤ d; omega) ⟨Nat.le_refl _, Nat.le_refl _⟩ (fun e107 μ' hc => ?_)
    obtain ⟨rfl, rfl⟩ := hc
    refine gg_toI (b := D (j + 1)) (by have hlt : j + 1 < n := (hc1 (by rw [hk]; decide)); rw [if_pos (show j + 1 < 200 by omega)]; exact ht _ (by omega) hlt) ?_
    refine gg_istore (ls' := [(5, .int (iv (D (j + 1)))), (4, .int (iv 5)), (0, .ref (gad (gSS ad) 38)), (1, .ref (gad (gSS ad) a)), (2, .int (iv (j : Int))), (3, .int (iv (q : Int)))]) dX2_joinedParts_14 (by decide) rfl ?_
    refine gg_iload_n dX2_joinedParts_16 5 rfl ?_
    refine gg_iconst dX2_joinedParts_17 ?_
    refine gg_icmp_ne (tgt := 58) dX2_joinedParts_18 (by decide) (by omega) (fun hq4 => ?_) (fun hq4 => ?_)
    · refine gg_iload_n dX2_joinedParts_58 5 rfl ?_
      refine gg_iconst dX2_joinedParts_59 ?_
      refine gg_icmp_ne (tgt := 75) dX2_joinedParts_60 (by decide) (by omega) (fun hq5 => ?_) (fun hq5 => ?_)
      · refine gg_iconst dX2_joinedParts_75 ?_
        refine gg_istore (ls' := [(6, .int (iv 0)), (5, .int (iv (D (j + 1)))), (4, .int (iv 5)), (0, .ref (gad (gSS ad) 38)), (1, .ref (gad (gSS ad) a)), (2, .int (iv (j : Int))), (3, .int (iv (q : Int)))]) dX2_joinedParts_76 (by decide) rfl ?_
        refine gg_iconst dX2_joinedParts_78 ?_
        refine gg_istore (ls' := [(7, .int (iv 0)), (6, .int (iv 0)), (5, .int (iv (D (j + 1)))), (4, .int (iv 5)), (0, .ref (gad (gSS ad) 38)), (1, .ref (gad (gSS ad) a)), (2, .int (iv (j : Int))), (3, .int (iv (q : Int)))]) dX2_joinedParts_79 (by decide) rfl ?_
        refine gg_iload dX2_joinedParts_81 0 rfl ?_
        refine gg_aload_n dX2_joinedParts_83 5 rfl ?_
        refine gg_iload_n dX2_joinedParts_84 6 rfl ?_
        refine gg_callVi (own := RX2) (yt := gm_X1_parts) rfl gl_RX2_59 gk_X1_parts gr_X1_parts dX2_joinedParts_85 (c_X1_parts (d := d - 1) hF hA hW.1 (j := j) (by omega) (by omega) hK) (gFsh hF) (gFlt hF) (by decide) rfl rfl rfl (Nat.le_of_ble_eq_true rfl) (by show _ ≤ d; omega) ⟨Nat.le_refl _, Nat.le_refl _⟩ (fun e108 μ' hc => ?_)
        obtain ⟨rfl, rfl⟩ := hc
        refine gg_toI (b := 1) (by rw [hk]; rfl) ?_
        refine gg_icmp_ge_f (tgt := 116) dX2_joinedParts_88 (by decide) (by decide) (by decide) ?_
        refine gg_iload_n dX2_joinedParts_91 7 rfl ?_
        refine gg_iload dX2_joinedParts_92 1 rfl ?_
        refine gg_aload_n dX2_joinedParts_94 4 rfl ?_
        refine gg_aload_n dX2_joinedParts_95 5 rfl ?_
        refine gg_iload_n dX2_joinedParts_96 6 rfl ?_
        refine gg_iload dX2_joinedParts_97 0 rfl ?_
        refine gg_callVi (own := RX2) (yt := gm_X1_part) rfl gl_RX2_52 gk_X1_part gr_X1_part dX2_joinedParts_99 (c_X1_part0 (d := d - 1) hF hA hW.1 (j := j) hj (by omega)) (gFsh hF) (gFlt hF) (by decide) rfl rfl rfl (Nat.le_of_ble_eq_true rfl) (by show _ ≤ d; omega) ⟨Nat.le_refl _, Nat.le_refl _⟩ (fun e109 μ' hc => ?_)
        obtain ⟨rfl, rfl⟩ := hc
        refine gg_callVi (own := RX2) (yt := gm_X2_toldOf) rfl gl_RX2_49 gk_X2_toldOf gr_X2_toldOf dX2_joinedParts_102 (c_X2_toldOf (d := d - 1) (k := j + 1) (by have := (hc1 (by rw [hk]; decide)); omega)) sh_38 pl_38 (by decide) rfl rfl rfl (Nat.le_of_ble_eq_true rfl) (by show _ ≤ d; omega) ⟨Nat.le_refl _, Nat.le_refl _⟩ (fun e110 μ' hc => ?_)
        obtain ⟨rfl, rfl⟩ := hc
        refine gg_toI (b := D (j + 1)) (by have hlt : j + 1 < n := (hc1 (by rw [hk]; decide)); rw [if_pos (show j + 1 < 200 by omega)]; exact ht _ (by omega) hlt) ?_
        refine gg_callSi (own := RX2) (yt := gm_X2_join) rfl gl_RX2_55 gk_X2_join gr_X2_join dX2_joinedParts_105 (c_X2_join (d := d - 1) (q := q) hq (by first | omega | (have := @gJn_rng q 0 (D (j + 1)) 0 9999 (by omega) (by omega); have := @gJn_rng q (gJn q 0 (D (j + 1))) (D (gPt Z j 1)) 9999 9999 (by omega) (by omega); omega) | (have := @gJn_rng q 0 (D (j + 1)) 0 9999 (by omega) (by omega); omega)) (by omega) (by omega)) rfl rfl (Nat.le_of_ble_eq_true rfl) (by show _ ≤ d; omega) ⟨Nat.le_refl _, Nat.le_refl _⟩ (fun e111 μ' hc => ?_)
        obtain ⟨rfl, rfl⟩ := hc
        refine gg_istore (ls' := [(6, .int (iv (gJn q 0 (D (j + 1))))), (7, .int (iv 0)), (5, .int (iv (D (j + 1)))), (4, .int (iv 5)), (0, .ref (gad (gSS ad) 38)), (1, .ref (gad (gSS ad) a)), (2, .int (iv (j : Int))), (3, .int (iv (q : Int)))]) dX2_joinedParts_108 (by decide) rfl ?_
        refine gg_iincv (ls' := [(7, .int (iv 1)), (6, .int (iv (gJn q 0 (D (j + 1))))), (5, .int (iv (D (j + 1)))), (4, .int (iv 5)), (0, .ref (gad (gSS ad) 38)), (1, .ref (gad (gSS ad) a)), (2, .int (iv (j : Int))), (3, .int (iv (q : Int)))]) dX2_joinedParts_110 1 rfl rfl (by decide) rfl ?_
        refine gg_goto (tgt := 81) dX2_joinedParts_113 (by decide) ?_
        refine gg_iload dX2_joinedParts_81 0 rfl ?_
        refine gg_aload_n dX2_joinedParts_83 5 rfl ?_
        refine gg_iload_n dX2_joinedParts_84 6 rfl ?_
        refine gg_callVi (own := RX2) (yt := gm_X1_parts) rfl gl_RX2_59 gk_X1_parts gr_X1_parts dX2_joinedParts_85 (c_X1_parts (d := d - 1) hF hA hW.1 (j := j) (by omega) (by omega) hK) (gFsh hF) (gFlt hF) (by decide) rfl rfl rfl (Nat.le_of_ble_eq_true rfl) (by show _ ≤ d; omega) ⟨Nat.le_refl _, Nat.le_refl _⟩ (fun e112 μ' hc => ?_)
        obtain ⟨rfl, rfl⟩ := hc
        refine gg_toI (b := 1) (by rw [hk]; rfl) ?_
        refine gg_icmp_ge_t (tgt := 116) dX2_joinedParts_88 (by decide) (by decide) (by decide) ?_
        refine gg_iload dX2_joinedParts_116 1 rfl ?_
        refine gg_ireti dX2_joinedParts_118 rfl ⟨rfl, rfl⟩ ?_
        refine ⟨rfl, ?_⟩
        rw [hk]
        unfold gDj
        rw [if_neg (show ¬ (q = 4 ∧ 5 = 6) by omega), if_neg (show ¬ (q = 5 ∧ 5 = 7) by omega)]
        exact rfl
      · refine gg_iload dX2_joinedParts_63 1 rfl ?_
        refine gg_bipush dX2_joinedParts_65 (by decide) ?_
        refine gg_icmp_ne_t (tgt := 75) dX2_joinedParts_67 (by decide) (by decide) (by decide) ?_
        refine gg_iconst dX2_joinedParts_75 ?_
        refine gg_istore (ls' := [(6, .int (iv 0)), (5, .int (iv (D (j + 1)))), (4, .int (iv 5)), (0, .ref (gad (gSS ad) 38)), (1, .ref (gad (gSS ad) a)), (2, .int (iv (j : Int))), (3, .int (iv (q : Int)))]) dX2_joinedParts_76 (by decide) rfl ?_
        refine gg_iconst dX2_joinedParts_78 ?_
        refine gg_istore (ls' := [(7, .int (iv 0)), (6, .int (iv 0)), (5, .int (iv (D (j + 1)))), (4, .int (iv 5)), (0, .ref (gad (gSS ad) 38)), (1, .ref (gad (gSS ad) a)), (2, .int (iv (j : Int))), (3, .int (iv (q : Int)))]) dX2_joinedParts_79 (by decide) rfl ?_
        refine gg_iload dX2_joinedParts_81 0 rfl ?_
        refine gg_aload_n dX2_joinedParts_83 5 rfl ?_
        refine gg_iload_n dX2_joinedParts_84 6 rfl ?_
        refine gg_callVi (own := RX2) (yt := gm_X1_parts) rfl gl_RX2_59 gk_X1_parts gr_X1_parts dX2_joinedParts_85 (c_X1_parts (d := d - 1) hF hA hW.1 (j := j) (by omega) (by omega) hK) (gFsh hF) (gFlt hF) (by decide) rfl rfl rfl (Nat.le_of_ble_eq_true rfl) (by show _ ≤ d; omega) ⟨Nat.le_refl _, Nat.le_refl _⟩ (fun e113 μ' hc => ?_)
        obtain ⟨rfl, rfl⟩ := hc
        refine gg_toI (b := 1) (by rw [hk]; rfl) ?_
        refine gg_icmp_ge_f (tgt := 116) dX2_joinedParts_88 (by decide) (by decide) (by decide) ?_
        refine gg_iload_n dX2_joinedParts_91 7 rfl ?_
        refine gg_iload dX2_joinedParts_92 1 rfl ?_
        refine gg_aload_n dX2_joinedParts_94 4 rfl ?_
        refine gg_aload_n dX2_joinedParts_95 5 rfl ?_
        refine gg_iload_n dX2_joinedParts_96 6 rfl ?_
        refine gg_iload dX2_joinedParts_97 0 rfl ?_
        refine gg_callVi (own := RX2) (yt := gm_X1_part) rfl gl_RX2_52 gk_X1_part gr_X1_part dX2_joinedParts_99 (c_X1_part0 (d := d - 1) hF hA hW.1 (j := j) hj (by omega)) (gFsh hF) (gFlt hF) (by decide) rfl rfl rfl (Nat.le_of_ble_eq_true rfl) (by show _ ≤ d; omega) ⟨Nat.le_refl _, Nat.le_refl _⟩ (fun e114 μ' hc => ?_)
        obtain ⟨rfl, rfl⟩ := hc
        refine gg_callVi (own := RX2) (yt := gm_X2_toldOf) rfl gl_RX2_49 gk_X2_toldOf gr_X2_toldOf dX2_joinedParts_102 (c_X2_toldOf (d := d - 1) (k := j + 1) (by have := (hc1 (by rw [hk]; decide)); omega)) sh_38 pl_38 (by decide) rfl rfl rfl (Nat.le_of_ble_eq_true rfl) (by show _ ≤ d; omega) ⟨Nat.le_refl _, Nat.le_refl _⟩ (fun e115 μ' hc => ?_)
        obtain ⟨rfl, rfl⟩ := hc
        refine gg_toI (b := D (j + 1)) (by have hlt : j + 1 < n := (hc1 (by rw [hk]; decide)); rw [if_pos (show j + 1 < 200 by omega)]; exact ht _ (by omega) hlt) ?_
        refine gg_callSi (own := RX2) (yt := gm_X2_join) rfl gl_RX2_55 gk_X2_join gr_X2_join dX2_joinedParts_105 (c_X2_join (d := d - 1) (q := q) hq (by first | omega | (have := @gJn_rng q 0 (D (j + 1)) 0 9999 (by omega) (by omega); have := @gJn_rng q (gJn q 0 (D (j + 1))) (D (gPt Z j 1)) 9999 9999 (by omega) (by omega); omega) | (have := @gJn_rng q 0 (D (j + 1)) 0 9999 (by omega) (by omega); omega)) (by omega) (by omega)) rfl rfl (Nat.le_of_ble_eq_true rfl) (by show _ ≤ d; omega) ⟨Nat.le_refl _, Nat.le_refl _⟩ (fun e116 μ' hc => ?_)
        obtain ⟨rfl, rfl⟩ := hc
        refine gg_istore (ls' := [(6, .int (iv (gJn q 0 (D (j + 1))))), (7, .int (iv 0)), (5, .int (iv (D (j + 1)))), (4, .int (iv 5)), (0, .ref (gad (gSS ad) 38)), (1, .ref (gad (gSS ad) a)), (2, .int (iv (j : Int))), (3, .int (iv (q : Int)))]) dX2_joinedParts_108 (by decide) rfl ?_
        refine gg_iincv (ls' := [(7, .int (iv 1)), (6, .int (iv (gJn q 0 (D (j + 1))))), (5, .int (iv (D (j + 1)))), (4, .int (iv 5)), (0, .ref (gad (gSS ad) 38)), (1, .ref (gad (gSS ad) a)), (2, .int (iv (j : Int))), (3, .int (iv (q : Int)))]) dX2_joinedParts_110 1 rfl rfl (by decide) rfl ?_
        refine gg_goto (tgt := 81) dX2_joinedParts_113 (by decide) ?_
        refine gg_iload dX2_joinedParts_81 0 rfl ?_
        refine gg_aload_n dX2_joinedParts_83 5 rfl ?_
        refine gg_iload_n dX2_joinedParts_84 6 rfl ?_
        refine gg_callVi (own := RX2) (yt := gm_X1_parts) rfl gl_RX2_59 gk_X1_parts gr_X1_parts dX2_joinedParts_85 (c_X1_parts (d := d - 1) hF hA hW.1 (j := j) (by omega) (by omega) hK) (gFsh hF) (gFlt hF) (by decide) rfl rfl rfl (Nat.le_of_ble_eq_true rfl) (by show _ ≤ d; omega) ⟨Nat.le_refl _, Nat.le_refl _⟩ (fun e117 μ' hc => ?_)
        obtain ⟨rfl, rfl⟩ := hc
        refine gg_toI (b := 1) (by rw [hk]; rfl) ?_
        refine gg_icmp_ge_t (tgt := 116) dX2_joinedParts_88 (by decide) (by decide) (by decide) ?_
        refine gg_iload dX2_joinedParts_116 1 rfl ?_
        refine gg_ireti dX2_joinedParts_118 rfl ⟨rfl, rfl⟩ ?_
        refine ⟨rfl, ?_⟩
        rw [hk]
        unfold gDj
        rw [if_neg (show ¬ (q = 4 ∧ 5 = 6) by omega), if_neg (show ¬ (q = 5 ∧ 5 = 7) by omega)]
        exact rfl
    · refine gg_iload dX2_joinedParts_21 1 rfl ?_
      refine gg_bipush dX2_joinedParts_23 (by decide) ?_
      refine gg_icmp_ne_t (tgt := 58) dX2_joinedParts_25 (by decide) (by decide) (by decide) ?_
      refine gg_iload_n dX2_joinedParts_58 5 rfl ?_
      refine gg_iconst dX2_joinedParts_59 ?_
      refine gg_icmp_ne (tgt := 75) dX2_joinedParts_60 (by decide) (by omega) (fun hq5 => ?_) (fun hq5 => ?_)
      · refine gg_iconst dX2_joinedParts_75 ?_
        refine gg_istore (ls' := [(6, .int (iv 0)), (5, .int (iv (D (j + 1)))), (4, .int (iv 5)), (0, .ref (gad (gSS ad) 38)), (1, .ref (gad (gSS ad) a)), (2, .int (iv (j : Int))), (3, .int (iv (q : Int)))]) dX2_joinedParts_76 (by decide) rfl ?_
        refine gg_iconst dX2_joinedParts_78 ?_
        refine gg_istore (ls' := [(7, .int (iv 0)), (6, .int (iv 0)), (5, .int (iv (D (j + 1)))), (4, .int (iv 5)), (0, .ref (gad (gSS ad) 38)), (1, .ref (gad (gSS ad) a)), (2, .int (iv (j : Int))), (3, .int (iv (q : Int)))]) dX2_joinedParts_79 (by decide) rfl ?_
        refine gg_iload dX2_joinedParts_81 0 rfl ?_
        refine gg_aload_n dX2_joinedParts_83 5 rfl ?_
        refine gg_iload_n dX2_joinedParts_84 6 rfl ?_
        refine gg_callVi (own := RX2) (yt := gm_X1_parts) rfl gl_RX2_59 gk_X1_parts gr_X1_parts dX2_joinedParts_85 (c_X1_parts (d := d - 1) hF hA hW.1 (j := j) (by omega) (by omega) hK) (gFsh hF) (gFlt hF) (by decide) rfl rfl rfl (Nat.le_of_ble_eq_true rfl) (by show _ ≤ d; omega) ⟨Nat.le_refl _, Nat.le_refl _⟩ (fun e118 μ' hc => ?_)
        obtain ⟨rfl, rfl⟩ := hc
        refine gg_toI (b := 1) (by rw [hk]; rfl) ?_
        refine gg_icmp_ge_f (tgt := 116) dX2_joinedParts_88 (by decide) (by decide) (by decide) ?_
        refine gg_iload_n dX2_joinedParts_91 7 rfl ?_
        refine gg_iload dX2_joinedParts_92 1 rfl ?_
        refine gg_aload_n dX2_joinedParts_94 4 rfl ?_
        refine gg_aload_n dX2_joinedParts_95 5 rfl ?_
        refine gg_iload_n dX2_joinedParts_96 6 rfl ?_
        refine gg_iload dX2_joinedParts_97 0 rfl ?_
        refine gg_callVi (own := RX2) (yt := gm_X1_part) rfl gl_RX2_52 gk_X1_part gr_X1_part dX2_joinedParts_99 (c_X1_part0 (d := d - 1) hF hA hW.1 (j := j) hj (by omega)) (gFsh hF) (gFlt hF) (by decide) rfl rfl rfl (Nat.le_of_ble_eq_true rfl) (by show _ ≤ d; omega) ⟨Nat.le_refl _, Nat.le_refl _⟩ (fun e119 μ' hc => ?_)
        obtain ⟨rfl, rfl⟩ := hc
        refine gg_callVi (own := RX2) (yt := gm_X2_toldOf) rfl gl_RX2_49 gk_X2_toldOf gr_X2_toldOf dX2_joinedParts_102 (c_X2_toldOf (d := d - 1) (k := j + 1) (by have := (hc1 (by rw [hk]; decide)); omega)) sh_38 pl_38 (by decide) rfl rfl rfl (Nat.le_of_ble_eq_true rfl) (by show _ ≤ d; omega) ⟨Nat.le_refl _, Nat.le_refl _⟩ (fun e120 μ' hc => ?_)
        obtain ⟨rfl, rfl⟩ := hc
        refine gg_toI (b := D (j + 1)) (by have hlt : j + 1 < n := (hc1 (by rw [hk]; decide)); rw [if_pos (show j + 1 < 200 by omega)]; exact ht _ (by omega) hlt) ?_
        refine gg_callSi (own := RX2) (yt := gm_X2_join) rfl gl_RX2_55 gk_X2_join gr_X2_join dX2_joinedParts_105 (c_X2_join (d := d - 1) (q := q) hq (by first | omega | (have := @gJn_rng q 0 (D (j + 1)) 0 9999 (by omega) (by omega); have := @gJn_rng q (gJn q 0 (D (j + 1))) (D (gPt Z j 1)) 9999 9999 (by omega) (by omega); omega) | (have := @gJn_rng q 0 (D (j + 1)) 0 9999 (by omega) (by omega); omega)) (by omega) (by omega)) rfl rfl (Nat.le_of_ble_eq_true rfl) (by show _ ≤ d; omega) ⟨Nat.le_refl _, Nat.le_refl _⟩ (fun e121 μ' hc => ?_)
        obtain ⟨rfl, rfl⟩ := hc
        refine gg_istore (ls' := [(6, .int (iv (gJn q 0 (D (j + 1))))), (7, .int (iv 0)), (5, .int (iv (D (j + 1)))), (4, .int (iv 5)), (0, .ref (gad (gSS ad) 38)), (1, .ref (gad (gSS ad) a)), (2, .int (iv (j : Int))), (3, .int (iv (q : Int)))]) dX2_joinedParts_108 (by decide) rfl ?_
        refine gg_iincv (ls' := [(7, .int (iv 1)), (6, .int (iv (gJn q 0 (D (j + 1))))), (5, .int (iv (D (j + 1)))), (4, .int (iv 5)), (0, .ref (gad (gSS ad) 38)), (1, .ref (gad (gSS ad) a)), (2, .int (iv (j : Int))), (3, .int (iv (q : Int)))]) dX2_joinedParts_110 1 rfl rfl (by decide) rfl ?_
        refine gg_goto (tgt := 81) dX2_joinedParts_113 (by decide) ?_
        refine gg_iload dX2_joinedParts_81 0 rfl ?_
        refine gg_aload_n dX2_joinedParts_83 5 rfl ?_
        refine gg_iload_n dX2_joinedParts_84 6 rfl ?_
        refine gg_callVi (own := RX2) (yt := gm_X1_parts) rfl gl_RX2_59 gk_X1_parts gr_X1_parts dX2_joinedParts_85 (c_X1_parts (d := d - 1) hF hA hW.1 (j := j) (by omega) (by omega) hK) (gFsh hF) (gFlt hF) (by decide) rfl rfl rfl (Nat.le_of_ble_eq_true rfl) (by show _ ≤ d; omega) ⟨Nat.le_refl _, Nat.le_refl _⟩ (fun e122 μ' hc => ?_)
        obtain ⟨rfl, rfl⟩ := hc
        refine gg_toI (b := 1) (by rw [hk]; rfl) ?_
        refine gg_icmp_ge_t (tgt := 116) dX2_joinedParts_88 (by decide) (by decide) (by decide) ?_
        refine gg_iload dX2_joinedParts_116 1 rfl ?_
        refine gg_ireti dX2_joinedParts_118 rfl ⟨rfl, rfl⟩ ?_
        refine ⟨rfl, ?_⟩
        rw [hk]
        unfold gDj
        rw [if_neg (show ¬ (q = 4 ∧ 5 = 6) by omega), if_neg (show ¬ (q = 5 ∧ 5 = 7) by omega)]
        exact rfl
      · refine gg_iload dX2_joinedParts_63 1 rfl ?_
        refine gg_bipush dX2_joinedParts_65 (by decide) ?_
        refine gg_icmp_ne_t (tgt := 75) dX2_joinedParts_67 (by decide) (by decide) (by decide) ?_
        refine gg_iconst dX2_joinedParts_75 ?_
        refine gg_istore (ls' := [(6, .int (iv 0)), (5, .int (iv (D (j + 1)))), (4, .int (iv 5)), (0, .ref (gad (gSS ad) 38)), (1, .ref (gad (gSS ad) a)), (2, .int (iv (j : Int))), (3, .int (iv (q : Int)))]) dX2_joinedParts_76 (by decide) rfl ?_
        refine gg_iconst dX2_joinedParts_78 ?_
        refine gg_istore (ls' := [(7, .int (iv 0)), (6, .int (iv 0)), (5, .int (iv (D (j + 1)))), (4, .int (iv 5)), (0, .ref (gad (gSS ad) 38)), (1, .ref (gad (gSS ad) a)), (2, .int (iv (j : Int))), (3, .int (iv (q : Int)))]) dX2_joinedParts_79 (by decide) rfl ?_
        refine gg_iload dX2_joinedParts_81 0 rfl ?_
        refine gg_aload_n dX2_joinedParts_83 5 rfl ?_
        refine gg_iload_n dX2_joinedParts_84 6 rfl ?_
        refine gg_callVi (own := RX2) (yt := gm_X1_parts) rfl gl_RX2_59 gk_X1_parts gr_X1_parts dX2_joinedParts_85 (c_X1_parts (d := d - 1) hF hA hW.1 (j := j) (by omega) (by omega) hK) (gFsh hF) (gFlt hF) (by decide) rfl rfl rfl (Nat.le_of_ble_eq_true rfl) (by show _ ≤ d; omega) ⟨Nat.le_refl _, Nat.le_refl _⟩ (fun e123 μ' hc => ?_)
        obtain ⟨rfl, rfl⟩ := hc
        refine gg_toI (b := 1) (by rw [hk]; rfl) ?_
        refine gg_icmp_ge_f (tgt := 116) dX2_joinedParts_88 (by decide) (by decide) (by decide) ?_
        refine gg_iload_n dX2_joinedParts_91 7 rfl ?_
        refine gg_iload dX2_joinedParts_92 1 rfl ?_
        refine gg_aload_n dX2_joinedParts_94 4 rfl ?_
        refine gg_aload_n dX2_joinedParts_95 5 rfl ?_
        refine gg_iload_n dX2_joinedParts_96 6 rfl ?_
        refine gg_iload dX2_joinedParts_97 0 rfl ?_
        refine gg_callVi (own := RX2) (yt := gm_X1_part) rfl gl_RX2_52 gk_X1_part gr_X1_part dX2_joinedParts_99 (c_X1_part0 (d := d - 1) hF hA hW.1 (j := j) hj (by omega)) (gFsh hF) (gFlt hF) (by decide) rfl rfl rfl (Nat.le_of_ble_eq_true rfl) (by show _ ≤ d; omega) ⟨Nat.le_refl _, Nat.le_refl _⟩ (fun e124 μ' hc => ?_)
        obtain ⟨rfl, rfl⟩ := hc
        refine gg_callVi (own := RX2) (yt := gm_X2_toldOf) rfl gl_RX2_49 gk_X2_toldOf gr_X2_toldOf dX2_joinedParts_102 (c_X2_toldOf (d := d - 1) (k := j + 1) (by have := (hc1 (by rw [hk]; decide)); omega)) sh_38 pl_38 (by decide) rfl rfl rfl (Nat.le_of_ble_eq_true rfl) (by show _ ≤ d; omega) ⟨Nat.le_refl _, Nat.le_refl _⟩ (fun e125 μ' hc => ?_)
        obtain ⟨rfl, rfl⟩ := hc
        refine gg_toI (b := D (j + 1)) (by have hlt : j + 1 < n := (hc1 (by rw [hk]; decide)); rw [if_pos (show j + 1 < 200 by omega)]; exact ht _ (by omega) hlt) ?_
        refine gg_callSi (own := RX2) (yt := gm_X2_join) rfl gl_RX2_55 gk_X2_join gr_X2_join dX2_joinedParts_105 (c_X2_join (d := d - 1) (q := q) hq (by first | omega | (have := @gJn_rng q 0 (D (j + 1)) 0 9999 (by omega) (by omega); have := @gJn_rng q (gJn q 0 (D (j + 1))) (D (gPt Z j 1)) 9999 9999 (by omega) (by omega); omega) | (have := @gJn_rng q 0 (D (j + 1)) 0 9999 (by omega) (by omega); omega)) (by omega) (by omega)) rfl rfl (Nat.le_of_ble_eq_true rfl) (by show _ ≤ d; omega) ⟨Nat.le_refl _, Nat.le_refl _⟩ (fun e126 μ' hc => ?_)
        obtain ⟨rfl, rfl⟩ := hc
        refine gg_istore (ls' := [(6, .int (iv (gJn q 0 (D (j + 1))))), (7, .int (iv 0)), (5, .int (iv (D (j + 1)))), (4, .int (iv 5)), (0, .ref (gad (gSS ad) 38)), (1, .ref (gad (gSS ad) a)), (2, .int (iv (j : Int))), (3, .int (iv (q : Int)))]) dX2_joinedParts_108 (by decide) rfl ?_
        refine gg_iincv (ls' := [(7, .int (iv 1)), (6, .int (iv (gJn q 0 (D (j + 1))))), (5, .int (iv (D (j + 1)))), (4, .int (iv 5)), (0, .ref (gad (gSS ad) 38)), (1, .ref (gad (gSS ad) a)), (2, .int (iv (j : Int))), (3, .int (iv (q : Int)))]) dX2_joinedParts_110 1 rfl rfl (by decide) rfl ?_
        refine gg_goto (tgt := 81) dX2_joinedParts_113 (by decide) ?_
        refine gg_iload dX2_joinedParts_81 0 rfl ?_
        refine gg_aload_n dX2_joinedParts_83 5 rfl ?_
        refine gg_iload_n dX2_joinedParts_84 6 rfl ?_
        refine gg_callVi (own := RX2) (yt := gm_X1_parts) rfl gl_RX2_59 gk_X1_parts gr_X1_parts dX2_joinedParts_85 (c_X1_parts (d := d - 1) hF hA hW.1 (j := j) (by omega) (by omega) hK) (gFsh hF) (gFlt hF) (by decide) rfl rfl rfl (Nat.le_of_ble_eq_true rfl) (by show _ ≤ d; omega) ⟨Nat.le_refl _, Nat.le_refl _⟩ (fun e127 μ' hc => ?_)
        obtain ⟨rfl, rfl⟩ := hc
        refine gg_toI (b := 1) (by rw [hk]; rfl) ?_
        refine gg_icmp_ge_t (tgt := 116) dX2_joinedParts_88 (by decide) (by decide) (by decide) ?_
        refine gg_iload dX2_joinedParts_116 1 rfl ?_
        refine gg_ireti dX2_joinedParts_118 rfl ⟨rfl, rfl⟩ ?_
        refine ⟨rfl, ?_⟩
        rw [hk]
        unfold gDj
        rw [if_neg (show ¬ (q = 4 ∧ 5 = 6) by omega), if_neg (show ¬ (q = 5 ∧ 5 = 7) by omega)]
        exact rfl
  · refine gg_toI (b := 6) (by omega) ?_
    refine gg_istore (ls' := [(4, .int (iv 6)), (0, .ref (gad (gSS ad) 38)), (1, .ref (gad (gSS ad) a)), (2, .int (iv (j : Int))), (3, .int (iv (q : Int)))]) dX2_joinedParts_5 (by decide) rfl ?_
    have g1 := r1 (by rw [hk]; decide)
    have g2 := r2 (by rw [hk]; decide)
    have g3 := r3 (by rw [hk]; decide)
    refine gg_aload_n dX2_joinedParts_7 1 rfl ?_
    refine gg_iload_n dX2_joinedParts_8 3 rfl ?_
    refine gg_iconst dX2_joinedParts_9 ?_
    refine gg_iadd dX2_joinedParts_10 ?_
    refine gg_callVi (own := RX2) (yt := gm_X2_toldOf) rfl gl_RX2_49 gk_X2_toldOf gr_X2_toldOf dX2_joinedParts_11 (c_X2_toldOf (d := d - 1) (k := j + 1) (by have := (hc1 (by rw [hk]; decide)); omega)) sh_38 pl_38 (by decide) rfl rfl rfl (Nat.le_of_ble_eq_true rfl) (by show _ ≤ d; omega) ⟨Nat.le_refl _, Nat.le_refl _⟩ (fun e128 μ' hc => ?_)
    obtain ⟨rfl, rfl⟩ := hc
    refine gg_toI (b := D (j + 1)) (by have hlt : j + 1 < n := (hc1 (by rw [hk]; decide)); rw [if_pos (show j + 1 < 200 by omega)]; exact ht _ (by omega) hlt) ?_
    refine gg_istore (ls' := [(5, .int (iv (D (j + 1)))), (4, .int (iv 6)), (0, .ref (gad (gSS ad) 38)), (1, .ref (gad (gSS ad) a)), (2, .int (iv (j : Int))), (3, .int (iv (q : Int)))]) dX2_joinedParts_14 (by decide) rfl ?_
    refine gg_iload_n dX2_joinedParts_16 5 rfl ?_
    refine gg_iconst dX2_joinedParts_17 ?_
    refine gg_icmp_ne (tgt := 58) dX2_joinedParts_18 (by decide) (by omega) (fun hq4 => ?_) (fun hq4 => ?_)
    · refine gg_iload_n dX2_joinedParts_58 5 rfl ?_
      refine gg_iconst dX2_joinedParts_59 ?_
      refine gg_icmp_ne (tgt := 75) dX2_joinedParts_60 (by decide) (by omega) (fun hq5 => ?_) (fun hq5 => ?_)
      · refine gg_iconst dX2_joinedParts_75 ?_
        refine gg_istore (ls' := [(6, .int (iv 0)), (5, .int (iv (D (j + 1)))), (4, .int (iv 6)), (0, .ref (gad (gSS ad) 38)), (1, .ref (gad (gSS ad) a)), (2, .int (iv (j : Int))), (3, .int (iv (q : Int)))]) dX2_joinedParts_76 (by decide) rfl ?_
        refine gg_iconst dX2_joinedParts_78 ?_
        refine gg_istore (ls' := [(7, .int (iv 0)), (6, .int (iv 0)), (5, .int (iv (D (j + 1)))), (4, .int (iv 6)), (0, .ref (gad (gSS ad) 38)), (1, .ref (gad (gSS ad) a)), (2, .int (iv (j : Int))), (3, .int (iv (q : Int)))]) dX2_joinedParts_79 (by decide) rfl ?_
        refine gg_iload dX2_joinedParts_81 0 rfl ?_
        refine gg_aload_n dX2_joinedParts_83 5 rfl ?_
        refine gg_iload_n dX2_joinedParts_84 6 rfl ?_
        refine gg_callVi (own := RX2) (yt := gm_X1_parts) rfl gl_RX2_59 gk_X1_parts gr_X1_parts dX2_joinedParts_85 (c_X1_parts (d := d - 1) hF hA hW.1 (j := j) (by omega) (by omega) hK) (gFsh hF) (gFlt hF) (by decide) rfl rfl rfl (Nat.le_of_ble_eq_true rfl) (by show _ ≤ d; omega) ⟨Nat.le_refl _, Nat.le_refl _⟩ (fun e129 μ' hc => ?_)
        obtain ⟨rfl, rfl⟩ := hc
        refine gg_toI (b := 3) (by rw [hk]; rfl) ?_
        refine gg_icmp_ge_f (tgt := 116) dX2_joinedParts_88 (by decide) (by decide) (by decide) ?_
        refine gg_iload_n dX2_joinedParts_91 7 rfl ?_
        refine gg_iload dX2_joinedParts_92 1 rfl ?_
        refine gg_aload_n dX2_joinedParts_94 4 rfl ?_
        refine gg_aload_n dX2_joinedParts_95 5 rfl ?_
        refine gg_iload_n dX2_joinedParts_96 6 rfl ?_
        refine gg_iload dX2_joinedParts_97 0 rfl ?_
        refine gg_callVi (own := RX2) (yt := gm_X1_part) rfl gl_RX2_52 gk_X1_part gr_X1_part dX2_joinedParts_99 (c_X1_part0 (d := d - 1) hF hA hW.1 (j := j) hj (by omega)) (gFsh hF) (gFlt hF) (by decide) rfl rfl rfl (Nat.le_of_ble_eq_true rfl) (by show _ ≤ d; omega) ⟨Nat.le_refl _, Nat.le_refl _⟩ (fun e130 μ' hc => ?_)
        obtain ⟨rfl, rfl⟩ := hc
        refine gg_callVi (own := RX2) (yt := gm_X2_toldOf) rfl gl_RX2_49 gk_X2_toldOf gr_X2_toldOf dX2_joinedParts_102 (c_X2_toldOf (d := d - 1) (k := j + 1) (by have := (hc1 (by rw [hk]; decide)); omega)) sh_38 pl_38 (by decide) rfl rfl rfl (Nat.le_of_ble_eq_true rfl) (by show _ ≤ d; omega) ⟨Nat.le_refl _, Nat.le_refl _⟩ (fun e131 μ' hc => ?_)
        obtain ⟨rfl, rfl⟩ := hc
        refine gg_toI (b := D (j + 1)) (by have hlt : j + 1 < n := (hc1 (by rw [hk]; decide)); rw [if_pos (show j + 1 < 200 by omega)]; exact ht _ (by omega) hlt) ?_
        refine gg_callSi (own := RX2) (yt := gm_X2_join) rfl gl_RX2_55 gk_X2_join gr_X2_join dX2_joinedParts_105 (c_X2_join (d := d - 1) (q := q) hq (by first | omega | (have := @gJn_rng q 0 (D (j + 1)) 0 9999 (by omega) (by omega); have := @gJn_rng q (gJn q 0 (D (j + 1))) (D (gPt Z j 1)) 9999 9999 (by omega) (by omega); omega) | (have := @gJn_rng q 0 (D (j + 1)) 0 9999 (by omega) (by omega); omega)) (by omega) (by omega)) rfl rfl (Nat.le_of_ble_eq_true rfl) (by show _ ≤ d; omega) ⟨Nat.le_refl _, Nat.le_refl _⟩ (fun e132 μ' hc => ?_)
        obtain ⟨rfl, rfl⟩ := hc
        refine gg_istore (ls' := [(6, .int (iv (gJn q 0 (D (j + 1))))), (7, .int (iv 0)), (5, .int (iv (D (j + 1)))), (4, .int (iv 6)), (0, .ref (gad (gSS ad) 38)), (1, .ref (gad (gSS ad) a)), (2, .int (iv (j : Int))), (3, .int (iv (q : Int)))]) dX2_joinedParts_108 (by decide) rfl ?_
        refine gg_iincv (ls' := [(7, .int (iv 1)), (6, .int (iv (gJn q 0 (D (j + 1))))), (5, .int (iv (D (j + 1)))), (4, .int (iv 6)), (0, .ref (gad (gSS ad) 38)), (1, .ref (gad (gSS ad) a)), (2, .int (iv (j : Int))), (3, .int (iv (q : Int)))]) dX2_joinedParts_110 1 rfl rfl (by decide) rfl ?_
        refine gg_goto (tgt := 81) dX2_joinedParts_113 (by decide) ?_
        refine gg_iload dX2_joinedParts_81 0 rfl ?_
        refine gg_aload_n dX2_joinedParts_83 5 rfl ?_
        refine gg_iload_n dX2_joinedParts_84 6 rfl ?_
        refine gg_callVi (own := RX2) (yt := gm_X1_parts) rfl gl_RX2_59 gk_X1_parts gr_X1_parts dX2_joinedParts_85 (c_X1_parts (d := d - 1) hF hA hW.1 (j := j) (by omega) (by omega) hK) (gFsh hF) (gFlt hF) (by decide) rfl rfl rfl (Nat.le_of_ble_eq_true rfl) (by show _ ≤ d; omega) ⟨Nat.le_refl _, Nat.le_refl _⟩ (fun e133 μ' hc => ?_)
        obtain ⟨rfl, rfl⟩ := hc
        refine gg_toI (b := 3) (by rw [hk]; rfl) ?_
        refine gg_icmp_ge_f (tgt := 116) dX2_joinedParts_88 (by decide) (by decide) (by decide) ?_
        refine gg_iload_n dX2_joinedParts_91 7 rfl ?_
        refine gg_iload dX2_joinedParts_92 1 rfl ?_
        refine gg_aload_n dX2_joinedParts_94 4 rfl ?_
        refine gg_aload_n dX2_joinedParts_95 5 rfl ?_
        refine gg_iload_n dX2_joinedParts_96 6 rfl ?_
        refine gg_iload dX2_joinedParts_97 0 rfl ?_
        refine gg_callVi (own := RX2) (yt := gm_X1_part) rfl gl_RX2_52 gk_X1_part gr_X1_part dX2_joinedParts_99 (c_X1_part1 (d := d - 1) hF hA hW.1 (j := j) (hc1 (by rw [hk]; decide)) hj (by omega)) (gFsh hF) (gFlt hF) (by decide) rfl rfl rfl (Nat.le_of_ble_eq_true rfl) (by show _ ≤ d; omega) ⟨Nat.le_refl _, Nat.le_refl _⟩ (fun e134 μ' hc => ?_)
        obtain ⟨rfl, rfl⟩ := hc
        refine gg_callVi (own := RX2) (yt := gm_X2_toldOf) rfl gl_RX2_49 gk_X2_toldOf gr_X2_toldOf dX2_joinedParts_102 (c_X2_toldOf (d := d - 1) (k := gPt Z j 1) (by have := (hc2 (by rw [hk]; decide)); omega)) sh_38 pl_38 (by decide) rfl rfl rfl (Nat.le_of_ble_eq_true rfl) (by show _ ≤ d; omega) ⟨Nat.le_refl _, Nat.le_refl _⟩ (fun e135 μ' hc => ?_)
        obtain ⟨rfl, rfl⟩ := hc
        refine gg_toI (b := D (gPt Z j 1)) (by have hlt : gPt Z j 1 < n := (hc2 (by rw [hk]; decide)); rw [if_pos (show gPt Z j 1 < 200 by omega)]; exact ht _ (by simp only [gPt]; omega) hlt) ?_
        refine gg_callSi (own := RX2) (yt := gm_X2_join) rfl gl_RX2_55 gk_X2_join gr_X2_join dX2_joinedParts_105 (c_X2_join (d := d - 1) (q := q) hq (by first | omega | (have := @gJn_rng q 0 (D (j + 1)) 0 9999 (by omega) (by omega); have := @gJn_rng q (gJn q 0 (D (j + 1))) (D (gPt Z j 1)) 9999 9999 (by omega) (by omega); omega) | (have := @gJn_rng q 0 (D (j + 1)) 0 9999 (by omega) (by omega); omega)) (by omega) (by omega)) rfl rfl (Nat.le_of_ble_eq_true rfl) (by show _ ≤ d; omega) ⟨Nat.le_refl _, Nat.le_refl _⟩ (fun e136 μ' hc => ?_)
        obtain ⟨rfl, rfl⟩ := hc
        refine gg_istore (ls' := [(6, .int (iv (gJn q (gJn q 0 (D (j + 1))) (D (gPt Z j 1))))), (7, .int (iv 1)), (5, .int (iv (D (j + 1)))), (4, .int (iv 6)), (0, .ref (gad (gSS ad) 38)), (1, .ref (gad (gSS ad) a)), (2, .int (iv (j : Int))), (3, .int (iv (q : Int)))]) dX2_joinedParts_108 (by decide) rfl ?_
        refine gg_iincv (ls' := [(7, .int (iv 2)), (6, .int (iv (gJn q (gJn q 0 (D (j + 1))) (D (gPt Z j 1))))), (5, .int (iv (D (j + 1)))), (4, .int (iv 6)), (0, .ref (gad (gSS ad) 38)), (1, .ref (gad (gSS ad) a)), (2, .int (iv (j : Int))), (3, .int (iv (q : Int)))]) dX2_joinedParts_110 1 rfl rfl (by decide) rfl ?_
        refine gg_goto (tgt := 81) dX2_joinedParts_113 (by decide) ?_
        refine gg_iload dX2_joinedParts_81 0 rfl ?_
        refine gg_aload_n dX2_joinedParts_83 5 rfl ?_
        refine gg_iload_n dX2_joinedParts_84 6 rfl ?_
        refine gg_callVi (own := RX2) (yt := gm_X1_parts) rfl gl_RX2_59 gk_X1_parts gr_X1_parts dX2_joinedParts_85 (c_X1_parts (d := d - 1) hF hA hW.1 (j := j) (by omega) (by omega) hK) (gFsh hF) (gFlt hF) (by decide) rfl rfl rfl (Nat.le_of_ble_eq_true rfl) (by show _ ≤ d; omega) ⟨Nat.le_refl _, Nat.le_refl _⟩ (fun e137 μ' hc => ?_)
        obtain ⟨rfl, rfl⟩ := hc
        refine gg_toI (b := 3) (by rw [hk]; rfl) ?_
        refine gg_icmp_ge_f (tgt := 116) dX2_joinedParts_88 (by decide) (by decide) (by decide) ?_
        refine gg_iload_n dX2_joinedParts_91 7 rfl ?_
        refine gg_iload dX2_joinedParts_92 1 rfl ?_
        refine gg_aload_n dX2_joinedParts_94 4 rfl ?_
        refine gg_aload_n dX2_joinedParts_95 5 rfl ?_
        refine gg_iload_n dX2_joinedParts_96 6 rfl ?_
        refine gg_iload dX2_joinedParts_97 0 rfl ?_
        refine gg_callVi (own := RX2) (yt := gm_X1_part) rfl gl_RX2_52 gk_X1_part gr_X1_part dX2_joinedParts_99 (c_X1_part2 (d := d - 1) hF hA hW.1 (j := j) (hc1 (by rw [hk]; decide)) (hc2 (by rw [hk]; decide)) hj (by omega)) (gFsh hF) (gFlt hF) (by decide) rfl rfl rfl (Nat.le_of_ble_eq_true rfl) (by show _ ≤ d; omega) ⟨Nat.le_refl _, Nat.le_refl _⟩ (fun e138 μ' hc => ?_)
        obtain ⟨rfl, rfl⟩ := hc
        refine gg_callVi (own := RX2) (yt := gm_X2_toldOf) rfl gl_RX2_49 gk_X2_toldOf gr_X2_toldOf dX2_joinedParts_102 (c_X2_toldOf (d := d - 1) (k := gPt Z j 2) (by have := (hc3 (by rw [hk]; decide)); omega)) sh_38 pl_38 (by decide) rfl rfl rfl (Nat.le_of_ble_eq_true rfl) (by show _ ≤ d; omega) ⟨Nat.le_refl _, Nat.le_refl _⟩ (fun e139 μ' hc => ?_)
        obtain ⟨rfl, rfl⟩ := hc
        refine gg_toI (b := D (gPt Z j 2)) (by have hlt : gPt Z j 2 < n := (hc3 (by rw [hk]; decide)); rw [if_pos (show gPt Z j 2 < 200 by omega)]; exact ht _ (by simp only [gPt]; omega) hlt) ?_
        refine gg_callSi (own := RX2) (yt := gm_X2_join) rfl gl_RX2_55 gk_X2_join gr_X2_join dX2_joinedParts_105 (c_X2_join (d := d - 1) (q := q) hq (by first | omega | (have := @gJn_rng q 0 (D (j + 1)) 0 9999 (by omega) (by omega); have := @gJn_rng q (gJn q 0 (D (j + 1))) (D (gPt Z j 1)) 9999 9999 (by omega) (by omega); omega) | (have := @gJn_rng q 0 (D (j + 1)) 0 9999 (by omega) (by omega); omega)) (by omega) (by omega)) rfl rfl (Nat.le_of_ble_eq_true rfl) (by show _ ≤ d; omega) ⟨Nat.le_refl _, Nat.le_refl _⟩ (fun e140 μ' hc => ?_)
        obtain ⟨rfl, rfl⟩ := hc
        refine gg_istore (ls' := [(6, .int (iv (gJn q (gJn q (gJn q 0 (D (j + 1))) (D (gPt Z j 1))) (D (gPt Z j 2))))), (7, .int (iv 2)), (5, .int (iv (D (j + 1)))), (4, .int (iv 6)), (0, .ref (gad (gSS ad) 38)), (1, .ref (gad (gSS ad) a)), (2, .int (iv (j : Int))), (3, .int (iv (q : Int)))]) dX2_joinedParts_108 (by decide) rfl ?_
        refine gg_iincv (ls' := [(7, .int (iv 3)), (6, .int (iv (gJn q (gJn q (gJn q 0 (D (j + 1))) (D (gPt Z j 1))) (D (gPt Z j 2))))), (5, .int (iv (D (j + 1)))), (4, .int (iv 6)), (0, .ref (gad (gSS ad) 38)), (1, .ref (gad (gSS ad) a)), (2, .int (iv (j : Int))), (3, .int (iv (q : Int)))]) dX2_joinedParts_110 1 rfl rfl (by decide) rfl ?_
        refine gg_goto (tgt := 81) dX2_joinedParts_113 (by decide) ?_
        refine gg_iload dX2_joinedParts_81 0 rfl ?_
        refine gg_aload_n dX2_joinedParts_83 5 rfl ?_
        refine gg_iload_n dX2_joinedParts_84 6 rfl ?_
        refine gg_callVi (own := RX2) (yt := gm_X1_parts) rfl gl_RX2_59 gk_X1_parts gr_X1_parts dX2_joinedParts_85 (c_X1_parts (d := d - 1) hF hA hW.1 (j := j) (by omega) (by omega) hK) (gFsh hF) (gFlt hF) (by decide) rfl rfl rfl (Nat.le_of_ble_eq_true rfl) (by show _ ≤ d; omega) ⟨Nat.le_refl _, Nat.le_refl _⟩ (fun e141 μ' hc => ?_)
        obtain ⟨rfl, rfl⟩ := hc
        refine gg_toI (b := 3) (by rw [hk]; rfl) ?_
        refine gg_icmp_ge_t (tgt := 116) dX2_joinedParts_88 (by decide) (by decide) (by decide) ?_
        refine gg_iload dX2_joinedParts_116 1 rfl ?_
        refine gg_ireti dX2_joinedParts_118 rfl ⟨rfl, rfl⟩ ?_
        refine ⟨rfl, ?_⟩
        rw [hk]
        unfold gDj
        rw [if_neg (show ¬ (q = 4 ∧ 6 = 6) by omega), if_neg (show ¬ (q = 5 ∧ 6 = 7) by omega)]
        exact rfl
      · refine gg_iload dX2_joinedParts_63 1 rfl ?_
        refine gg_bipush dX2_joinedParts_65 (by decide) ?_
        refine gg_icmp_ne_t (tgt := 75) dX2_joinedParts_67 (by decide) (by decide) (by decide) ?_
        refine gg_iconst dX2_joinedParts_75 ?_
        refine gg_istore (ls' := [(6, .int (iv 0)), (5, .int (iv (D (j + 1)))), (4, .int (iv 6)), (0, .ref (gad (gSS ad) 38)), (1, .ref (gad (gSS ad) a)), (2, .int (iv (j : Int))), (3, .int (iv (q : Int)))]) dX2_joinedParts_76 (by decide) rfl ?_
        refine gg_iconst dX2_joinedParts_78 ?_
        refine gg_istore (ls' := [(7, .int (iv 0)), (6, .int (iv 0)), (5, .int (iv (D (j + 1)))), (4, .int (iv 6)), (0, .ref (gad (gSS ad) 38)), (1, .ref (gad (gSS ad) a)), (2, .int (iv (j : Int))), (3, .int (iv (q : Int)))]) dX2_joinedParts_79 (by decide) rfl ?_
        refine gg_iload dX2_joinedParts_81 0 rfl ?_
        refine gg_aload_n dX2_joinedParts_83 5 rfl ?_
        refine gg_iload_n dX2_joinedParts_84 6 rfl ?_
        refine gg_callVi (own := RX2) (yt := gm_X1_parts) rfl gl_RX2_59 gk_X1_parts gr_X1_parts dX2_joinedParts_85 (c_X1_parts (d := d - 1) hF hA hW.1 (j := j) (by omega) (by omega) hK) (gFsh hF) (gFlt hF) (by decide) rfl rfl rfl (Nat.le_of_ble_eq_true rfl) (by show _ ≤ d; omega) ⟨Nat.le_refl _, Nat.le_refl _⟩ (fun e142 μ' hc => ?_)
        obtain ⟨rfl, rfl⟩ := hc
        refine gg_toI (b := 3) (by rw [hk]; rfl) ?_
        refine gg_icmp_ge_f (tgt := 116) dX2_joinedParts_88 (by decide) (by decide) (by decide) ?_
        refine gg_iload_n dX2_joinedParts_91 7 rfl ?_
        refine gg_iload dX2_joinedParts_92 1 rfl ?_
        refine gg_aload_n dX2_joinedParts_94 4 rfl ?_
        refine gg_aload_n dX2_joinedParts_95 5 rfl ?_
        refine gg_iload_n dX2_joinedParts_96 6 rfl ?_
        refine gg_iload dX2_joinedParts_97 0 rfl ?_
        refine gg_callVi (own := RX2) (yt := gm_X1_part) rfl gl_RX2_52 gk_X1_part gr_X1_part dX2_joinedParts_99 (c_X1_part0 (d := d - 1) hF hA hW.1 (j := j) hj (by omega)) (gFsh hF) (gFlt hF) (by decide) rfl rfl rfl (Nat.le_of_ble_eq_true rfl) (by show _ ≤ d; omega) ⟨Nat.le_refl _, Nat.le_refl _⟩ (fun e143 μ' hc => ?_)
        obtain ⟨rfl, rfl⟩ := hc
        refine gg_callVi (own := RX2) (yt := gm_X2_toldOf) rfl gl_RX2_49 gk_X2_toldOf gr_X2_toldOf dX2_joinedParts_102 (c_X2_toldOf (d := d - 1) (k := j + 1) (by have := (hc1 (by rw [hk]; decide)); omega)) sh_38 pl_38 (by decide) rfl rfl rfl (Nat.le_of_ble_eq_true rfl) (by show _ ≤ d; omega) ⟨Nat.le_refl _, Nat.le_refl _⟩ (fun e144 μ' hc => ?_)
        obtain ⟨rfl, rfl⟩ := hc
        refine gg_toI (b := D (j + 1)) (by have hlt : j + 1 < n := (hc1 (by rw [hk]; decide)); rw [if_pos (show j + 1 < 200 by omega)]; exact ht _ (by omega) hlt) ?_
        refine gg_callSi (own := RX2) (yt := gm_X2_join) rfl gl_RX2_55 gk_X2_join gr_X2_join dX2_joinedParts_105 (c_X2_join (d := d - 1) (q := q) hq (by first | omega | (have := @gJn_rng q 0 (D (j + 1)) 0 9999 (by omega) (by omega); have := @gJn_rng q (gJn q 0 (D (j + 1))) (D (gPt Z j 1)) 9999 9999 (by omega) (by omega); omega) | (have := @gJn_rng q 0 (D (j + 1)) 0 9999 (by omega) (by omega); omega)) (by omega) (by omega)) rfl rfl (Nat.le_of_ble_eq_true rfl) (by show _ ≤ d; omega) ⟨Nat.le_refl _, Nat.le_refl _⟩ (fun e145 μ' hc => ?_)
        obtain ⟨rfl, rfl⟩ := hc
        refine gg_istore (ls' := [(6, .int (iv (gJn q 0 (D (j + 1))))), (7, .int (iv 0)), (5, .int (iv (D (j + 1)))), (4, .int (iv 6)), (0, .ref (gad (gSS ad) 38)), (1, .ref (gad (gSS ad) a)), (2, .int (iv (j : Int))), (3, .int (iv (q : Int)))]) dX2_joinedParts_108 (by decide) rfl ?_
        refine gg_iincv (ls' := [(7, .int (iv 1)), (6, .int (iv (gJn q 0 (D (j + 1))))), (5, .int (iv (D (j + 1)))), (4, .int (iv 6)), (0, .ref (gad (gSS ad) 38)), (1, .ref (gad (gSS ad) a)), (2, .int (iv (j : Int))), (3, .int (iv (q : Int)))]) dX2_joinedParts_110 1 rfl rfl (by decide) rfl ?_
        refine gg_goto (tgt := 81) dX2_joinedParts_113 (by decide) ?_
        refine gg_iload dX2_joinedParts_81 0 rfl ?_
        refine gg_aload_n dX2_joinedParts_83 5 rfl ?_
        refine gg_iload_n dX2_joinedParts_84 6 rfl ?_
        refine gg_callVi (own := RX2) (yt := gm_X1_parts) rfl gl_RX2_59 gk_X1_parts gr_X1_parts dX2_joinedParts_85 (c_X1_parts (d := d - 1) hF hA hW.1 (j := j) (by omega) (by omega) hK) (gFsh hF) (gFlt hF) (by decide) rfl rfl rfl (Nat.le_of_ble_eq_true rfl) (by show _ ≤ d; omega) ⟨Nat.le_refl _, Nat.le_refl _⟩ (fun e146 μ' hc => ?_)
        obtain ⟨rfl, rfl⟩ := hc
        refine gg_toI (b := 3) (by rw [hk]; rfl) ?_
        refine gg_icmp_ge_f (tgt := 116) dX2_joinedParts_88 (by decide) (by decide) (by decide) ?_
        refine gg_iload_n dX2_joinedParts_91 7 rfl ?_
        refine gg_iload dX2_joinedParts_92 1 rfl ?_
        refine gg_aload_n dX2_joinedParts_94 4 rfl ?_
        refine gg_aload_n dX2_joinedParts_95 5 rfl ?_
        refine gg_iload_n dX2_joinedParts_96 6 rfl ?_
        refine gg_iload dX2_joinedParts_97 0 rfl ?_
        refine gg_callVi (own := RX2) (yt := gm_X1_part) rfl gl_RX2_52 gk_X1_part gr_X1_part dX2_joinedParts_99 (c_X1_part1 (d := d - 1) hF hA hW.1 (j := j) (hc1 (by rw [hk]; decide)) hj (by omega)) (gFsh hF) (gFlt hF) (by decide) rfl rfl rfl (Nat.le_of_ble_eq_true rfl) (by show _ ≤ d; omega) ⟨Nat.le_refl _, Nat.le_refl _⟩ (fun e147 μ' hc => ?_)
        obtain ⟨rfl, rfl⟩ := hc
        refine gg_callVi (own := RX2) (yt := gm_X2_toldOf) rfl gl_RX2_49 gk_X2_toldOf gr_X2_toldOf dX2_joinedParts_102 (c_X2_toldOf (d := d - 1) (k := gPt Z j 1) (by have := (hc2 (by rw [hk]; decide)); omega)) sh_38 pl_38 (by decide) rfl rfl rfl (Nat.le_of_ble_eq_true rfl) (by show _ ≤ d; omega) ⟨Nat.le_refl _, Nat.le_refl _⟩ (fun e148 μ' hc => ?_)
        obtain ⟨rfl, rfl⟩ := hc
        refine gg_toI (b := D (gPt Z j 1)) (by have hlt : gPt Z j 1 < n := (hc2 (by rw [hk]; decide)); rw [if_pos (show gPt Z j 1 < 200 by omega)]; exact ht _ (by simp only [gPt]; omega) hlt) ?_
        refine gg_callSi (own := RX2) (yt := gm_X2_join) rfl gl_RX2_55 gk_X2_join gr_X2_join dX2_joinedParts_105 (c_X2_join (d := d - 1) (q := q) hq (by first | omega | (have := @gJn_rng q 0 (D (j + 1)) 0 9999 (by omega) (by omega); have := @gJn_rng q (gJn q 0 (D (j + 1))) (D (gPt Z j 1)) 9999 9999 (by omega) (by omega); omega) | (have := @gJn_rng q 0 (D (j + 1)) 0 9999 (by omega) (by omega); omega)) (by omega) (by omega)) rfl rfl (Nat.le_of_ble_eq_true rfl) (by show _ ≤ d; omega) ⟨Nat.le_refl _, Nat.le_refl _⟩ (fun e149 μ' hc => ?_)
        obtain ⟨rfl, rfl⟩ := hc
        refine gg_istore (ls' := [(6, .int (iv (gJn q (gJn q 0 (D (j + 1))) (D (gPt Z j 1))))), (7, .int (iv 1)), (5, .int (iv (D (j + 1)))), (4, .int (iv 6)), (0, .ref (gad (gSS ad) 38)), (1, .ref (gad (gSS ad) a)), (2, .int (iv (j : Int))), (3, .int (iv (q : Int)))]) dX2_joinedParts_108 (by decide) rfl ?_
        refine gg_iincv (ls' := [(7, .int (iv 2)), (6, .int (iv (gJn q (gJn q 0 (D (j + 1))) (D (gPt Z j 1))))), (5, .int (iv (D (j + 1)))), (4, .int (iv 6)), (0, .ref (gad (gSS ad) 38)), (1, .ref (gad (gSS ad) a)), (2, .int (iv (j : Int))), (3, .int (iv (q : Int)))]) dX2_joinedParts_110 1 rfl rfl (by decide) rfl ?_
        refine gg_goto (tgt := 81) dX2_joinedParts_113 (by decide) ?_
        refine gg_iload dX2_joinedParts_81 0 rfl ?_
        refine gg_aload_n dX2_joinedParts_83 5 rfl ?_
        refine gg_iload_n dX2_joinedParts_84 6 rfl ?_
        refine gg_callVi (own := RX2) (yt := gm_X1_parts) rfl gl_RX2_59 gk_X1_parts gr_X1_parts dX2_joinedParts_85 (c_X1_parts (d := d - 1) hF hA hW.1 (j := j) (by omega) (by omega) hK) (gFsh hF) (gFlt hF) (by decide) rfl rfl rfl (Nat.le_of_ble_eq_true rfl) (by show _ ≤ d; omega) ⟨Nat.le_refl _, Nat.le_refl _⟩ (fun e150 μ' hc => ?_)
        obtain ⟨rfl, rfl⟩ := hc
        refine gg_toI (b := 3) (by rw [hk]; rfl) ?_
        refine gg_icmp_ge_f (tgt := 116) dX2_joinedParts_88 (by decide) (by decide) (by decide) ?_
        refine gg_iload_n dX2_joinedParts_91 7 rfl ?_
        refine gg_iload dX2_joinedParts_92 1 rfl ?_
        refine gg_aload_n dX2_joinedParts_94 4 rfl ?_
        refine gg_aload_n dX2_joinedParts_95 5 rfl ?_
        refine gg_iload_n dX2_joinedParts_96 6 rfl ?_
        refine gg_iload dX2_joinedParts_97 0 rfl ?_
        refine gg_callVi (own := RX2) (yt := gm_X1_part) rfl gl_RX2_52 gk_X1_part gr_X1_part dX2_joinedParts_99 (c_X1_part2 (d := d - 1) hF hA hW.1 (j := j) (hc1 (by rw [hk]; decide)) (hc2 (by rw [hk]; decide)) hj (by omega)) (gFsh hF) (gFlt hF) (by decide) rfl rfl rfl (Nat.le_of_ble_eq_true rfl) (by show _ ≤ d; omega) ⟨Nat.le_refl _, Nat.le_refl _⟩ (fun e151 μ' hc => ?_)
        obtain ⟨rfl, rfl⟩ := hc
        refine gg_callVi (own := RX2) (yt := gm_X2_toldOf) rfl gl_RX2_49 gk_X2_toldOf gr_X2_toldOf dX2_joinedParts_102 (c_X2_toldOf (d := d - 1) (k := gPt Z j 2) (by have := (hc3 (by rw [hk]; decide)); omega)) sh_38 pl_38 (by decide) rfl rfl rfl (Nat.le_of_ble_eq_true rfl) (by show _ ≤ d; omega) ⟨Nat.le_refl _, Nat.le_refl _⟩ (fun e152 μ' hc => ?_)
        obtain ⟨rfl, rfl⟩ := hc
        refine gg_toI (b := D (gPt Z j 2)) (by have hlt : gPt Z j 2 < n := (hc3 (by rw [hk]; decide)); rw [if_pos (show gPt Z j 2 < 200 by omega)]; exact ht _ (by simp only [gPt]; omega) hlt) ?_
        refine gg_callSi (own := RX2) (yt := gm_X2_join) rfl gl_RX2_55 gk_X2_join gr_X2_join dX2_joinedParts_105 (c_X2_join (d := d - 1) (q := q) hq (by first | omega | (have := @gJn_rng q 0 (D (j + 1)) 0 9999 (by omega) (by omega); have := @gJn_rng q (gJn q 0 (D (j + 1))) (D (gPt Z j 1)) 9999 9999 (by omega) (by omega); omega) | (have := @gJn_rng q 0 (D (j + 1)) 0 9999 (by omega) (by omega); omega)) (by omega) (by omega)) rfl rfl (Nat.le_of_ble_eq_true rfl) (by show _ ≤ d; omega) ⟨Nat.le_refl _, Nat.le_refl _⟩ (fun e153 μ' hc => ?_)
        obtain ⟨rfl, rfl⟩ := hc
        refine gg_istore (ls' := [(6, .int (iv (gJn q (gJn q (gJn q 0 (D (j + 1))) (D (gPt Z j 1))) (D (gPt Z j 2))))), (7, .int (iv 2)), (5, .int (iv (D (j + 1)))), (4, .int (iv 6)), (0, .ref (gad (gSS ad) 38)), (1, .ref (gad (gSS ad) a)), (2, .int (iv (j : Int))), (3, .int (iv (q : Int)))]) dX2_joinedParts_108 (by decide) rfl ?_
        refine gg_iincv (ls' := [(7, .int (iv 3)), (6, .int (iv (gJn q (gJn q (gJn q 0 (D (j + 1))) (D (gPt Z j 1))) (D (gPt Z j 2))))), (5, .int (iv (D (j + 1)))), (4, .int (iv 6)), (0, .ref (gad (gSS ad) 38)), (1, .ref (gad (gSS ad) a)), (2, .int (iv (j : Int))), (3, .int (iv (q : Int)))]) dX2_joinedParts_110 1 rfl rfl (by decide) rfl ?_
        refine gg_goto (tgt := 81) dX2_joinedParts_113 (by decide) ?_
        refine gg_iload dX2_joinedParts_81 0 rfl ?_
        refine gg_aload_n dX2_joinedParts_83 5 rfl ?_
        refine gg_iload_n dX2_joinedParts_84 6 rfl ?_
        refine gg_callVi (own := RX2) (yt := gm_X1_parts) rfl gl_RX2_59 gk_X1_parts gr_X1_parts dX2_joinedParts_85 (c_X1_parts (d := d - 1) hF hA hW.1 (j := j) (by omega) (by omega) hK) (gFsh hF) (gFlt hF) (by decide) rfl rfl rfl (Nat.le_of_ble_eq_true rfl) (by show _ ≤ d; omega) ⟨Nat.le_refl _, Nat.le_refl _⟩ (fun e154 μ' hc => ?_)
        obtain ⟨rfl, rfl⟩ := hc
        refine gg_toI (b := 3) (by rw [hk]; rfl) ?_
        refine gg_icmp_ge_t (tgt := 116) dX2_joinedParts_88 (by decide) (by decide) (by decide) ?_
        refine gg_iload dX2_joinedParts_116 1 rfl ?_
        refine gg_ireti dX2_joinedParts_118 rfl ⟨rfl, rfl⟩ ?_
        refine ⟨rfl, ?_⟩
        rw [hk]
        unfold gDj
        rw [if_neg (show ¬ (q = 4 ∧ 6 = 6) by omega), if_neg (show ¬ (q = 5 ∧ 6 = 7) by omega)]
        exact rfl
    · refine gg_iload dX2_joinedParts_21 1 rfl ?_
      refine gg_bipush dX2_joinedParts_23 (by decide) ?_
      refine gg_icmp_ne_f (tgt := 58) dX2_joinedParts_25 (by decide) (by decide) (by decide) ?_
      refine gg_iload_n dX2_joinedParts_28 5 rfl ?_
      refine gg_iload dX2_joinedParts_29 0 rfl ?_
      refine gg_aload_n dX2_joinedParts_31 2 rfl ?_
      refine gg_aload_n dX2_joinedParts_32 3 rfl ?_
      refine gg_iload_n dX2_joinedParts_33 4 rfl ?_
      refine gg_iconst dX2_joinedParts_34 ?_
      refine gg_callVi (own := RX2) (yt := gm_X1_part) rfl gl_RX2_52 gk_X1_part gr_X1_part dX2_joinedParts_35 (c_X1_part1 (d := d - 1) hF hA hW.1 (j := j) (hc1 (by rw [hk]; decide)) hj (by omega)) (gFsh hF) (gFlt hF) (by decide) rfl rfl rfl (Nat.le_of_ble_eq_true rfl) (by show _ ≤ d; omega) ⟨Nat.le_refl _, Nat.le_refl _⟩ (fun e155 μ' hc => ?_)
      obtain ⟨rfl, rfl⟩ := hc
      refine gg_callVi (own := RX2) (yt := gm_X2_toldOf) rfl gl_RX2_49 gk_X2_toldOf gr_X2_toldOf dX2_joinedParts_38 (c_X2_toldOf (d := d - 1) (k := gPt Z j 1) (by have := (hc2 (by rw [hk]; decide)); omega)) sh_38 pl_38 (by decide) rfl rfl rfl (Nat.le_of_ble_eq_true rfl) (by show _ ≤ d; omega) ⟨Nat.le_refl _, Nat.le_refl _⟩ (fun e156 μ' hc => ?_)
      obtain ⟨rfl, rfl⟩ := hc
      refine gg_toI (b := D (gPt Z j 1)) (by have hlt : gPt Z j 1 < n := (hc2 (by rw [hk]; decide)); rw [if_pos (show gPt Z j 1 < 200 by omega)]; exact ht _ (by simp only [gPt]; omega) hlt) ?_
      refine gg_aload_n dX2_joinedParts_41 2 rfl ?_
      refine gg_aload_n dX2_joinedParts_42 3 rfl ?_
      refine gg_iload_n dX2_joinedParts_43 4 rfl ?_
      refine gg_iconst dX2_joinedParts_44 ?_
      refine gg_callVi (own := RX2) (yt := gm_X1_part) rfl gl_RX2_52 gk_X1_part gr_X1_part dX2_joinedParts_45 (c_X1_part2 (d := d - 1) hF hA hW.1 (j := j) (hc1 (by rw [hk]; decide)) (hc2 (by rw [hk]; decide)) hj (by omega)) (gFsh hF) (gFlt hF) (by decide) rfl rfl rfl (Nat.le_of_ble_eq_true rfl) (by show _ ≤ d; omega) ⟨Nat.le_refl _, Nat.le_refl _⟩ (fun e157 μ' hc => ?_)
      obtain ⟨rfl, rfl⟩ := hc
      refine gg_callVi (own := RX2) (yt := gm_X2_toldOf) rfl gl_RX2_49 gk_X2_toldOf gr_X2_toldOf dX2_joinedParts_48 (c_X2_toldOf (d := d - 1) (k := gPt Z j 2) (by have := (hc3 (by rw [hk]; decide)); omega)) sh_38 pl_38 (by decide) rfl rfl rfl (Nat.le_of_ble_eq_true rfl) (by show _ ≤ d; omega) ⟨Nat.le_refl _, Nat.le_refl _⟩ (fun e158 μ' hc => ?_)
      obtain ⟨rfl, rfl⟩ := hc
      refine gg_toI (b := D (gPt Z j 2)) (by have hlt : gPt Z j 2 < n := (hc3 (by rw [hk]; decide)); rw [if_pos (show gPt Z j 2 < 200 by omega)]; exact ht _ (by simp only [gPt]; omega) hlt) ?_
      refine gg_mmax rfl gl_RX2_38 dX2_joinedParts_51 (by omega) (Nat.le_of_ble_eq_true rfl) (by omega) ⟨Nat.le_refl _, Nat.le_refl _⟩ ?_
      refine gg_callSi (own := RX2) (yt := gm_X2_join) rfl gl_RX2_55 gk_X2_join gr_X2_join dX2_joinedParts_54 (c_X2_join (d := d - 1) (q := q) hq (by first | omega | (have := @gJn_rng q 0 (D (j + 1)) 0 9999 (by omega) (by omega); have := @gJn_rng q (gJn q 0 (D (j + 1))) (D (gPt Z j 1)) 9999 9999 (by omega) (by omega); omega) | (have := @gJn_rng q 0 (D (j + 1)) 0 9999 (by omega) (by omega); omega)) (by omega) (by omega)) rfl rfl (Nat.le_of_ble_eq_true rfl) (by show _ ≤ d; omega) ⟨Nat.le_refl _, Nat.le_refl _⟩ (fun e159 μ' hc => ?_)
      obtain ⟨rfl, rfl⟩ := hc
      refine gg_ireti dX2_joinedParts_57 rfl ⟨rfl, rfl⟩ ?_
      refine ⟨rfl, ?_⟩
      rw [hk]
      unfold gDj
      rw [if_pos (show q = 4 ∧ 6 = 6 by omega)]
  · refine gg_toI (b := 7) (by omega) ?_
    refine gg_istore (ls' := [(4, .int (iv 7)), (0, .ref (gad (gSS ad) 38)), (1, .ref (gad (gSS ad) a)), (2, .int (iv (j : Int))), (3, .int (iv (q : Int)))]) dX2_joinedParts_5 (by decide) rfl ?_
    have g1 := r1 (by rw [hk]; decide)
    refine gg_aload_n dX2_joinedParts_7 1 rfl ?_
    refine gg_iload_n dX2_joinedParts_8 3 rfl ?_
    refine gg_iconst dX2_joinedParts_9 ?_
    refine gg_iadd dX2_joinedParts_10 ?_
    refine gg_callVi (own := RX2) (yt := gm_X2_toldOf) rfl gl_RX2_49 gk_X2_toldOf gr_X2_toldOf dX2_joinedParts_11 (c_X2_toldOf (d := d - 1) (k := j + 1) (by have := (hc1 (by rw [hk]; decide)); omega)) sh_38 pl_38 (by decide) rfl rfl rfl (Nat.le_of_ble_eq_true rfl) (by show _ ≤ d; omega) ⟨Nat.le_refl _, Nat.le_refl _⟩ (fun e160 μ' hc => ?_)
    obtain ⟨rfl, rfl⟩ := hc
    refine gg_toI (b := D (j + 1)) (by have hlt : j + 1 < n := (hc1 (by rw [hk]; decide)); rw [if_pos (show j + 1 < 200 by omega)]; exact ht _ (by omega) hlt) ?_
    refine gg_istore (ls' := [(5, .int (iv (D (j + 1)))), (4, .int (iv 7)), (0, .ref (gad (gSS ad) 38)), (1, .ref (gad (gSS ad) a)), (2, .int (iv (j : Int))), (3, .int (iv (q : Int)))]) dX2_joinedParts_14 (by decide) rfl ?_
    refine gg_iload_n dX2_joinedParts_16 5 rfl ?_
    refine gg_iconst dX2_joinedParts_17 ?_
    refine gg_icmp_ne (tgt := 58) dX2_joinedParts_18 (by decide) (by omega) (fun hq4 => ?_) (fun hq4 => ?_)
    · refine gg_iload_n dX2_joinedParts_58 5 rfl ?_
      refine gg_iconst dX2_joinedParts_59 ?_
      refine gg_icmp_ne (tgt := 75) dX2_joinedParts_60 (by decide) (by omega) (fun hq5 => ?_) (fun hq5 => ?_)
      · refine gg_iconst dX2_joinedParts_75 ?_
        refine gg_istore (ls' := [(6, .int (iv 0)), (5, .int (iv (D (j + 1)))), (4, .int (iv 7)), (0, .ref (gad (gSS ad) 38)), (1, .ref (gad (gSS ad) a)), (2, .int (iv (j : Int))), (3, .int (iv (q : Int)))]) dX2_joinedParts_76 (by decide) rfl ?_
        refine gg_iconst dX2_joinedParts_78 ?_
        refine gg_istore (ls' := [(7, .int (iv 0)), (6, .int (iv 0)), (5, .int (iv (D (j + 1)))), (4, .int (iv 7)), (0, .ref (gad (gSS ad) 38)), (1, .ref (gad (gSS ad) a)), (2, .int (iv (j : Int))), (3, .int (iv (q : Int)))]) dX2_joinedParts_79 (by decide) rfl ?_
        refine gg_iload dX2_joinedParts_81 0 rfl ?_
        refine gg_aload_n dX2_joinedParts_83 5 rfl ?_
        refine gg_iload_n dX2_joinedParts_84 6 rfl ?_
        refine gg_callVi (own := RX2) (yt := gm_X1_parts) rfl gl_RX2_59 gk_X1_parts gr_X1_parts dX2_joinedParts_85 (c_X1_parts (d := d - 1) hF hA hW.1 (j := j) (by omega) (by omega) hK) (gFsh hF) (gFlt hF) (by decide) rfl rfl rfl (Nat.le_of_ble_eq_true rfl) (by show _ ≤ d; omega) ⟨Nat.le_refl _, Nat.le_refl _⟩ (fun e161 μ' hc => ?_)
        obtain ⟨rfl, rfl⟩ := hc
        refine gg_toI (b := 1) (by rw [hk]; rfl) ?_
        refine gg_icmp_ge_f (tgt := 116) dX2_joinedParts_88 (by decide) (by decide) (by decide) ?_
        refine gg_iload_n dX2_joinedParts_91 7 rfl ?_
        refine gg_iload dX2_joinedParts_92 1 rfl ?_
        refine gg_aload_n dX2_joinedParts_94 4 rfl ?_
        refine gg_aload_n dX2_joinedParts_95 5 rfl ?_
        refine gg_iload_n dX2_joinedParts_96 6 rfl ?_
        refine gg_iload dX2_joinedParts_97 0 rfl ?_
        refine gg_callVi (own := RX2) (yt := gm_X1_part) rfl gl_RX2_52 gk_X1_part gr_X1_part dX2_joinedParts_99 (c_X1_part0 (d := d - 1) hF hA hW.1 (j := j) hj (by omega)) (gFsh hF) (gFlt hF) (by decide) rfl rfl rfl (Nat.le_of_ble_eq_true rfl) (by show _ ≤ d; omega) ⟨Nat.le_refl _, Nat.le_refl _⟩ (fun e162 μ' hc => ?_)
        obtain ⟨rfl, rfl⟩ := hc
        refine gg_callVi (own := RX2) (yt := gm_X2_toldOf) rfl gl_RX2_49 gk_X2_toldOf gr_X2_toldOf dX2_joinedParts_102 (c_X2_toldOf (d := d - 1) (k := j + 1) (by have := (hc1 (by rw [hk]; decide)); omega)) sh_38 pl_38 (by decide) rfl rfl rfl (Nat.le_of_ble_eq_true rfl) (by show _ ≤ d; omega) ⟨Nat.le_refl _, Nat.le_refl _⟩ (fun e163 μ' hc => ?_)
        obtain ⟨rfl, rfl⟩ := hc
        refine gg_toI (b := D (j + 1)) (by have hlt : j + 1 < n := (hc1 (by rw [hk]; decide)); rw [if_pos (show j + 1 < 200 by omega)]; exact ht _ (by omega) hlt) ?_
        refine gg_callSi (own := RX2) (yt := gm_X2_join) rfl gl_RX2_55 gk_X2_join gr_X2_join dX2_joinedParts_105 (c_X2_join (d := d - 1) (q := q) hq (by first | omega | (have := @gJn_rng q 0 (D (j + 1)) 0 9999 (by omega) (by omega); have := @gJn_rng q (gJn q 0 (D (j + 1))) (D (gPt Z j 1)) 9999 9999 (by omega) (by omega); omega) | (have := @gJn_rng q 0 (D (j + 1)) 0 9999 (by omega) (by omega); omega)) (by omega) (by omega)) rfl rfl (Nat.le_of_ble_eq_true rfl) (by show _ ≤ d; omega) ⟨Nat.le_refl _, Nat.le_refl _⟩ (fun e164 μ' hc => ?_)
        obtain ⟨rfl, rfl⟩ := hc
        refine gg_istore (ls' := [(6, .int (iv (gJn q 0 (D (j + 1))))), (7, .int (iv 0)), (5, .int (iv (D (j + 1)))), (4, .int (iv 7)), (0, .ref (gad (gSS ad) 38)), (1, .ref (gad (gSS ad) a)), (2, .int (iv (j : Int))), (3, .int (iv (q : Int)))]) dX2_joinedParts_108 (by decide) rfl ?_
        refine gg_iincv (ls' := [(7, .int (iv 1)), (6, .int (iv (gJn q 0 (D (j + 1))))), (5, .int (iv (D (j + 1)))), (4, .int (iv 7)), (0, .ref (gad (gSS ad) 38)), (1, .ref (gad (gSS ad) a)), (2, .int (iv (j : Int))), (3, .int (iv (q : Int)))]) dX2_joinedParts_110 1 rfl rfl (by decide) rfl ?_
        refine gg_goto (tgt := 81) dX2_joinedParts_113 (by decide) ?_
        refine gg_iload dX2_joinedParts_81 0 rfl ?_
        refine gg_aload_n dX2_joinedParts_83 5 rfl ?_
        refine gg_iload_n dX2_joinedParts_84 6 rfl ?_
        refine gg_callVi (own := RX2) (yt := gm_X1_parts) rfl gl_RX2_59 gk_X1_parts gr_X1_parts dX2_joinedParts_85 (c_X1_parts (d := d - 1) hF hA hW.1 (j := j) (by omega) (by omega) hK) (gFsh hF) (gFlt hF) (by decide) rfl rfl rfl (Nat.le_of_ble_eq_true rfl) (by show _ ≤ d; omega) ⟨Nat.le_refl _, Nat.le_refl _⟩ (fun e165 μ' hc => ?_)
        obtain ⟨rfl, rfl⟩ := hc
        refine gg_toI (b := 1) (by rw [hk]; rfl) ?_
        refine gg_icmp_ge_t (tgt := 116) dX2_joinedParts_88 (by decide) (by decide) (by decide) ?_
        refine gg_iload dX2_joinedParts_116 1 rfl ?_
        refine gg_ireti dX2_joinedParts_118 rfl ⟨rfl, rfl⟩ ?_
        refine ⟨rfl, ?_⟩
        rw [hk]
        unfold gDj
        rw [if_neg (show ¬ (q = 4 ∧ 7 = 6) by omega), if_neg (show ¬ (q = 5 ∧ 7 = 7) by omega)]
        exact rfl
      · refine gg_iload dX2_joinedParts_63 1 rfl ?_
        refine gg_bipush dX2_joinedParts_65 (by decide) ?_
        refine gg_icmp_ne_f (tgt := 75) dX2_joinedParts_67 (by decide) (by decide) (by decide) ?_
        refine gg_iconst dX2_joinedParts_70 ?_
        refine gg_iload dX2_joinedParts_71 0 rfl ?_
        refine gg_imul dX2_joinedParts_73 ?_
        refine gg_ireti dX2_joinedParts_74 rfl ⟨rfl, rfl⟩ ?_
        refine ⟨rfl, ?_⟩
        rw [hk]
        unfold gDj
        rw [if_neg (show ¬ (q = 4 ∧ 7 = 6) by omega), if_pos (show q = 5 ∧ 7 = 7 by omega)]
    · refine gg_iload dX2_joinedParts_21 1 rfl ?_
      refine gg_bipush dX2_joinedParts_23 (by decide) ?_
      refine gg_icmp_ne_t (tgt := 58) dX2_joinedParts_25 (by decide) (by decide) (by decide) ?_
      refine gg_iload_n dX2_joinedParts_58 5 rfl ?_
      refine gg_iconst dX2_joinedParts_59 ?_
      refine gg_icmp_ne (tgt := 75) dX2_joinedParts_60 (by decide) (by omega) (fun hq5 => ?_) (fun hq5 => ?_)
      · refine gg_iconst dX2_joinedParts_75 ?_
        refine gg_istore (ls' := [(6, .int (iv 0)), (5, .int (iv (D (j + 1)))), (4, .int (iv 7)), (0, .ref (gad (gSS ad) 38)), (1, .ref (gad (gSS ad) a)), (2, .int (iv (j : Int))), (3, .int (iv (q : Int)))]) dX2_joinedParts_76 (by decide) rfl ?_
        refine gg_iconst dX2_joinedParts_78 ?_
        refine gg_istore (ls' := [(7, .int (iv 0)), (6, .int (iv 0)), (5, .int (iv (D (j + 1)))), (4, .int (iv 7)), (0, .ref (gad (gSS ad) 38)), (1, .ref (gad (gSS ad) a)), (2, .int (iv (j : Int))), (3, .int (iv (q : Int)))]) dX2_joinedParts_79 (by decide) rfl ?_
        refine gg_iload dX2_joinedParts_81 0 rfl ?_
        refine gg_aload_n dX2_joinedParts_83 5 rfl ?_
        refine gg_iload_n dX2_joinedParts_84 6 rfl ?_
        refine gg_callVi (own := RX2) (yt := gm_X1_parts) rfl gl_RX2_59 gk_X1_parts gr_X1_parts dX2_joinedParts_85 (c_X1_parts (d := d - 1) hF hA hW.1 (j := j) (by omega) (by omega) hK) (gFsh hF) (gFlt hF) (by decide) rfl rfl rfl (Nat.le_of_ble_eq_true rfl) (by show _ ≤ d; omega) ⟨Nat.le_refl _, Nat.le_refl _⟩ (fun e166 μ' hc => ?_)
        obtain ⟨rfl, rfl⟩ := hc
        refine gg_toI (b := 1) (by rw [hk]; rfl) ?_
        refine gg_icmp_ge_f (tgt := 116) dX2_joinedParts_88 (by decide) (by decide) (by decide) ?_
        refine gg_iload_n dX2_joinedParts_91 7 rfl ?_
        refine gg_iload dX2_joinedParts_92 1 rfl ?_
        refine gg_aload_n dX2_joinedParts_94 4 rfl ?_
        refine gg_aload_n dX2_joinedParts_95 5 rfl ?_
        refine gg_iload_n dX2_joinedParts_96 6 rfl ?_
        refine gg_iload dX2_joinedParts_97 0 rfl ?_
        refine gg_callVi (own := RX2) (yt := gm_X1_part) rfl gl_RX2_52 gk_X1_part gr_X1_part dX2_joinedParts_99 (c_X1_part0 (d := d - 1) hF hA hW.1 (j := j) hj (by omega)) (gFsh hF) (gFlt hF) (by decide) rfl rfl rfl (Nat.le_of_ble_eq_true rfl) (by show _ ≤ d; omega) ⟨Nat.le_refl _, Nat.le_refl _⟩ (fun e167 μ' hc => ?_)
        obtain ⟨rfl, rfl⟩ := hc
        refine gg_callVi (own := RX2) (yt := gm_X2_toldOf) rfl gl_RX2_49 gk_X2_toldOf gr_X2_toldOf dX2_joinedParts_102 (c_X2_toldOf (d := d - 1) (k := j + 1) (by have := (hc1 (by rw [hk]; decide)); omega)) sh_38 pl_38 (by decide) rfl rfl rfl (Nat.le_of_ble_eq_true rfl) (by show _ ≤ d; omega) ⟨Nat.le_refl _, Nat.le_refl _⟩ (fun e168 μ' hc => ?_)
        obtain ⟨rfl, rfl⟩ := hc
        refine gg_toI (b := D (j + 1)) (by have hlt : j + 1 < n := (hc1 (by rw [hk]; decide)); rw [if_pos (show j + 1 < 200 by omega)]; exact ht _ (by omega) hlt) ?_
        refine gg_callSi (own := RX2) (yt := gm_X2_join) rfl gl_RX2_55 gk_X2_join gr_X2_join dX2_joinedParts_105 (c_X2_join (d := d - 1) (q := q) hq (by first | omega | (have := @gJn_rng q 0 (D (j + 1)) 0 9999 (by omega) (by omega); have := @gJn_rng q (gJn q 0 (D (j + 1))) (D (gPt Z j 1)) 9999 9999 (by omega) (by omega); omega) | (have := @gJn_rng q 0 (D (j + 1)) 0 9999 (by omega) (by omega); omega)) (by omega) (by omega)) rfl rfl (Nat.le_of_ble_eq_true rfl) (by show _ ≤ d; omega) ⟨Nat.le_refl _, Nat.le_refl _⟩ (fun e169 μ' hc => ?_)
        obtain ⟨rfl, rfl⟩ := hc
        refine gg_istore (ls' := [(6, .int (iv (gJn q 0 (D (j + 1))))), (7, .int (iv 0)), (5, .int (iv (D (j + 1)))), (4, .int (iv 7)), (0, .ref (gad (gSS ad) 38)), (1, .ref (gad (gSS ad) a)), (2, .int (iv (j : Int))), (3, .int (iv (q : Int)))]) dX2_joinedParts_108 (by decide) rfl ?_
        refine gg_iincv (ls' := [(7, .int (iv 1)), (6, .int (iv (gJn q 0 (D (j + 1))))), (5, .int (iv (D (j + 1)))), (4, .int (iv 7)), (0, .ref (gad (gSS ad) 38)), (1, .ref (gad (gSS ad) a)), (2, .int (iv (j : Int))), (3, .int (iv (q : Int)))]) dX2_joinedParts_110 1 rfl rfl (by decide) rfl ?_
        refine gg_goto (tgt := 81) dX2_joinedParts_113 (by decide) ?_
        refine gg_iload dX2_joinedParts_81 0 rfl ?_
        refine gg_aload_n dX2_joinedParts_83 5 rfl ?_
        refine gg_iload_n dX2_joinedParts_84 6 rfl ?_
        refine gg_callVi (own := RX2) (yt := gm_X1_parts) rfl gl_RX2_59 gk_X1_parts gr_X1_parts dX2_joinedParts_85 (c_X1_parts (d := d - 1) hF hA hW.1 (j := j) (by omega) (by omega) hK) (gFsh hF) (gFlt hF) (by decide) rfl rfl rfl (Nat.le_of_ble_eq_true rfl) (by show _ ≤ d; omega) ⟨Nat.le_refl _, Nat.le_refl _⟩ (fun e170 μ' hc => ?_)
        obtain ⟨rfl, rfl⟩ := hc
        refine gg_toI (b := 1) (by rw [hk]; rfl) ?_
        refine gg_icmp_ge_t (tgt := 116) dX2_joinedParts_88 (by decide) (by decide) (by decide) ?_
        refine gg_iload dX2_joinedParts_116 1 rfl ?_
        refine gg_ireti dX2_joinedParts_118 rfl ⟨rfl, rfl⟩ ?_
        refine ⟨rfl, ?_⟩
        rw [hk]
        unfold gDj
        rw [if_neg (show ¬ (q = 4 ∧ 7 = 6) by omega), if_neg (show ¬ (q = 5 ∧ 7 = 7) by omega)]
        exact rfl
      · refine gg_iload dX2_joinedParts_63 1 rfl ?_
        refine gg_bipush dX2_joinedParts_65 (by decide) ?_
        refine gg_icmp_ne_f (tgt := 75) dX2_joinedParts_67 (by decide) (by decide) (by decide) ?_
        refine gg_iconst dX2_joinedParts_70 ?_
        refine gg_iload dX2_joinedParts_71 0 rfl ?_
        refine gg_imul dX2_joinedParts_73 ?_
        refine gg_ireti dX2_joinedParts_74 rfl ⟨rfl, rfl⟩ ?_
        refine ⟨rfl, ?_⟩
        rw [hk]
        unfold gDj
        rw [if_neg (show ¬ (q = 4 ∧ 7 = 6) by omega), if_pos (show q = 5 ∧ 7 = 7 by omega)]

theorem gAt_p {I I' : Nat → Nat → Int} {J : Nat → Nat → Int64} {a n : Nat} {K : Nat → Nat} {N : Nat → Int64} {Z : Nat → Nat} (hF : gF a) (h : gAt I J a n K N Z) (hI : ∀ p, (p < 38 → p = 8 ∨ p = 9 ∨ p = 11 → I' p = I p) ∧ (41 ≤ p → p < 137 → I' p = I p)) : gAt I' J a n K N Z := by
  have hr := gF_rng hF
  rcases hr with rfl | hr
  · exact gAt_same h ((hI 8).1 (by omega) (by omega)) ((hI 9).1 (by omega) (by omega)) rfl ((hI 11).1 (by omega) (by omega))
  · exact gAt_same h ((hI a).2 (by omega) (by omega)) ((hI (a + 1)).2 (by omega) (by omega)) rfl ((hI (a + 3)).2 (by omega) (by omega))
theorem gDj_rng {n q : Nat} {K : Nat → Nat} {N : Nat → Int64} {Z : Nat → Nat} (hW : gWf n K N Z) {j : Nat} (hj : j < n) : 0 ≤ gDj q (K j) (gDc n q K N Z (j + 1)) (gDc n q K N Z (gPt Z j 1)) (gDc n q K N Z (gPt Z j 2)) ∧ gDj q (K j) (gDc n q K N Z (j + 1)) (gDc n q K N Z (gPt Z j 1)) (gDc n q K N Z (gPt Z j 2)) ≤ 40000 := by
  obtain ⟨hK, hZ1, hZ2, he0, he1, he2, he3, hc1, hc2, hc3, -⟩ := hW.2.2 j hj
  have q1 : 1 ≤ gPar (K j) → 0 ≤ gDc n q K N Z (j + 1) ∧ gDc n q K N Z (j + 1) ≤ 9999 := fun g => gD_rng hW _ (hc1 g)
  have q2 : 2 ≤ gPar (K j) → 0 ≤ gDc n q K N Z (gPt Z j 1) ∧ gDc n q K N Z (gPt Z j 1) ≤ 9999 := fun g => gD_rng hW _ (hc2 g)
  have q3 : 3 ≤ gPar (K j) → 0 ≤ gDc n q K N Z (gPt Z j 2) ∧ gDc n q K N Z (gPt Z j 2) ≤ 9999 := fun g => gD_rng hW _ (hc3 g)
  clear hc1 hc2 hc3 he0 he1 he2 he3 hW
  generalize gDc n q K N Z (j + 1) = a at *
  generalize gDc n q K N Z (gPt Z j 1) = b at *
  generalize gDc n q K N Z (gPt Z j 2) = c at *
  obtain hk | hk | hk | hk | hk | hk | hk | hk : K j = 0 ∨ K j = 1 ∨ K j = 2 ∨ K j = 3 ∨ K j = 4 ∨ K j = 5 ∨ K j = 6 ∨ K j = 7 := by omega
  all_goals rw [hk] at q1 q2 q3 ⊢
  all_goals simp [gPar] at q1 q2 q3
  all_goals simp only [gDj, gPar, gJn]
  all_goals repeat' split
  all_goals omega
set_option maxRecDepth 10000 in
theorem w_X2_measureOf {l : Launch} {Γ : gC} {ad : Nat → Nat} {I0 : Nat → Nat → Int} {J : Nat → Nat → Int64} {d : Nat} {a n : Nat} {K : Nat → Nat} {N : Nat → Int64} {Z : Nat → Nat} (hF : gF a) (hA : gAt I0 J a n K N Z) (hW : gWf n K N Z) {q : Nat} (hq : q ≤ 5) (hn0 : 0 < n) (hd : 4 ≤ d) : ∀ (m : Nat) (k : Nat) (I : Nat → Nat → Int), k < m → (k ≤ n) → (∀ p, p ≠ 39 → I p = I0 p) → (∀ t, k ≤ t → t < n → I 39 t = gDc n q K N Z t) → gG l Γ gm_X2_measureOf (d, 0, 0, 0, 0) 7 [(3, .int (iv ((k : Int) - 1))), (0, .ref (gad (gSS ad) 38)), (1, .ref (gad (gSS ad) a)), (2, .int (iv (q : Int)))] [] (gSS ad, I, J) (gDi (fun e μ => ∃ I', μ = (gSS ad, I', J) ∧ (∀ p, p ≠ 39 → I' p = I0 p) ∧ e = gDc n q K N Z 0)) := by
  intro m
  induction m with
  | zero => intros; omega
  | succ m ih =>
    intro k I hm hk hI ht
    have hn := hW.1
    refine gg_iload_n dX2_measureOf_7 0 rfl ?_
    refine gg_if_lt (tgt := 47) dX2_measureOf_8 (by decide) (by omega) (fun hb => ?_) (fun hb => ?_)
    · have hk0 : k = 0 := by omega
      refine gg_aload_n dX2_measureOf_47 1 rfl ?_
      refine gg_getR (k' := 39) rfl gf_RX2_9 dX2_measureOf_48 sh_38 pl_38 (by decide) (by decide) rr_38_0 ?_
      refine gg_iconst dX2_measureOf_51 ?_
      refine gg_ialdj 0 dX2_measureOf_52 sh_39 pl_39 (by decide) rfl (by omega) ?_
      refine gg_ireti dX2_measureOf_53 rfl ⟨rfl, rfl⟩ ?_
      exact ⟨I, rfl, hI, ht 0 (by omega) hn0⟩
    · obtain ⟨j, rfl⟩ : ∃ j : Nat, k = j + 1 := ⟨k - 1, by omega⟩
      rw [show (((j + 1 : Nat) : Int) - 1) = (j : Int) by omega]
      refine gg_aload_n dX2_measureOf_11 1 rfl ?_
      refine gg_aload_n dX2_measureOf_12 2 rfl ?_
      refine gg_iload_n dX2_measureOf_13 0 rfl ?_
      refine gg_iload_n dX2_measureOf_14 3 rfl ?_
      refine gg_callVi (own := RX2) (yt := gm_X2_joinedParts) rfl gl_RX2_25 gk_X2_joinedParts gr_X2_joinedParts dX2_measureOf_15 (c_X2_joinedParts (d := d - 1) hF (gAt_p hF hA (fun p => ⟨fun _ _ => hI p (by omega), fun _ _ => hI p (by omega)⟩)) hW (q := q) (j := j) (D := gDc n q K N Z) hq (by omega) (fun t h1 h2 => ht t (by omega) h2) (gD_rng hW) (by omega)) sh_38 pl_38 (by decide) rfl rfl rfl (Nat.le_of_ble_eq_true rfl) (by show _ ≤ d; omega) ⟨Nat.le_refl _, Nat.le_refl _⟩ (fun e1 μ' hc => ?_)
      obtain ⟨rfl, rfl⟩ := hc
      refine gg_aload_n dX2_measureOf_18 2 rfl ?_
      refine gg_iload_n dX2_measureOf_19 0 rfl ?_
      refine gg_iload_n dX2_measureOf_20 3 rfl ?_
      refine gg_callSi (own := RX2) (yt := gm_X2_own) rfl gl_RX2_29 gk_X2_own gr_X2_own dX2_measureOf_21 (c_X2_own (d := d - 1) hF (gAt_p hF hA (fun p => ⟨fun _ _ => hI p (by omega), fun _ _ => hI p (by omega)⟩)) hW (q := q) (j := j) hq (by omega) (by omega)) rfl rfl (Nat.le_of_ble_eq_true rfl) (by show _ ≤ d; omega) ⟨Nat.le_refl _, Nat.le_refl _⟩ (fun e2 μ' hc => ?_)
      obtain ⟨rfl, rfl⟩ := hc
      refine gg_iadd dX2_measureOf_24 ?_
      refine gg_istore (ls' := [(4, .int (iv ((gDj q (K j) (gDc n q K N Z (j + 1)) (gDc n q K N Z (gPt Z j 1)) (gDc n q K N Z (gPt Z j 2))) + (gDo q (K j) (gl2i (N j)))))), (3, .int (iv (j : Int))), (0, .ref (gad (gSS ad) 38)), (1, .ref (gad (gSS ad) a)), (2, .int (iv (q : Int)))]) dX2_measureOf_25 (by decide) rfl ?_
      refine gg_aload_n dX2_measureOf_27 2 rfl ?_
      refine gg_getR (k' := 39) rfl gf_RX2_9 dX2_measureOf_28 sh_38 pl_38 (by decide) (by decide) rr_38_0 ?_
      refine gg_iload_n dX2_measureOf_31 1 rfl ?_
      refine gg_sipush dX2_measureOf_32 (by decide) ?_
      refine gg_iload dX2_measureOf_35 0 rfl ?_
      refine gg_mmin rfl gl_RX2_32 dX2_measureOf_37 (by have := gDj_rng (q := q) hW (j := j) (by omega); have := gDo_rng hW (j := j) (by omega) q; omega) (Nat.le_of_ble_eq_true rfl) (by omega) ⟨Nat.le_refl _, Nat.le_refl _⟩ ?_
      refine gg_toI (b := gDc n q K N Z j) (gDc_is n q K N Z j (by omega)).symm ?_
      refine gg_iastj j dX2_measureOf_40 sh_39 pl_39 (by decide) rfl (by omega) ?_
      refine gg_memI (fun I1 hI1 => ?_)
      refine gg_iincv (ls' := [(3, .int (iv ((j : Int) - 1))), (4, .int (iv ((gDj q (K j) (gDc n q K N Z (j + 1)) (gDc n q K N Z (gPt Z j 1)) (gDc n q K N Z (gPt Z j 2))) + (gDo q (K j) (gl2i (N j)))))), (0, .ref (gad (gSS ad) 38)), (1, .ref (gad (gSS ad) a)), (2, .int (iv (q : Int)))]) dX2_measureOf_41 1 rfl (by omega) (by decide) rfl ?_
      refine gg_goto (tgt := 7) dX2_measureOf_44 (by decide) ?_
      refine gg_sub [0, 2, 3, 4] rfl ?_
      refine ih j I1 (by omega) (by omega) (fun p hp => by rw [hI1, gu_other hp]; exact hI p hp) (fun t h1 h2 => ?_)
      rw [hI1]
      by_cases htj : t = j
      · rw [htj, gu_s]
      · rw [gu_n (by omega)]
        exact ht t (by omega) h2

set_option maxRecDepth 10000 in
theorem c_X2_measureOf {l : Launch} {Γ : gC} {ad : Nat → Nat} {I : Nat → Nat → Int} {J : Nat → Nat → Int64} {d : Nat} {a n : Nat} {K : Nat → Nat} {N : Nat → Int64} {Z : Nat → Nat} (hF : gF a) (hA : gAt I J a n K N Z) (hW : gWf n K N Z) {q : Nat} (hq : q ≤ 5) (hn0 : 0 < n) (hd : 4 ≤ d) : gKi l Γ gm_X2_measureOf d [.ref (gad (gSS ad) 38), .ref (gad (gSS ad) a), .int (iv (q : Int))] (gSS ad, I, J) (fun e μ => ∃ I', μ = (gSS ad, I', J) ∧ (∀ p, p ≠ 39 → I' p = I p) ∧ e = gDc n q K N Z 0) := by
  refine gKi_of gk_X2_measureOf.1 (Nat.le_of_ble_eq_true rfl) ?_
  show gG l Γ gm_X2_measureOf (d, 0, 0, 0, 0) 0 [(0, .ref (gad (gSS ad) 38)), (1, .ref (gad (gSS ad) a)), (2, .int (iv (q : Int)))] [] _ _
  refine gg_aload_n dX2_measureOf_0 1 rfl ?_
  refine gg_callVi (own := RX2) (yt := gm_X1_size) rfl gl_RX2_19 gk_X1_size gr_X1_size dX2_measureOf_1 (c_X1_size (d := d - 1) hF hA) (gFsh hF) (gFlt hF) (by decide) rfl rfl rfl (Nat.le_of_ble_eq_true rfl) (by show _ ≤ d; omega) ⟨Nat.le_refl _, Nat.le_refl _⟩ (fun e1 μ' hc => ?_)
  obtain ⟨rfl, rfl⟩ := hc
  refine gg_iconst dX2_measureOf_4 ?_
  refine gg_isub dX2_measureOf_5 ?_
  refine gg_istore_n (ls' := [(3, .int (iv ((n : Int) - 1))), (0, .ref (gad (gSS ad) 38)), (1, .ref (gad (gSS ad) a)), (2, .int (iv (q : Int)))]) dX2_measureOf_6 rfl (by decide) rfl ?_
  refine gg_sub [0, 1, 2, 3] rfl ?_
  exact w_X2_measureOf hF hA hW hq hn0 hd (n + 1) n I (by omega) (by omega) (fun _ _ => rfl) (fun t h1 h2 => by omega)

set_option maxRecDepth 10000 in
theorem c_X9_measure {l : Launch} {Γ : gC} {ad : Nat → Nat} {I : Nat → Nat → Int} {J : Nat → Nat → Int64} {d : Nat} {f n : Nat} {K : Nat → Nat} {N : Nat → Int64} {Z : Nat → Nat} (hf : f < 12) (hA : gAt I J (41 + 8 * f) n K N Z) (hW : gWf n K N Z) {q : Nat} (hq : q ≤ 5) (hd : 5 ≤ d) : gKi l Γ gm_X9_measure d [.ref (gad (gSS ad) 0), .int (iv (f : Int)), .int (iv (q : Int))] (gSS ad, I, J) (fun e μ => ∃ I', μ = (gSS ad, I', J) ∧ (∀ p, p ≠ 39 → I' p = I p) ∧ e = (if n = 0 then -3 else gDc n q K N Z 0)) := by
  refine gKi_of gk_X9_measure.1 (Nat.le_of_ble_eq_true rfl) ?_
  show gG l Γ gm_X9_measure (d, 0, 0, 0, 0) 0 [(0, .ref (gad (gSS ad) 0)), (1, .int (iv (f : Int))), (2, .int (iv (q : Int)))] [] _ _
  refine gg_aload_n dX9_measure_0 0 rfl ?_
  refine gg_iload_n dX9_measure_1 1 rfl ?_
  refine gg_iload_n dX9_measure_2 2 rfl ?_
  refine gg_if_lt_f (tgt := 15) dX9_measure_3 (by decide) (by omega) (by omega) ?_
  refine gg_iload_n dX9_measure_6 2 rfl ?_
  refine gg_iconst dX9_measure_7 ?_
  refine gg_icmp_gt_f (tgt := 15) dX9_measure_8 (by decide) (by omega) (by omega) ?_
  refine gg_iconst dX9_measure_11 ?_
  refine gg_goto (tgt := 16) dX9_measure_12 (by decide) ?_
  refine gg_callVi (own := RX9) (yt := gm_X9_refusalOf) rfl gl_RX9_166 gk_X9_refusalOf gr_X9_refusalOf dX9_measure_16 (c_X9_refusalOf (d := d - 1) hf hA hW (by omega)) sh_0 pl_0 (by decide) rfl rfl rfl (Nat.le_of_ble_eq_true rfl) (by show _ ≤ d; omega) ⟨Nat.le_refl _, Nat.le_refl _⟩ (fun e1 μ' hc => ?_)
  obtain ⟨rfl, ⟨rfl, hn0⟩ | ⟨rfl, hn0⟩⟩ := hc
  · refine gg_istore_n (ls' := [(3, .int (iv (-3))), (0, .ref (gad (gSS ad) 0)), (1, .int (iv (f : Int))), (2, .int (iv (q : Int)))]) dX9_measure_19 rfl (by decide) rfl ?_
    refine gg_iload_n dX9_measure_20 0 rfl ?_
    refine gg_if_eq_f (tgt := 28) dX9_measure_21 (by decide) (by decide) (by decide) ?_
    refine gg_iload_n dX9_measure_24 0 rfl ?_
    refine gg_goto (tgt := 42) dX9_measure_25 (by decide) ?_
    refine gg_ireti dX9_measure_42 rfl ⟨rfl, rfl⟩ ?_
    exact ⟨I, rfl, fun _ _ => rfl, by rw [if_pos hn0]⟩
  · refine gg_istore_n (ls' := [(3, .int (iv 0)), (0, .ref (gad (gSS ad) 0)), (1, .int (iv (f : Int))), (2, .int (iv (q : Int)))]) dX9_measure_19 rfl (by decide) rfl ?_
    refine gg_iload_n dX9_measure_20 0 rfl ?_
    refine gg_if_eq_t (tgt := 28) dX9_measure_21 (by decide) (by decide) (by decide) ?_
    refine gg_aload_n dX9_measure_28 1 rfl ?_
    refine gg_getR (k' := 38) rfl gf_RX9_89 dX9_measure_29 sh_0 pl_0 (by decide) (by decide) rr_0_15 ?_
    refine gg_aload_n dX9_measure_32 1 rfl ?_
    refine gg_getR (k' := 1) rfl gf_RX9_11 dX9_measure_33 sh_0 pl_0 (by decide) (by decide) rr_0_0 ?_
    refine gg_iload_n dX9_measure_36 2 rfl ?_
    refine gg_aaldj (t := 4) f (k' := (41 + 8 * f)) dX9_measure_37 sh_1 (by decide) pl_1 (by decide) rfl hf (rr_1 hf) ?_
    refine gg_iload_n dX9_measure_38 3 rfl ?_
    refine gg_callVi (own := RX9) (yt := gm_X2_measureOf) rfl gl_RX9_189 gk_X2_measureOf gr_X2_measureOf dX9_measure_39 (c_X2_measureOf (d := d - 1) (gF_fo f hf) hA hW hq (by omega) (by omega)) sh_38 pl_38 (by decide) rfl rfl rfl (Nat.le_of_ble_eq_true rfl) (by show _ ≤ d; omega) ⟨Nat.le_refl _, Nat.le_refl _⟩ (fun e2 μ' hc => ?_)
    obtain ⟨I2, rfl, hI2, rfl⟩ := hc
    refine gg_ireti dX9_measure_42 rfl ⟨rfl, rfl⟩ ?_
    exact ⟨I2, rfl, hI2, by rw [if_neg hn0]⟩

set_option maxRecDepth 10000 in
theorem c_X9_measure_out {l : Launch} {Γ : gC} {ad : Nat → Nat} {I : Nat → Nat → Int} {J : Nat → Nat → Int64} {d : Nat} {i q : Int} (hi : -2147483648 ≤ i ∧ i ≤ 2147483647) (hq : -2147483648 ≤ q ∧ q ≤ 2147483647) (ho : ¬ (0 ≤ i ∧ i ≤ 11 ∧ 0 ≤ q ∧ q ≤ 5)) (hd : 3 ≤ d) : gKi l Γ gm_X9_measure d [.ref (gad (gSS ad) 0), .int (iv i), .int (iv q)] (gSS ad, I, J) (fun e μ => μ = (gSS ad, I, J) ∧ e = -2) := by
  refine gKi_of gk_X9_measure.1 (Nat.le_of_ble_eq_true rfl) ?_
  show gG l Γ gm_X9_measure (d, 0, 0, 0, 0) 0 [(0, .ref (gad (gSS ad) 0)), (1, .int (iv i)), (2, .int (iv q))] [] _ _
  refine gg_aload_n dX9_measure_0 0 rfl ?_
  refine gg_iload_n dX9_measure_1 1 rfl ?_
  refine gg_iload_n dX9_measure_2 2 rfl ?_
  refine gg_if_lt (tgt := 15) dX9_measure_3 (by decide) (by omega) (fun hb1 => ?_) (fun hb1 => ?_)
  · refine gg_iconst dX9_measure_15 ?_
    refine gg_callVi (own := RX9) (yt := gm_X9_refusalOf) rfl gl_RX9_166 gk_X9_refusalOf gr_X9_refusalOf dX9_measure_16 (c_X9_refusalOf_out (d := d - 1) (b := 0) (by omega) (by omega) (by omega) (by omega)) sh_0 pl_0 (by decide) rfl rfl rfl (Nat.le_of_ble_eq_true rfl) (by show _ ≤ d; omega) ⟨Nat.le_refl _, Nat.le_refl _⟩ (fun e2 μ' hc => ?_)
    obtain ⟨rfl, rfl⟩ := hc
    refine gg_istore_n (ls' := [(3, .int (iv (-2))), (0, .ref (gad (gSS ad) 0)), (1, .int (iv i)), (2, .int (iv q))]) dX9_measure_19 rfl (by decide) rfl ?_
    refine gg_iload_n dX9_measure_20 0 rfl ?_
    refine gg_if_eq_f (tgt := 28) dX9_measure_21 (by decide) (by decide) (by decide) ?_
    refine gg_iload_n dX9_measure_24 0 rfl ?_
    refine gg_goto (tgt := 42) dX9_measure_25 (by decide) ?_
    refine gg_ireti dX9_measure_42 rfl ⟨rfl, rfl⟩ ?_
    exact ⟨rfl, rfl⟩
  · refine gg_iload_n dX9_measure_6 2 rfl ?_
    refine gg_iconst dX9_measure_7 ?_
    refine gg_icmp_gt (tgt := 15) dX9_measure_8 (by decide) (by omega) (fun hb3 => ?_) (fun hb3 => ?_)
    · refine gg_iconst dX9_measure_15 ?_
      refine gg_callVi (own := RX9) (yt := gm_X9_refusalOf) rfl gl_RX9_166 gk_X9_refusalOf gr_X9_refusalOf dX9_measure_16 (c_X9_refusalOf_out (d := d - 1) (b := 0) (by omega) (by omega) (by omega) (by omega)) sh_0 pl_0 (by decide) rfl rfl rfl (Nat.le_of_ble_eq_true rfl) (by show _ ≤ d; omega) ⟨Nat.le_refl _, Nat.le_refl _⟩ (fun e4 μ' hc => ?_)
      obtain ⟨rfl, rfl⟩ := hc
      refine gg_istore_n (ls' := [(3, .int (iv (-2))), (0, .ref (gad (gSS ad) 0)), (1, .int (iv i)), (2, .int (iv q))]) dX9_measure_19 rfl (by decide) rfl ?_
      refine gg_iload_n dX9_measure_20 0 rfl ?_
      refine gg_if_eq_f (tgt := 28) dX9_measure_21 (by decide) (by decide) (by decide) ?_
      refine gg_iload_n dX9_measure_24 0 rfl ?_
      refine gg_goto (tgt := 42) dX9_measure_25 (by decide) ?_
      refine gg_ireti dX9_measure_42 rfl ⟨rfl, rfl⟩ ?_
      exact ⟨rfl, rfl⟩
    · refine gg_iconst dX9_measure_11 ?_
      refine gg_goto (tgt := 16) dX9_measure_12 (by decide) ?_
      refine gg_callVi (own := RX9) (yt := gm_X9_refusalOf) rfl gl_RX9_166 gk_X9_refusalOf gr_X9_refusalOf dX9_measure_16 (c_X9_refusalOf_out (d := d - 1) (b := 1) (by omega) (by omega) (by omega) (by omega)) sh_0 pl_0 (by decide) rfl rfl rfl (Nat.le_of_ble_eq_true rfl) (by show _ ≤ d; omega) ⟨Nat.le_refl _, Nat.le_refl _⟩ (fun e5 μ' hc => ?_)
      obtain ⟨rfl, rfl⟩ := hc
      refine gg_istore_n (ls' := [(3, .int (iv (-2))), (0, .ref (gad (gSS ad) 0)), (1, .int (iv i)), (2, .int (iv q))]) dX9_measure_19 rfl (by decide) rfl ?_
      refine gg_iload_n dX9_measure_20 0 rfl ?_
      refine gg_if_eq_f (tgt := 28) dX9_measure_21 (by decide) (by decide) (by decide) ?_
      refine gg_iload_n dX9_measure_24 0 rfl ?_
      refine gg_goto (tgt := 42) dX9_measure_25 (by decide) ?_
      refine gg_ireti dX9_measure_42 rfl ⟨rfl, rfl⟩ ?_
      exact ⟨rfl, rfl⟩

set_option maxRecDepth 10000 in
set_option maxHeartbeats 4000000 in
theorem r_X10_measureOf {l : Launch} {Γ : gC} {ad : Nat → Nat} {I : Nat → Nat → Int} {J : Nat → Nat → Int64} {f n : Nat} {K : Nat → Nat} {N : Nat → Int64} {Z : Nat → Nat} (hf : f < 12) (hM : gMt I J f n K N Z) (hW : gWf n K N Z) {q : Nat} (hq : q ≤ 5) : ∀ (m i : Nat), i < n → Z i ≤ m → ∀ d, m + 2 ≤ d → gKi l Γ gm_X10_measureOf d [.ref (gad (gSS ad) 145), .int (iv (f : Int)), .int (iv (i : Int)), .int (iv (q : Int))] (gSS ad, I, J) (fun e μ => μ = (gSS ad, I, J) ∧ e = gDc n q K N Z i) := by
  intro m
  induction m with
  | zero => intro i hi hz; have := (hW.2.2 i hi).2.1; omega
  | succ m ih =>
    intro i hi hz d hd
    obtain ⟨hK, hZ1, hZ2, he0, he1, he2, he3, hc1, hc2, hc3, -⟩ := hW.2.2 i hi
    have hn := hW.1
    refine gKi_of gk_X10_measureOf.1 (Nat.le_of_ble_eq_true rfl) ?_
    show gG l Γ gm_X10_measureOf (d, 0, 0, 0, 0) 0 [(0, .ref (gad (gSS ad) 145)), (1, .int (iv (f : Int))), (2, .int (iv (i : Int))), (3, .int (iv (q : Int)))] [] _ _
    refine gg_aload_n dX10_measureOf_0 0 rfl ?_
    refine gg_getR (k' := 147) rfl gf_RX10_15 dX10_measureOf_1 sh_145 pl_145 (by decide) (by decide) rr_145_1 ?_
    refine gg_iload_n dX10_measureOf_4 1 rfl ?_
    refine gg_aaldj (t := 6) f (k' := (148 + f)) dX10_measureOf_5 sh_147 (by decide) pl_147 (by decide) rfl hf (rr_147 hf) ?_
    refine gg_iload_n dX10_measureOf_6 2 rfl ?_
    refine gg_ialdj i dX10_measureOf_7 (rs_147 hf) (rl_147 hf) (by decide) rfl (by omega) ?_
    refine gg_toI (b := (K i : Int)) (hM.2 i hi).1 ?_
    obtain hk | hk | hk | hk | hk | hk | hk | hk := (by omega : K i = 0 ∨ K i = 1 ∨ K i = 2 ∨ K i = 3 ∨ K i = 4 ∨ K i = 5 ∨ K i = 6 ∨ K i = 7)
    · refine gg_toI (b := 0) (by omega) ?_
      refine gg_istore (ls' := [(4, .int (iv 0)), (0, .ref (gad (gSS ad) 145)), (1, .int (iv (f : Int))), (2, .int (iv (i : Int))), (3, .int (iv (q : Int)))]) dX10_measureOf_8 (by decide) rfl ?_
      have hor := gDo_rng hW hi q
      rw [hk] at hor
      refine gg_iload_n dX10_measureOf_10 4 rfl ?_
      refine gg_iload dX10_measureOf_11 0 rfl ?_
      refine gg_aload_n dX10_measureOf_13 1 rfl ?_
      refine gg_getR (k' := 160) rfl gf_RX10_20 dX10_measureOf_14 sh_145 pl_145 (by decide) (by decide) rr_145_2 ?_
      refine gg_iload_n dX10_measureOf_17 2 rfl ?_
      refine gg_aaldj (t := 7) f (k' := (161 + f)) dX10_measureOf_18 sh_160 (by decide) pl_160 (by decide) rfl hf (rr_160 hf) ?_
      refine gg_iload_n dX10_measureOf_19 3 rfl ?_
      refine gg_laldj i dX10_measureOf_20 (rs_160 hf) (rl_160 hf) (by decide) rfl (by omega) ?_
      refine gg_toL (b := N i) (hM.2 i hi).2.1 ?_
      refine gg_l2i dX10_measureOf_21 ?_
      refine gg_callSi (own := RX10) (yt := gm_X10_own) rfl gl_RX10_289 gk_X10_own gr_X10_own dX10_measureOf_22 (c_X10_own (d := d - 1) (q := q) (k := 0) hq (by omega)) rfl rfl (Nat.le_of_ble_eq_true rfl) (by show _ ≤ d; omega) ⟨Nat.le_refl _, Nat.le_refl _⟩ (fun e1 μ' hc => ?_)
      obtain ⟨rfl, rfl⟩ := hc
      refine gg_toI (b := gDo q 0 (gl2i (N i))) (if_neg (by omega)) ?_
      refine gg_istore (ls' := [(5, .int (iv (gDo q 0 (gl2i (N i))))), (4, .int (iv 0)), (0, .ref (gad (gSS ad) 145)), (1, .int (iv (f : Int))), (2, .int (iv (i : Int))), (3, .int (iv (q : Int)))]) dX10_measureOf_25 (by decide) rfl ?_
      refine gg_iconst dX10_measureOf_27 ?_
      refine gg_istore (ls' := [(6, .int (iv 0)), (5, .int (iv (gDo q 0 (gl2i (N i))))), (4, .int (iv 0)), (0, .ref (gad (gSS ad) 145)), (1, .int (iv (f : Int))), (2, .int (iv (i : Int))), (3, .int (iv (q : Int)))]) dX10_measureOf_28 (by decide) rfl ?_
      refine gg_iload_n dX10_measureOf_30 6 rfl ?_
      refine gg_iconst dX10_measureOf_31 ?_
      refine gg_icmp_ne (tgt := 84) dX10_measureOf_32 (by decide) (by omega) (fun hb2 => ?_) (fun hb2 => ?_)
      · refine gg_iload_n dX10_measureOf_84 6 rfl ?_
        refine gg_iconst dX10_measureOf_85 ?_
        refine gg_icmp_ne (tgt := 114) dX10_measureOf_86 (by decide) (by omega) (fun hq5 => ?_) (fun hq5 => ?_)
        · refine gg_iload_n dX10_measureOf_114 5 rfl ?_
          refine gg_iconst dX10_measureOf_115 ?_
          refine gg_iadd dX10_measureOf_116 ?_
          refine gg_toI (b := ((i + 1 : Nat) : Int)) (by omega) ?_
          refine gg_istore (ls' := [(7, .int (iv ((i + 1 : Nat) : Int))), (6, .int (iv 0)), (5, .int (iv (gDo q 0 (gl2i (N i))))), (4, .int (iv 0)), (0, .ref (gad (gSS ad) 145)), (1, .int (iv (f : Int))), (2, .int (iv (i : Int))), (3, .int (iv (q : Int)))]) dX10_measureOf_117 (by decide) rfl ?_
          refine gg_iconst dX10_measureOf_119 ?_
          refine gg_istore (ls' := [(8, .int (iv 0)), (7, .int (iv ((i + 1 : Nat) : Int))), (6, .int (iv 0)), (5, .int (iv (gDo q 0 (gl2i (N i))))), (4, .int (iv 0)), (0, .ref (gad (gSS ad) 145)), (1, .int (iv (f : Int))), (2, .int (iv (i : Int))), (3, .int (iv (q : Int)))]) dX10_measureOf_120 (by decide) rfl ?_
          refine gg_iload dX10_measureOf_122 0 rfl ?_
          refine gg_iload dX10_measureOf_124 4 rfl ?_
          refine gg_callSi (own := RX10) (yt := gm_X10_parts) rfl gl_RX10_98 gk_X10_parts gr_X10_parts dX10_measureOf_126 (c_X10_parts (d := d - 1) (k := 0) (by omega)) rfl rfl (Nat.le_of_ble_eq_true rfl) (by show _ ≤ d; omega) ⟨Nat.le_refl _, Nat.le_refl _⟩ (fun e3 μ' hc => ?_)
          obtain ⟨rfl, rfl⟩ := hc
          refine gg_toI (b := 0) rfl ?_
          refine gg_icmp_ge_t (tgt := 165) dX10_measureOf_129 (by decide) (by decide) (by decide) ?_
          refine gg_sipush dX10_measureOf_165 (by decide) ?_
          refine gg_iload dX10_measureOf_168 2 rfl ?_
          refine gg_iload dX10_measureOf_170 3 rfl ?_
          refine gg_iadd dX10_measureOf_172 ?_
          refine gg_mmin rfl gl_RX10_299 dX10_measureOf_173 (by first | omega | (have := @gJn_rng q 0 (gDc n q K N Z (i + 1)) 0 9999 (by omega) (by omega); have := @gJn_rng q (gJn q 0 (gDc n q K N Z (i + 1))) (gDc n q K N Z (gPt Z i 1)) 9999 9999 (by omega) (by omega); have := @gJn_rng q (gJn q (gJn q 0 (gDc n q K N Z (i + 1))) (gDc n q K N Z (gPt Z i 1))) (gDc n q K N Z (gPt Z i 2)) 19998 9999 (by omega) (by omega); omega) | (have := @gJn_rng q 0 (gDc n q K N Z (i + 1)) 0 9999 (by omega) (by omega); have := @gJn_rng q (gJn q 0 (gDc n q K N Z (i + 1))) (gDc n q K N Z (gPt Z i 1)) 9999 9999 (by omega) (by omega); omega) | (have := @gJn_rng q 0 (gDc n q K N Z (i + 1)) 0 9999 (by omega) (by omega); omega) | (split <;> omega) | (have := @gJn_rng q 0 (gDc n q K N Z (i + 1)) 0 9999 (by omega) (by omega); split <;> omega)) (Nat.le_of_ble_eq_true rfl) (by omega) ⟨Nat.le_refl _, Nat.le_refl _⟩ ?_
          refine gg_ireti dX10_measureOf_176 rfl ⟨rfl, rfl⟩ ?_
          refine ⟨rfl, ?_⟩
          rw [gDc_is n q K N Z i hi]
          unfold gdF
          rw [hk]
          unfold gDj
          rw [if_neg (show ¬ (q = 4 ∧ 0 = 6) by omega), if_neg (show ¬ (q = 5 ∧ 0 = 7) by omega)]
          exact rfl
        · refine gg_iload dX10_measureOf_89 2 rfl ?_
          refine gg_bipush dX10_measureOf_91 (by decide) ?_
          refine gg_icmp_ne_t (tgt := 114) dX10_measureOf_93 (by decide) (by decide) (by decide) ?_
          refine gg_iload_n dX10_measureOf_114 5 rfl ?_
          refine gg_iconst dX10_measureOf_115 ?_
          refine gg_iadd dX10_measureOf_116 ?_
          refine gg_toI (b := ((i + 1 : Nat) : Int)) (by omega) ?_
          refine gg_istore (ls' := [(7, .int (iv ((i + 1 : Nat) : Int))), (6, .int (iv 0)), (5, .int (iv (gDo q 0 (gl2i (N i))))), (4, .int (iv 0)), (0, .ref (gad (gSS ad) 145)), (1, .int (iv (f : Int))), (2, .int (iv (i : Int))), (3, .int (iv (q : Int)))]) dX10_measureOf_117 (by decide) rfl ?_
          refine gg_iconst dX10_measureOf_119 ?_
          refine gg_istore (ls' := [(8, .int (iv 0)), (7, .int (iv ((i + 1 : Nat) : Int))), (6, .int (iv 0)), (5, .int (iv (gDo q 0 (gl2i (N i))))), (4, .int (iv 0)), (0, .ref (gad (gSS ad) 145)), (1, .int (iv (f : Int))), (2, .int (iv (i : Int))), (3, .int (iv (q : Int)))]) dX10_measureOf_120 (by decide) rfl ?_
          refine gg_iload dX10_measureOf_122 0 rfl ?_
          refine gg_iload dX10_measureOf_124 4 rfl ?_
          refine gg_callSi (own := RX10) (yt := gm_X10_parts) rfl gl_RX10_98 gk_X10_parts gr_X10_parts dX10_measureOf_126 (c_X10_parts (d := d - 1) (k := 0) (by omega)) rfl rfl (Nat.le_of_ble_eq_true rfl) (by show _ ≤ d; omega) ⟨Nat.le_refl _, Nat.le_refl _⟩ (fun e4 μ' hc => ?_)
          obtain ⟨rfl, rfl⟩ := hc
          refine gg_toI (b := 0) rfl ?_
          refine gg_icmp_ge_t (tgt := 165) dX10_measureOf_129 (by decide) (by decide) (by decide) ?_
          refine gg_sipush dX10_measureOf_165 (by decide) ?_
          refine gg_iload dX10_measureOf_168 2 rfl ?_
          refine gg_iload dX10_measureOf_170 3 rfl ?_
          refine gg_iadd dX10_measureOf_172 ?_
          refine gg_mmin rfl gl_RX10_299 dX10_measureOf_173 (by first | omega | (have := @gJn_rng q 0 (gDc n q K N Z (i + 1)) 0 9999 (by omega) (by omega); have := @gJn_rng q (gJn q 0 (gDc n q K N Z (i + 1))) (gDc n q K N Z (gPt Z i 1)) 9999 9999 (by omega) (by omega); have := @gJn_rng q (gJn q (gJn q 0 (gDc n q K N Z (i + 1))) (gDc n q K N Z (gPt Z i 1))) (gDc n q K N Z (gPt Z i 2)) 19998 9999 (by omega) (by omega); omega) | (have := @gJn_rng q 0 (gDc n q K N Z (i + 1)) 0 9999 (by omega) (by omega); have := @gJn_rng q (gJn q 0 (gDc n q K N Z (i + 1))) (gDc n q K N Z (gPt Z i 1)) 9999 9999 (by omega) (by omega); omega) | (have := @gJn_rng q 0 (gDc n q K N Z (i + 1)) 0 9999 (by omega) (by omega); omega) | (split <;> omega) | (have := @gJn_rng q 0 (gDc n q K N Z (i + 1)) 0 9999 (by omega) (by omega); split <;> omega)) (Nat.le_of_ble_eq_true rfl) (by omega) ⟨Nat.le_refl _, Nat.le_refl _⟩ ?_
          refine gg_ireti dX10_measureOf_176 rfl ⟨rfl, rfl⟩ ?_
          refine ⟨rfl, ?_⟩
          rw [gDc_is n q K N Z i hi]
          unfold gdF
          rw [hk]
          unfold gDj
          rw [if_neg (show ¬ (q = 4 ∧ 0 = 6) by omega), if_neg (show ¬ (q = 5 ∧ 0 = 7) by omega)]
          exact rfl
      · refine gg_iload dX10_measureOf_35 2 rfl ?_
        refine gg_bipush dX10_measureOf_37 (by decide) ?_
        refine gg_icmp_ne_t (tgt := 84) dX10_measureOf_39 (by decide) (by decide) (by decide) ?_
        refine gg_iload_n dX10_measureOf_84 6 rfl ?_
        refine gg_iconst dX10_measureOf_85 ?_
        refine gg_icmp_ne (tgt := 114) dX10_measureOf_86 (by decide) (by omega) (fun hq5 => ?_) (fun hq5 => ?_)
        · refine gg_iload_n dX10_measureOf_114 5 rfl ?_
          refine gg_iconst dX10_measureOf_115 ?_
          refine gg_iadd dX10_measureOf_116 ?_
          refine gg_toI (b := ((i + 1 : Nat) : Int)) (by omega) ?_
          refine gg_istore (ls' := [(7, .int (iv ((i + 1 : Nat) : Int))), (6, .int (iv 0)), (5, .int (iv (gDo q 0 (gl2i (N i))))), (4, .int (iv 0)), (0, .ref (gad (gSS ad) 145)), (1, .int (iv (f : Int))), (2, .int (iv (i : Int))), (3, .int (iv (q : Int)))]) dX10_measureOf_117 (by decide) rfl ?_
          refine gg_iconst dX10_measureOf_119 ?_
          refine gg_istore (ls' := [(8, .int (iv 0)), (7, .int (iv ((i + 1 : Nat) : Int))), (6, .int (iv 0)), (5, .int (iv (gDo q 0 (gl2i (N i))))), (4, .int (iv 0)), (0, .ref (gad (gSS ad) 145)), (1, .int (iv (f : Int))), (2, .int (iv (i : Int))), (3, .int (iv (q : Int)))]) dX10_measureOf_120 (by decide) rfl ?_
          refine gg_iload dX10_measureOf_122 0 rfl ?_
          refine gg_iload dX10_measureOf_124 4 rfl ?_
          refine gg_callSi (own := RX10) (yt := gm_X10_parts) rfl gl_RX10_98 gk_X10_parts gr_X10_parts dX10_measureOf_126 (c_X10_parts (d := d - 1) (k := 0) (by omega)) rfl rfl (Nat.le_of_ble_eq_true rfl) (by show _ ≤ d; omega) ⟨Nat.le_refl _, Nat.le_refl _⟩ (fun e5 μ' hc => ?_)
          obtain ⟨rfl, rfl⟩ := hc
          refine gg_toI (b := 0) rfl ?_
          refine gg_icmp_ge_t (tgt := 165) dX10_measureOf_129 (by decide) (by decide) (by decide) ?_
          refine gg_sipush dX10_measureOf_165 (by decide) ?_
          refine gg_iload dX10_measureOf_168 2 rfl ?_
          refine gg_iload dX10_measureOf_170 3 rfl ?_
          refine gg_iadd dX10_measureOf_172 ?_
          refine gg_mmin rfl gl_RX10_299 dX10_measureOf_173 (by first | omega | (have := @gJn_rng q 0 (gDc n q K N Z (i + 1)) 0 9999 (by omega) (by omega); have := @gJn_rng q (gJn q 0 (gDc n q K N Z (i + 1))) (gDc n q K N Z (gPt Z i 1)) 9999 9999 (by omega) (by omega); have := @gJn_rng q (gJn q (gJn q 0 (gDc n q K N Z (i + 1))) (gDc n q K N Z (gPt Z i 1))) (gDc n q K N Z (gPt Z i 2)) 19998 9999 (by omega) (by omega); omega) | (have := @gJn_rng q 0 (gDc n q K N Z (i + 1)) 0 9999 (by omega) (by omega); have := @gJn_rng q (gJn q 0 (gDc n q K N Z (i + 1))) (gDc n q K N Z (gPt Z i 1)) 9999 9999 (by omega) (by omega); omega) | (have := @gJn_rng q 0 (gDc n q K N Z (i + 1)) 0 9999 (by omega) (by omega); omega) | (split <;> omega) | (have := @gJn_rng q 0 (gDc n q K N Z (i + 1)) 0 9999 (by omega) (by omega); split <;> omega)) (Nat.le_of_ble_eq_true rfl) (by omega) ⟨Nat.le_refl _, Nat.le_refl _⟩ ?_
          refine gg_ireti dX10_measureOf_176 rfl ⟨rfl, rfl⟩ ?_
          refine ⟨rfl, ?_⟩
          rw [gDc_is n q K N Z i hi]
          unfold gdF
          rw [hk]
          unfold gDj
          rw [if_neg (show ¬ (q = 4 ∧ 0 = 6) by omega), if_neg (show ¬ (q = 5 ∧ 0 = 7) by omega)]
          exact rfl
        · refine gg_iload dX10_measureOf_89 2 rfl ?_
          refine gg_bipush dX10_measureOf_91 (by decide) ?_
          refine gg_icmp_ne_t (tgt := 114) dX10_measureOf_93 (by decide) (by decide) (by decide) ?_
          refine gg_iload_n dX10_measureOf_114 5 rfl ?_
          refine gg_iconst dX10_measureOf_115 ?_
          refine gg_iadd dX10_measureOf_116 ?_
          refine gg_toI (b := ((i + 1 : Nat) : Int)) (by omega) ?_
          refine gg_istore (ls' := [(7, .int (iv ((i + 1 : Nat) : Int))), (6, .int (iv 0)), (5, .int (iv (gDo q 0 (gl2i (N i))))), (4, .int (iv 0)), (0, .ref (gad (gSS ad) 145)), (1, .int (iv (f : Int))), (2, .int (iv (i : Int))), (3, .int (iv (q : Int)))]) dX10_measureOf_117 (by decide) rfl ?_
          refine gg_iconst dX10_measureOf_119 ?_
          refine gg_istore (ls' := [(8, .int (iv 0)), (7, .int (iv ((i + 1 : Nat) : Int))), (6, .int (iv 0)), (5, .int (iv (gDo q 0 (gl2i (N i))))), (4, .int (iv 0)), (0, .ref (gad (gSS ad) 145)), (1, .int (iv (f : Int))), (2, .int (iv (i : Int))), (3, .int (iv (q : Int)))]) dX10_measureOf_120 (by decide) rfl ?_
          refine gg_iload dX10_measureOf_122 0 rfl ?_
          refine gg_iload dX10_measureOf_124 4 rfl ?_
          refine gg_callSi (own := RX10) (yt := gm_X10_parts) rfl gl_RX10_98 gk_X10_parts gr_X10_parts dX10_measureOf_126 (c_X10_parts (d := d - 1) (k := 0) (by omega)) rfl rfl (Nat.le_of_ble_eq_true rfl) (by show _ ≤ d; omega) ⟨Nat.le_refl _, Nat.le_refl _⟩ (fun e6 μ' hc => ?_)
          obtain ⟨rfl, rfl⟩ := hc
          refine gg_toI (b := 0) rfl ?_
          refine gg_icmp_ge_t (tgt := 165) dX10_measureOf_129 (by decide) (by decide) (by decide) ?_
          refine gg_sipush dX10_measureOf_165 (by decide) ?_
          refine gg_iload dX10_measureOf_168 2 rfl ?_
          refine gg_iload dX10_measureOf_170 3 rfl ?_
          refine gg_iadd dX10_measureOf_172 ?_
          refine gg_mmin rfl gl_RX10_299 dX10_measureOf_173 (by first | omega | (have := @gJn_rng q 0 (gDc n q K N Z (i + 1)) 0 9999 (by omega) (by omega); have := @gJn_rng q (gJn q 0 (gDc n q K N Z (i + 1))) (gDc n q K N Z (gPt Z i 1)) 9999 9999 (by omega) (by omega); have := @gJn_rng q (gJn q (gJn q 0 (gDc n q K N Z (i + 1))) (gDc n q K N Z (gPt Z i 1))) (gDc n q K N Z (gPt Z i 2)) 19998 9999 (by omega) (by omega); omega) | (have := @gJn_rng q 0 (gDc n q K N Z (i + 1)) 0 9999 (by omega) (by omega); have := @gJn_rng q (gJn q 0 (gDc n q K N Z (i + 1))) (gDc n q K N Z (gPt Z i 1)) 9999 9999 (by omega) (by omega); omega) | (have := @gJn_rng q 0 (gDc n q K N Z (i + 1)) 0 9999 (by omega) (by omega); omega) | (split <;> omega) | (have := @gJn_rng q 0 (gDc n q K N Z (i + 1)) 0 9999 (by omega) (by omega); split <;> omega)) (Nat.le_of_ble_eq_true rfl) (by omega) ⟨Nat.le_refl _, Nat.le_refl _⟩ ?_
          refine gg_ireti dX10_measureOf_176 rfl ⟨rfl, rfl⟩ ?_
          refine ⟨rfl, ?_⟩
          rw [gDc_is n q K N Z i hi]
          unfold gdF
          rw [hk]
          unfold gDj
          rw [if_neg (show ¬ (q = 4 ∧ 0 = 6) by omega), if_neg (show ¬ (q = 5 ∧ 0 = 7) by omega)]
          exact rfl
    · refine gg_toI (b := 1) (by omega) ?_
      refine gg_istore (ls' := [(4, .int (iv 1)), (0, .ref (gad (gSS ad) 145)), (1, .int (iv (f : Int))), (2, .int (iv (i : Int))), (3, .int (iv (q : Int)))]) dX10_measureOf_8 (by decide) rfl ?_
      have hor := gDo_rng hW hi q
      rw [hk] at hor
      refine gg_iload_n dX10_measureOf_10 4 rfl ?_
      refine gg_iload dX10_measureOf_11 0 rfl ?_
      refine gg_aload_n dX10_measureOf_13 1 rfl ?_
      refine gg_getR (k' := 160) rfl gf_RX10_20 dX10_measureOf_14 sh_145 pl_145 (by decide) (by decide) rr_145_2 ?_
      refine gg_iload_n dX10_measureOf_17 2 rfl ?_
      refine gg_aaldj (t := 7) f (k' := (161 + f)) dX10_measureOf_18 sh_160 (by decide) pl_160 (by decide) rfl hf (rr_160 hf) ?_
      refine gg_iload_n dX10_measureOf_19 3 rfl ?_
      refine gg_laldj i dX10_measureOf_20 (rs_160 hf) (rl_160 hf) (by decide) rfl (by omega) ?_
      refine gg_toL (b := N i) (hM.2 i hi).2.1 ?_
      refine gg_l2i dX10_measureOf_21 ?_
      refine gg_callSi (own := RX10) (yt := gm_X10_own) rfl gl_RX10_289 gk_X10_own gr_X10_own dX10_measureOf_22 (c_X10_own (d := d - 1) (q := q) (k := 1) hq (by omega)) rfl rfl (Nat.le_of_ble_eq_true rfl) (by show _ ≤ d; omega) ⟨Nat.le_refl _, Nat.le_refl _⟩ (fun e7 μ' hc => ?_)
      obtain ⟨rfl, rfl⟩ := hc
      refine gg_toI (b := gDo q 1 (gl2i (N i))) (if_neg (by omega)) ?_
      refine gg_istore (ls' := [(5, .int (iv (gDo q 1 (gl2i (N i))))), (4, .int (iv 1)), (0, .ref (gad (gSS ad) 145)), (1, .int (iv (f : Int))), (2, .int (iv (i : Int))), (3, .int (iv (q : Int)))]) dX10_measureOf_25 (by decide) rfl ?_
      refine gg_iconst dX10_measureOf_27 ?_
      refine gg_istore (ls' := [(6, .int (iv 0)), (5, .int (iv (gDo q 1 (gl2i (N i))))), (4, .int (iv 1)), (0, .ref (gad (gSS ad) 145)), (1, .int (iv (f : Int))), (2, .int (iv (i : Int))), (3, .int (iv (q : Int)))]) dX10_measureOf_28 (by decide) rfl ?_
      refine gg_iload_n dX10_measureOf_30 6 rfl ?_
      refine gg_iconst dX10_measureOf_31 ?_
      refine gg_icmp_ne (tgt := 84) dX10_measureOf_32 (by decide) (by omega) (fun hb8 => ?_) (fun hb8 => ?_)
      · refine gg_iload_n dX10_measureOf_84 6 rfl ?_
        refine gg_iconst dX10_measureOf_85 ?_
        refine gg_icmp_ne (tgt := 114) dX10_measureOf_86 (by decide) (by omega) (fun hq5 => ?_) (fun hq5 => ?_)
        · refine gg_iload_n dX10_measureOf_114 5 rfl ?_
          refine gg_iconst dX10_measureOf_115 ?_
          refine gg_iadd dX10_measureOf_116 ?_
          refine gg_toI (b := ((i + 1 : Nat) : Int)) (by omega) ?_
          refine gg_istore (ls' := [(7, .int (iv ((i + 1 : Nat) : Int))), (6, .int (iv 0)), (5, .int (iv (gDo q 1 (gl2i (N i))))), (4, .int (iv 1)), (0, .ref (gad (gSS ad) 145)), (1, .int (iv (f : Int))), (2, .int (iv (i : Int))), (3, .int (iv (q : Int)))]) dX10_measureOf_117 (by decide) rfl ?_
          refine gg_iconst dX10_measureOf_119 ?_
          refine gg_istore (ls' := [(8, .int (iv 0)), (7, .int (iv ((i + 1 : Nat) : Int))), (6, .int (iv 0)), (5, .int (iv (gDo q 1 (gl2i (N i))))), (4, .int (iv 1)), (0, .ref (gad (gSS ad) 145)), (1, .int (iv (f : Int))), (2, .int (iv (i : Int))), (3, .int (iv (q : Int)))]) dX10_measureOf_120 (by decide) rfl ?_
          refine gg_iload dX10_measureOf_122 0 rfl ?_
          refine gg_iload dX10_measureOf_124 4 rfl ?_
          refine gg_callSi (own := RX10) (yt := gm_X10_parts) rfl gl_RX10_98 gk_X10_parts gr_X10_parts dX10_measureOf_126 (c_X10_parts (d := d - 1) (k := 1) (by omega)) rfl rfl (Nat.le_of_ble_eq_true rfl) (by show _ ≤ d; omega) ⟨Nat.le_refl _, Nat.le_refl _⟩ (fun e9 μ' hc => ?_)
          obtain ⟨rfl, rfl⟩ := hc
          refine gg_toI (b := 0) rfl ?_
          refine gg_icmp_ge_t (tgt := 165) dX10_measureOf_129 (by decide) (by decide) (by decide) ?_
          refine gg_sipush dX10_measureOf_165 (by decide) ?_
          refine gg_iload dX10_measureOf_168 2 rfl ?_
          refine gg_iload dX10_measureOf_170 3 rfl ?_
          refine gg_iadd dX10_measureOf_172 ?_
          refine gg_mmin rfl gl_RX10_299 dX10_measureOf_173 (by first | omega | (have := @gJn_rng q 0 (gDc n q K N Z (i + 1)) 0 9999 (by omega) (by omega); have := @gJn_rng q (gJn q 0 (gDc n q K N Z (i + 1))) (gDc n q K N Z (gPt Z i 1)) 9999 9999 (by omega) (by omega); have := @gJn_rng q (gJn q (gJn q 0 (gDc n q K N Z (i + 1))) (gDc n q K N Z (gPt Z i 1))) (gDc n q K N Z (gPt Z i 2)) 19998 9999 (by omega) (by omega); omega) | (have := @gJn_rng q 0 (gDc n q K N Z (i + 1)) 0 9999 (by omega) (by omega); have := @gJn_rng q (gJn q 0 (gDc n q K N Z (i + 1))) (gDc n q K N Z (gPt Z i 1)) 9999 9999 (by omega) (by omega); omega) | (have := @gJn_rng q 0 (gDc n q K N Z (i + 1)) 0 9999 (by omega) (by omega); omega) | (split <;> omega) | (have := @gJn_rng q 0 (gDc n q K N Z (i + 1)) 0 9999 (by omega) (by omega); split <;> omega)) (Nat.le_of_ble_eq_true rfl) (by omega) ⟨Nat.le_refl _, Nat.le_refl _⟩ ?_
          refine gg_ireti dX10_measureOf_176 rfl ⟨rfl, rfl⟩ ?_
          refine ⟨rfl, ?_⟩
          rw [gDc_is n q K N Z i hi]
          unfold gdF
          rw [hk]
          unfold gDj
          rw [if_neg (show ¬ (q = 4 ∧ 1 = 6) by omega), if_neg (show ¬ (q = 5 ∧ 1 = 7) by omega)]
          exact rfl
        · refine gg_iload dX10_measureOf_89 2 rfl ?_
          refine gg_bipush dX10_measureOf_91 (by decide) ?_
          refine gg_icmp_ne_t (tgt := 114) dX10_measureOf_93 (by decide) (by decide) (by decide) ?_
          refine gg_iload_n dX10_measureOf_114 5 rfl ?_
          refine gg_iconst dX10_measureOf_115 ?_
          refine gg_iadd dX10_measureOf_116 ?_
          refine gg_toI (b := ((i + 1 : Nat) : Int)) (by omega) ?_
          refine gg_istore (ls' := [(7, .int (iv ((i + 1 : Nat) : Int))), (6, .int (iv 0)), (5, .int (iv (gDo q 1 (gl2i (N i))))), (4, .int (iv 1)), (0, .ref (gad (gSS ad) 145)), (1, .int (iv (f : Int))), (2, .int (iv (i : Int))), (3, .int (iv (q : Int)))]) dX10_measureOf_117 (by decide) rfl ?_
          refine gg_iconst dX10_measureOf_119 ?_
          refine gg_istore (ls' := [(8, .int (iv 0)), (7, .int (iv ((i + 1 : Nat) : Int))), (6, .int (iv 0)), (5, .int (iv (gDo q 1 (gl2i (N i))))), (4, .int (iv 1)), (0, .ref (gad (gSS ad) 145)), (1, .int (iv (f : Int))), (2, .int (iv (i : Int))), (3, .int (iv (q : Int)))]) dX10_measureOf_120 (by decide) rfl ?_
          refine gg_iload dX10_measureOf_122 0 rfl ?_
          refine gg_iload dX10_measureOf_124 4 rfl ?_
          refine gg_callSi (own := RX10) (yt := gm_X10_parts) rfl gl_RX10_98 gk_X10_parts gr_X10_parts dX10_measureOf_126 (c_X10_parts (d := d - 1) (k := 1) (by omega)) rfl rfl (Nat.le_of_ble_eq_true rfl) (by show _ ≤ d; omega) ⟨Nat.le_refl _, Nat.le_refl _⟩ (fun e10 μ' hc => ?_)
          obtain ⟨rfl, rfl⟩ := hc
          refine gg_toI (b := 0) rfl ?_
          refine gg_icmp_ge_t (tgt := 165) dX10_measureOf_129 (by decide) (by decide) (by decide) ?_
          refine gg_sipush dX10_measureOf_165 (by decide) ?_
          refine gg_iload dX10_measureOf_168 2 rfl ?_
          refine gg_iload dX10_measureOf_170 3 rfl ?_
          refine gg_iadd dX10_measureOf_172 ?_
          refine gg_mmin rfl gl_RX10_299 dX10_measureOf_173 (by first | omega | (have := @gJn_rng q 0 (gDc n q K N Z (i + 1)) 0 9999 (by omega) (by omega); have := @gJn_rng q (gJn q 0 (gDc n q K N Z (i + 1))) (gDc n q K N Z (gPt Z i 1)) 9999 9999 (by omega) (by omega); have := @gJn_rng q (gJn q (gJn q 0 (gDc n q K N Z (i + 1))) (gDc n q K N Z (gPt Z i 1))) (gDc n q K N Z (gPt Z i 2)) 19998 9999 (by omega) (by omega); omega) | (have := @gJn_rng q 0 (gDc n q K N Z (i + 1)) 0 9999 (by omega) (by omega); have := @gJn_rng q (gJn q 0 (gDc n q K N Z (i + 1))) (gDc n q K N Z (gPt Z i 1)) 9999 9999 (by omega) (by omega); omega) | (have := @gJn_rng q 0 (gDc n q K N Z (i + 1)) 0 9999 (by omega) (by omega); omega) | (split <;> omega) | (have := @gJn_rng q 0 (gDc n q K N Z (i + 1)) 0 9999 (by omega) (by omega); split <;> omega)) (Nat.le_of_ble_eq_true rfl) (by omega) ⟨Nat.le_refl _, Nat.le_refl _⟩ ?_
          refine gg_ireti dX10_measureOf_176 rfl ⟨rfl, rfl⟩ ?_
          refine ⟨rfl, ?_⟩
          rw [gDc_is n q K N Z i hi]
          unfold gdF
          rw [hk]
          unfold gDj
          rw [if_neg (show ¬ (q = 4 ∧ 1 = 6) by omega), if_neg (show ¬ (q = 5 ∧ 1 = 7) by omega)]
          exact rfl
      · refine gg_iload dX10_measureOf_35 2 rfl ?_
        refine gg_bipush dX10_measureOf_37 (by decide) ?_
        refine gg_icmp_ne_t (tgt := 84) dX10_measureOf_39 (by decide) (by decide) (by decide) ?_
        refine gg_iload_n dX10_measureOf_84 6 rfl ?_
        refine gg_iconst dX10_measureOf_85 ?_
        refine gg_icmp_ne (tgt := 114) dX10_measureOf_86 (by decide) (by omega) (fun hq5 => ?_) (fun hq5 => ?_)
        · refine gg_iload_n dX10_measureOf_114 5 rfl ?_
          refine gg_iconst dX10_measureOf_115 ?_
          refine gg_iadd dX10_measureOf_116 ?_
          refine gg_toI (b := ((i + 1 : Nat) : Int)) (by omega) ?_
          refine gg_istore (ls' := [(7, .int (iv ((i + 1 : Nat) : Int))), (6, .int (iv 0)), (5, .int (iv (gDo q 1 (gl2i (N i))))), (4, .int (iv 1)), (0, .ref (gad (gSS ad) 145)), (1, .int (iv (f : Int))), (2, .int (iv (i : Int))), (3, .int (iv (q : Int)))]) dX10_measureOf_117 (by decide) rfl ?_
          refine gg_iconst dX10_measureOf_119 ?_
          refine gg_istore (ls' := [(8, .int (iv 0)), (7, .int (iv ((i + 1 : Nat) : Int))), (6, .int (iv 0)), (5, .int (iv (gDo q 1 (gl2i (N i))))), (4, .int (iv 1)), (0, .ref (gad (gSS ad) 145)), (1, .int (iv (f : Int))), (2, .int (iv (i : Int))), (3, .int (iv (q : Int)))]) dX10_measureOf_120 (by decide) rfl ?_
          refine gg_iload dX10_measureOf_122 0 rfl ?_
          refine gg_iload dX10_measureOf_124 4 rfl ?_
          refine gg_callSi (own := RX10) (yt := gm_X10_parts) rfl gl_RX10_98 gk_X10_parts gr_X10_parts dX10_measureOf_126 (c_X10_parts (d := d - 1) (k := 1) (by omega)) rfl rfl (Nat.le_of_ble_eq_true rfl) (by show _ ≤ d; omega) ⟨Nat.le_refl _, Nat.le_refl _⟩ (fun e11 μ' hc => ?_)
          obtain ⟨rfl, rfl⟩ := hc
          refine gg_toI (b := 0) rfl ?_
          refine gg_icmp_ge_t (tgt := 165) dX10_measureOf_129 (by decide) (by decide) (by decide) ?_
          refine gg_sipush dX10_measureOf_165 (by decide) ?_
          refine gg_iload dX10_measureOf_168 2 rfl ?_
          refine gg_iload dX10_measureOf_170 3 rfl ?_
          refine gg_iadd dX10_measureOf_172 ?_
          refine gg_mmin rfl gl_RX10_299 dX10_measureOf_173 (by first | omega | (have := @gJn_rng q 0 (gDc n q K N Z (i + 1)) 0 9999 (by omega) (by omega); have := @gJn_rng q (gJn q 0 (gDc n q K N Z (i + 1))) (gDc n q K N Z (gPt Z i 1)) 9999 9999 (by omega) (by omega); have := @gJn_rng q (gJn q (gJn q 0 (gDc n q K N Z (i + 1))) (gDc n q K N Z (gPt Z i 1))) (gDc n q K N Z (gPt Z i 2)) 19998 9999 (by omega) (by omega); omega) | (have := @gJn_rng q 0 (gDc n q K N Z (i + 1)) 0 9999 (by omega) (by omega); have := @gJn_rng q (gJn q 0 (gDc n q K N Z (i + 1))) (gDc n q K N Z (gPt Z i 1)) 9999 9999 (by omega) (by omega); omega) | (have := @gJn_rng q 0 (gDc n q K N Z (i + 1)) 0 9999 (by omega) (by omega); omega) | (split <;> omega) | (have := @gJn_rng q 0 (gDc n q K N Z (i + 1)) 0 9999 (by omega) (by omega); split <;> omega)) (Nat.le_of_ble_eq_true rfl) (by omega) ⟨Nat.le_refl _, Nat.le_refl _⟩ ?_
          refine gg_ireti dX10_measureOf_176 rfl ⟨rfl, rfl⟩ ?_
          refine ⟨rfl, ?_⟩
          rw [gDc_is n q K N Z i hi]
          unfold gdF
          rw [hk]
          unfold gDj
          rw [if_neg (show ¬ (q = 4 ∧ 1 = 6) by omega), if_neg (show ¬ (q = 5 ∧ 1 = 7) by omega)]
          exact rfl
        · refine gg_iload dX10_measureOf_89 2 rfl ?_
          refine gg_bipush dX10_measureOf_91 (by decide) ?_
          refine gg_icmp_ne_t (tgt := 114) dX10_measureOf_93 (by decide) (by decide) (by decide) ?_
          refine gg_iload_n dX10_measureOf_114 5 rfl ?_
          refine gg_iconst dX10_measureOf_115 ?_
          refine gg_iadd dX10_measureOf_116 ?_
          refine gg_toI (b := ((i + 1 : Nat) : Int)) (by omega) ?_
          refine gg_istore (ls' := [(7, .int (iv ((i + 1 : Nat) : Int))), (6, .int (iv 0)), (5, .int (iv (gDo q 1 (gl2i (N i))))), (4, .int (iv 1)), (0, .ref (gad (gSS ad) 145)), (1, .int (iv (f : Int))), (2, .int (iv (i : Int))), (3, .int (iv (q : Int)))]) dX10_measureOf_117 (by decide) rfl ?_
          refine gg_iconst dX10_measureOf_119 ?_
          refine gg_istore (ls' := [(8, .int (iv 0)), (7, .int (iv ((i + 1 : Nat) : Int))), (6, .int (iv 0)), (5, .int (iv (gDo q 1 (gl2i (N i))))), (4, .int (iv 1)), (0, .ref (gad (gSS ad) 145)), (1, .int (iv (f : Int))), (2, .int (iv (i : Int))), (3, .int (iv (q : Int)))]) dX10_measureOf_120 (by decide) rfl ?_
          refine gg_iload dX10_measureOf_122 0 rfl ?_
          refine gg_iload dX10_measureOf_124 4 rfl ?_
          refine gg_callSi (own := RX10) (yt := gm_X10_parts) rfl gl_RX10_98 gk_X10_parts gr_X10_parts dX10_measureOf_126 (c_X10_parts (d := d - 1) (k := 1) (by omega)) rfl rfl (Nat.le_of_ble_eq_true rfl) (by show _ ≤ d; omega) ⟨Nat.le_refl _, Nat.le_refl _⟩ (fun e12 μ' hc => ?_)
          obtain ⟨rfl, rfl⟩ := hc
          refine gg_toI (b := 0) rfl ?_
          refine gg_icmp_ge_t (tgt := 165) dX10_measureOf_129 (by decide) (by decide) (by decide) ?_
          refine gg_sipush dX10_measureOf_165 (by decide) ?_
          refine gg_iload dX10_measureOf_168 2 rfl ?_
          refine gg_iload dX10_measureOf_170 3 rfl ?_
          refine gg_iadd dX10_measureOf_172 ?_
          refine gg_mmin rfl gl_RX10_299 dX10_measureOf_173 (by first | omega | (have := @gJn_rng q 0 (gDc n q K N Z (i + 1)) 0 9999 (by omega) (by omega); have := @gJn_rng q (gJn q 0 (gDc n q K N Z (i + 1))) (gDc n q K N Z (gPt Z i 1)) 9999 9999 (by omega) (by omega); have := @gJn_rng q (gJn q (gJn q 0 (gDc n q K N Z (i + 1))) (gDc n q K N Z (gPt Z i 1))) (gDc n q K N Z (gPt Z i 2)) 19998 9999 (by omega) (by omega); omega) | (have := @gJn_rng q 0 (gDc n q K N Z (i + 1)) 0 9999 (by omega) (by omega); have := @gJn_rng q (gJn q 0 (gDc n q K N Z (i + 1))) (gDc n q K N Z (gPt Z i 1)) 9999 9999 (by omega) (by omega); omega) | (have := @gJn_rng q 0 (gDc n q K N Z (i + 1)) 0 9999 (by omega) (by omega); omega) | (split <;> omega) | (have := @gJn_rng q 0 (gDc n q K N Z (i + 1)) 0 9999 (by omega) (by omega); split <;> omega)) (Nat.le_of_ble_eq_true rfl) (by omega) ⟨Nat.le_refl _, Nat.le_refl _⟩ ?_
          refine gg_ireti dX10_measureOf_176 rfl ⟨rfl, rfl⟩ ?_
          refine ⟨rfl, ?_⟩
          rw [gDc_is n q K N Z i hi]
          unfold gdF
          rw [hk]
          unfold gDj
          rw [if_neg (show ¬ (q = 4 ∧ 1 = 6) by omega), if_neg (show ¬ (q = 5 ∧ 1 = 7) by omega)]
          exact rfl
    · refine gg_toI (b := 2) (by omega) ?_
      refine gg_istore (ls' := [(4, .int (iv 2)), (0, .ref (gad (gSS ad) 145)), (1, .int (iv (f : Int))), (2, .int (iv (i : Int))), (3, .int (iv (q : Int)))]) dX10_measureOf_8 (by decide) rfl ?_
      have g1 := gD_rng (q := q) hW _ (hc1 (by rw [hk]; decide))
      have hor := gDo_rng hW hi q
      rw [hk] at hor
      refine gg_iload_n dX10_measureOf_10 4 rfl ?_
      refine gg_iload dX10_measureOf_11 0 rfl ?_
      refine gg_aload_n dX10_measureOf_13 1 rfl ?_
      refine gg_getR (k' := 160) rfl gf_RX10_20 dX10_measureOf_14 sh_145 pl_145 (by decide) (by decide) rr_145_2 ?_
      refine gg_iload_n dX10_measureOf_17 2 rfl ?_
      refine gg_aaldj (t := 7) f (k' := (161 + f)) dX10_measureOf_18 sh_160 (by decide) pl_160 (by decide) rfl hf (rr_160 hf) ?_
      refine gg_iload_n dX10_measureOf_19 3 rfl ?_
      refine gg_laldj i dX10_measureOf_20 (rs_160 hf) (rl_160 hf) (by decide) rfl (by omega) ?_
      refine gg_toL (b := N i) (hM.2 i hi).2.1 ?_
      refine gg_l2i dX10_measureOf_21 ?_
      refine gg_callSi (own := RX10) (yt := gm_X10_own) rfl gl_RX10_289 gk_X10_own gr_X10_own dX10_measureOf_22 (c_X10_own (d := d - 1) (q := q) (k := 2) hq (by omega)) rfl rfl (Nat.le_of_ble_eq_true rfl) (by show _ ≤ d; omega) ⟨Nat.le_refl _, Nat.le_refl _⟩ (fun e13 μ' hc => ?_)
      obtain ⟨rfl, rfl⟩ := hc
      refine gg_toI (b := gDo q 2 (gl2i (N i))) (if_neg (by omega)) ?_
      refine gg_istore (ls' := [(5, .int (iv (gDo q 2 (gl2i (N i))))), (4, .int (iv 2)), (0, .ref (gad (gSS ad) 145)), (1, .int (iv (f : Int))), (2, .int (iv (i : Int))), (3, .int (iv (q : Int)))]) dX10_measureOf_25 (by decide) rfl ?_
      refine gg_iconst dX10_measureOf_27 ?_
      refine gg_istore (ls' := [(6, .int (iv 0)), (5, .int (iv (gDo q 2 (gl2i (N i))))), (4, .int (iv 2)), (0, .ref (gad (gSS ad) 145)), (1, .int (iv (f : Int))), (2, .int (iv (i : Int))), (3, .int (iv (q : Int)))]) dX10_measureOf_28 (by decide) rfl ?_
      refine gg_iload_n dX10_measureOf_30 6 rfl ?_
      refine gg_iconst dX10_measureOf_31 ?_
      refine gg_icmp_ne (tgt := 84) dX10_measureOf_32 (by decide) (by omega) (fun hb14 => ?_) (fun hb14 => ?_)
      · refine gg_iload_n dX10_measureOf_84 6 rfl ?_
        refine gg_iconst dX10_measureOf_85 ?_
        refine gg_icmp_ne (tgt := 114) dX10_measureOf_86 (by decide) (by omega) (fun hq5 => ?_) (fun hq5 => ?_)
        · refine gg_iload_n dX10_measureOf_114 5 rfl ?_
          refine gg_iconst dX10_measureOf_115 ?_
          refine gg_iadd dX10_measureOf_116 ?_
          refine gg_toI (b := ((i + 1 : Nat) : Int)) (by omega) ?_
          refine gg_istore (ls' := [(7, .int (iv ((i + 1 : Nat) : Int))), (6, .int (iv 0)), (5, .int (iv (gDo q 2 (gl2i (N i))))), (4, .int (iv 2)), (0, .ref (gad (gSS ad) 145)), (1, .int (iv (f : Int))), (2, .int (iv (i : Int))), (3, .int (iv (q : Int)))]) dX10_measureOf_117 (by decide) rfl ?_
          refine gg_iconst dX10_measureOf_119 ?_
          refine gg_istore (ls' := [(8, .int (iv 0)), (7, .int (iv ((i + 1 : Nat) : Int))), (6, .int (iv 0)), (5, .int (iv (gDo q 2 (gl2i (N i))))), (4, .int (iv 2)), (0, .ref (gad (gSS ad) 145)), (1, .int (iv (f : Int))), (2, .int (iv (i : Int))), (3, .int (iv (q : Int)))]) dX10_measureOf_120 (by decide) rfl ?_
          refine gg_iload dX10_measureOf_122 0 rfl ?_
          refine gg_iload dX10_measureOf_124 4 rfl ?_
          refine gg_callSi (own := RX10) (yt := gm_X10_parts) rfl gl_RX10_98 gk_X10_parts gr_X10_parts dX10_measureOf_126 (c_X10_parts (d := d - 1) (k := 2) (by omega)) rfl rfl (Nat.le_of_ble_eq_true rfl) (by show _ ≤ d; omega) ⟨Nat.le_refl _, Nat.le_refl _⟩ (fun e15 μ' hc => ?_)
          obtain ⟨rfl, rfl⟩ := hc
          refine gg_toI (b := 1) rfl ?_
          refine gg_icmp_ge_f (tgt := 165) dX10_measureOf_129 (by decide) (by decide) (by decide) ?_
          refine gg_iload_n dX10_measureOf_132 8 rfl ?_
          refine gg_iload dX10_measureOf_133 2 rfl ?_
          refine gg_aload_n dX10_measureOf_135 5 rfl ?_
          refine gg_iload_n dX10_measureOf_136 6 rfl ?_
          refine gg_iload dX10_measureOf_137 1 rfl ?_
          refine gg_iload_n dX10_measureOf_139 8 rfl ?_
          refine gg_callVi (own := RX10) (yt := gm_X10_measureOf) rfl gl_RX10_293 gk_X10_measureOf gr_X10_measureOf dX10_measureOf_140 (ih (i + 1) (hc1 (by rw [hk]; decide)) (by have := he1 (by rw [hk]; decide); omega) (d - 1) (by omega)) sh_145 pl_145 (by decide) rfl rfl rfl (Nat.le_of_ble_eq_true rfl) (by show _ ≤ d; omega) ⟨Nat.le_refl _, Nat.le_refl _⟩ (fun e16 μ' hc => ?_)
          obtain ⟨rfl, rfl⟩ := hc
          refine gg_callSi (own := RX10) (yt := gm_X10_join) rfl gl_RX10_296 gk_X10_join gr_X10_join dX10_measureOf_143 (c_X10_join (d := d - 1) (q := q) hq (by first | omega | (have := @gJn_rng q 0 (gDc n q K N Z (i + 1)) 0 9999 (by omega) (by omega); have := @gJn_rng q (gJn q 0 (gDc n q K N Z (i + 1))) (gDc n q K N Z (gPt Z i 1)) 9999 9999 (by omega) (by omega); omega) | (have := @gJn_rng q 0 (gDc n q K N Z (i + 1)) 0 9999 (by omega) (by omega); omega)) (by omega) (by omega)) rfl rfl (Nat.le_of_ble_eq_true rfl) (by show _ ≤ d; omega) ⟨Nat.le_refl _, Nat.le_refl _⟩ (fun e17 μ' hc => ?_)
          obtain ⟨rfl, rfl⟩ := hc
          refine gg_istore (ls' := [(6, .int (iv (gJn q 0 (gDc n q K N Z (i + 1))))), (8, .int (iv 0)), (7, .int (iv ((i + 1 : Nat) : Int))), (5, .int (iv (gDo q 2 (gl2i (N i))))), (4, .int (iv 2)), (0, .ref (gad (gSS ad) 145)), (1, .int (iv (f : Int))), (2, .int (iv (i : Int))), (3, .int (iv (q : Int)))]) dX10_measureOf_146 (by decide) rfl ?_
          refine gg_aload_n dX10_measureOf_148 5 rfl ?_
          refine gg_getR (k' := 173) rfl gf_RX10_23 dX10_measureOf_149 sh_145 pl_145 (by decide) (by decide) rr_145_3 ?_
          refine gg_iload_n dX10_measureOf_152 6 rfl ?_
          refine gg_aaldj (t := 6) f (k' := (174 + f)) dX10_measureOf_153 sh_173 (by decide) pl_173 (by decide) rfl hf (rr_173 hf) ?_
          refine gg_iload dX10_measureOf_154 2 rfl ?_
          refine gg_ialdj (i + 1) dX10_measureOf_156 (rs_173 hf) (rl_173 hf) (by decide) rfl (by have := hc1 (by rw [hk]; decide); omega) ?_
          refine gg_istore (ls' := [(7, .int (iv (I (174 + f) (i + 1)))), (6, .int (iv (gJn q 0 (gDc n q K N Z (i + 1))))), (8, .int (iv 0)), (5, .int (iv (gDo q 2 (gl2i (N i))))), (4, .int (iv 2)), (0, .ref (gad (gSS ad) 145)), (1, .int (iv (f : Int))), (2, .int (iv (i : Int))), (3, .int (iv (q : Int)))]) dX10_measureOf_157 (by decide) rfl ?_
          refine gg_iincv (ls' := [(8, .int (iv 1)), (7, .int (iv (I (174 + f) (i + 1)))), (6, .int (iv (gJn q 0 (gDc n q K N Z (i + 1))))), (5, .int (iv (gDo q 2 (gl2i (N i))))), (4, .int (iv 2)), (0, .ref (gad (gSS ad) 145)), (1, .int (iv (f : Int))), (2, .int (iv (i : Int))), (3, .int (iv (q : Int)))]) dX10_measureOf_159 2 rfl rfl (by decide) rfl ?_
          refine gg_goto (tgt := 122) dX10_measureOf_162 (by decide) ?_
          refine gg_iload dX10_measureOf_122 0 rfl ?_
          refine gg_iload dX10_measureOf_124 4 rfl ?_
          refine gg_callSi (own := RX10) (yt := gm_X10_parts) rfl gl_RX10_98 gk_X10_parts gr_X10_parts dX10_measureOf_126 (c_X10_parts (d := d - 1) (k := 2) (by omega)) rfl rfl (Nat.le_of_ble_eq_true rfl) (by show _ ≤ d; omega) ⟨Nat.le_refl _, Nat.le_refl _⟩ (fun e18 μ' hc => ?_)
          obtain ⟨rfl, rfl⟩ := hc
          refine gg_toI (b := 1) rfl ?_
          refine gg_icmp_ge_t (tgt := 165) dX10_measureOf_129 (by decide) (by decide) (by decide) ?_
          refine gg_sipush dX10_measureOf_165 (by decide) ?_
          refine gg_iload dX10_measureOf_168 2 rfl ?_
          refine gg_iload dX10_measureOf_170 3 rfl ?_
          refine gg_iadd dX10_measureOf_172 ?_
          refine gg_mmin rfl gl_RX10_299 dX10_measureOf_173 (by first | omega | (have := @gJn_rng q 0 (gDc n q K N Z (i + 1)) 0 9999 (by omega) (by omega); have := @gJn_rng q (gJn q 0 (gDc n q K N Z (i + 1))) (gDc n q K N Z (gPt Z i 1)) 9999 9999 (by omega) (by omega); have := @gJn_rng q (gJn q (gJn q 0 (gDc n q K N Z (i + 1))) (gDc n q K N Z (gPt Z i 1))) (gDc n q K N Z (gPt Z i 2)) 19998 9999 (by omega) (by omega); omega) | (have := @gJn_rng q 0 (gDc n q K N Z (i + 1)) 0 9999 (by omega) (by omega); have := @gJn_rng q (gJn q 0 (gDc n q K N Z (i + 1))) (gDc n q K N Z (gPt Z i 1)) 9999 9999 (by omega) (by omega); omega) | (have := @gJn_rng q 0 (gDc n q K N Z (i + 1)) 0 9999 (by omega) (by omega); omega) | (split <;> omega) | (have := @gJn_rng q 0 (gDc n q K N Z (i + 1)) 0 9999 (by omega) (by omega); split <;> omega)) (Nat.le_of_ble_eq_true rfl) (by omega) ⟨Nat.le_refl _, Nat.le_refl _⟩ ?_
          refine gg_ireti dX10_measureOf_176 rfl ⟨rfl, rfl⟩ ?_
          refine ⟨rfl, ?_⟩
          rw [gDc_is n q K N Z i hi]
          unfold gdF
          rw [hk]
          unfold gDj
          rw [if_neg (show ¬ (q = 4 ∧ 2 = 6) by omega), if_neg (show ¬ (q = 5 ∧ 2 = 7) by omega)]
          exact rfl
        · refine gg_iload dX10_measureOf_89 2 rfl ?_
          refine gg_bipush dX10_measureOf_91 (by decide) ?_
          refine gg_icmp_ne_t (tgt := 114) dX10_measureOf_93 (by decide) (by decide) (by decide) ?_
          refine gg_iload_n dX10_measureOf_114 5 rfl ?_
          refine gg_iconst dX10_measureOf_115 ?_
          refine gg_iadd dX10_measureOf_116 ?_
          refine gg_toI (b := ((i + 1 : Nat) : Int)) (by omega) ?_
          refine gg_istore (ls' := [(7, .int (iv ((i + 1 : Nat) : Int))), (6, .int (iv 0)), (5, .int (iv (gDo q 2 (gl2i (N i))))), (4, .int (iv 2)), (0, .ref (gad (gSS ad) 145)), (1, .int (iv (f : Int))), (2, .int (iv (i : Int))), (3, .int (iv (q : Int)))]) dX10_measureOf_117 (by decide) rfl ?_
          refine gg_iconst dX10_measureOf_119 ?_
          refine gg_istore (ls' := [(8, .int (iv 0)), (7, .int (iv ((i + 1 : Nat) : Int))), (6, .int (iv 0)), (5, .int (iv (gDo q 2 (gl2i (N i))))), (4, .int (iv 2)), (0, .ref (gad (gSS ad) 145)), (1, .int (iv (f : Int))), (2, .int (iv (i : Int))), (3, .int (iv (q : Int)))]) dX10_measureOf_120 (by decide) rfl ?_
          refine gg_iload dX10_measureOf_122 0 rfl ?_
          refine gg_iload dX10_measureOf_124 4 rfl ?_
          refine gg_callSi (own := RX10) (yt := gm_X10_parts) rfl gl_RX10_98 gk_X10_parts gr_X10_parts dX10_measureOf_126 (c_X10_parts (d := d - 1) (k := 2) (by omega)) rfl rfl (Nat.le_of_ble_eq_true rfl) (by show _ ≤ d; omega) ⟨Nat.le_refl _, Nat.le_refl _⟩ (fun e19 μ' hc => ?_)
          obtain ⟨rfl, rfl⟩ := hc
          refine gg_toI (b := 1) rfl ?_
          refine gg_icmp_ge_f (tgt := 165) dX10_measureOf_129 (by decide) (by decide) (by decide) ?_
          refine gg_iload_n dX10_measureOf_132 8 rfl ?_
          refine gg_iload dX10_measureOf_133 2 rfl ?_
          refine gg_aload_n dX10_measureOf_135 5 rfl ?_
          refine gg_iload_n dX10_measureOf_136 6 rfl ?_
          refine gg_iload dX10_measureOf_137 1 rfl ?_
          refine gg_iload_n dX10_measureOf_139 8 rfl ?_
          refine gg_callVi (own := RX10) (yt := gm_X10_measureOf) rfl gl_RX10_293 gk_X10_measureOf gr_X10_measureOf dX10_measureOf_140 (ih (i + 1) (hc1 (by rw [hk]; decide)) (by have := he1 (by rw [hk]; decide); omega) (d - 1) (by omega)) sh_145 pl_145 (by decide) rfl rfl rfl (Nat.le_of_ble_eq_true rfl) (by show _ ≤ d; omega) ⟨Nat.le_refl _, Nat.le_refl _⟩ (fun e20 μ' hc => ?_)
          obtain ⟨rfl, rfl⟩ := hc
          refine gg_callSi (own := RX10) (yt := gm_X10_join) rfl gl_RX10_296 gk_X10_join gr_X10_join dX10_measureOf_143 (c_X10_join (d := d - 1) (q := q) hq (by first | omega | (have := @gJn_rng q 0 (gDc n q K N Z (i + 1)) 0 9999 (by omega) (by omega); have := @gJn_rng q (gJn q 0 (gDc n q K N Z (i + 1))) (gDc n q K N Z (gPt Z i 1)) 9999 9999 (by omega) (by omega); omega) | (have := @gJn_rng q 0 (gDc n q K N Z (i + 1)) 0 9999 (by omega) (by omega); omega)) (by omega) (by omega)) rfl rfl (Nat.le_of_ble_eq_true rfl) (by show _ ≤ d; omega) ⟨Nat.le_refl _, Nat.le_refl _⟩ (fun e21 μ' hc => ?_)
          obtain ⟨rfl, rfl⟩ := hc
          refine gg_istore (ls' := [(6, .int (iv (gJn q 0 (gDc n q K N Z (i + 1))))), (8, .int (iv 0)), (7, .int (iv ((i + 1 : Nat) : Int))), (5, .int (iv (gDo q 2 (gl2i (N i))))), (4, .int (iv 2)), (0, .ref (gad (gSS ad) 145)), (1, .int (iv (f : Int))), (2, .int (iv (i : Int))), (3, .int (iv (q : Int)))]) dX10_measureOf_146 (by decide) rfl ?_
          refine gg_aload_n dX10_measureOf_148 5 rfl ?_
          refine gg_getR (k' := 173) rfl gf_RX10_23 dX10_measureOf_149 sh_145 pl_145 (by decide) (by decide) rr_145_3 ?_
          refine gg_iload_n dX10_measureOf_152 6 rfl ?_
          refine gg_aaldj (t := 6) f (k' := (174 + f)) dX10_measureOf_153 sh_173 (by decide) pl_173 (by decide) rfl hf (rr_173 hf) ?_
          refine gg_iload dX10_measureOf_154 2 rfl ?_
          refine gg_ialdj (i + 1) dX10_measureOf_156 (rs_173 hf) (rl_173 hf) (by decide) rfl (by have := hc1 (by rw [hk]; decide); omega) ?_
          refine gg_istore (ls' := [(7, .int (iv (I (174 + f) (i + 1)))), (6, .int (iv (gJn q 0 (gDc n q K N Z (i + 1))))), (8, .int (iv 0)), (5, .int (iv (gDo q 2 (gl2i (N i))))), (4, .int (iv 2)), (0, .ref (gad (gSS ad) 145)), (1, .int (iv (f : Int))), (2, .int (iv (i : Int))), (3, .int (iv (q : Int)))]) dX10_measureOf_157 (by decide) rfl ?_
          refine gg_iincv (ls' := [(8, .int (iv 1)), (7, .int (iv (I (174 + f) (i + 1)))), (6, .int (iv (gJn q 0 (gDc n q K N Z (i + 1))))), (5, .int (iv (gDo q 2 (gl2i (N i))))), (4, .int (iv 2)), (0, .ref (gad (gSS ad) 145)), (1, .int (iv (f : Int))), (2, .int (iv (i : Int))), (3, .int (iv (q : Int)))]) dX10_measureOf_159 2 rfl rfl (by decide) rfl ?_
          refine gg_goto (tgt := 122) dX10_measureOf_162 (by decide) ?_
          refine gg_iload dX10_measureOf_122 0 rfl ?_
          refine gg_iload dX10_measureOf_124 4 rfl ?_
          refine gg_callSi (own := RX10) (yt := gm_X10_parts) rfl gl_RX10_98 gk_X10_parts gr_X10_parts dX10_measureOf_126 (c_X10_parts (d := d - 1) (k := 2) (by omega)) rfl rfl (Nat.le_of_ble_eq_true rfl) (by show _ ≤ d; omega) ⟨Nat.le_refl _, Nat.le_refl _⟩ (fun e22 μ' hc => ?_)
          obtain ⟨rfl, rfl⟩ := hc
          refine gg_toI (b := 1) rfl ?_
          refine gg_icmp_ge_t (tgt := 165) dX10_measureOf_129 (by decide) (by decide) (by decide) ?_
          refine gg_sipush dX10_measureOf_165 (by decide) ?_
          refine gg_iload dX10_measureOf_168 2 rfl ?_
          refine gg_iload dX10_measureOf_170 3 rfl ?_
          refine gg_iadd dX10_measureOf_172 ?_
          refine gg_mmin rfl gl_RX10_299 dX10_measureOf_173 (by first | omega | (have := @gJn_rng q 0 (gDc n q K N Z (i + 1)) 0 9999 (by omega) (by omega); have := @gJn_rng q (gJn q 0 (gDc n q K N Z (i + 1))) (gDc n q K N Z (gPt Z i 1)) 9999 9999 (by omega) (by omega); have := @gJn_rng q (gJn q (gJn q 0 (gDc n q K N Z (i + 1))) (gDc n q K N Z (gPt Z i 1))) (gDc n q K N Z (gPt Z i 2)) 19998 9999 (by omega) (by omega); omega) | (have := @gJn_rng q 0 (gDc n q K N Z (i + 1)) 0 9999 (by omega) (by omega); have := @gJn_rng q (gJn q 0 (gDc n q K N Z (i + 1))) (gDc n q K N Z (gPt Z i 1)) 9999 9999 (by omega) (by omega); omega) | (have := @gJn_rng q 0 (gDc n q K N Z (i + 1)) 0 9999 (by omega) (by omega); omega) | (split <;> omega) | (have := @gJn_rng q 0 (gDc n q K N Z (i + 1)) 0 9999 (by omega) (by omega); split <;> omega)) (Nat.le_of_ble_eq_true rfl) (by omega) ⟨Nat.le_refl _, Nat.le_refl _⟩ ?_
          refine gg_ireti dX10_measureOf_176 rfl ⟨rfl, rfl⟩ ?_
          refine ⟨rfl, ?_⟩
          rw [gDc_is n q K N Z i hi]
          unfold gdF
          rw [hk]
          unfold gDj
          rw [if_neg (show ¬ (q = 4 ∧ 2 = 6) by omega), if_neg (show ¬ (q = 5 ∧ 2 = 7) by omega)]
          exact rfl
      · refine gg_iload dX10_measureOf_35 2 rfl ?_
        refine gg_bipush dX10_measureOf_37 (by decide) ?_
        refine gg_icmp_ne_t (tgt := 84) dX10_measureOf_39 (by decide) (by decide) (by decide) ?_
        refine gg_iload_n dX10_measureOf_84 6 rfl ?_
        refine gg_iconst dX10_measureOf_85 ?_
        refine gg_icmp_ne (tgt := 114) dX10_measureOf_86 (by decide) (by omega) (fun hq5 => ?_) (fun hq5 => ?_)
        · refine gg_iload_n dX10_measureOf_114 5 rfl ?_
          refine gg_iconst dX10_measureOf_115 ?_
          refine gg_iadd dX10_measureOf_116 ?_
          refine gg_toI (b := ((i + 1 : Nat) : Int)) (by omega) ?_
          refine gg_istore (ls' := [(7, .int (iv ((i + 1 : Nat) : Int))), (6, .int (iv 0)), (5, .int (iv (gDo q 2 (gl2i (N i))))), (4, .int (iv 2)), (0, .ref (gad (gSS ad) 145)), (1, .int (iv (f : Int))), (2, .int (iv (i : Int))), (3, .int (iv (q : Int)))]) dX10_measureOf_117 (by decide) rfl ?_
          refine gg_iconst dX10_measureOf_119 ?_
          refine gg_istore (ls' := [(8, .int (iv 0)), (7, .int (iv ((i + 1 : Nat) : Int))), (6, .int (iv 0)), (5, .int (iv (gDo q 2 (gl2i (N i))))), (4, .int (iv 2)), (0, .ref (gad (gSS ad) 145)), (1, .int (iv (f : Int))), (2, .int (iv (i : Int))), (3, .int (iv (q : Int)))]) dX10_measureOf_120 (by decide) rfl ?_
          refine gg_iload dX10_measureOf_122 0 rfl ?_
          refine gg_iload dX10_measureOf_124 4 rfl ?_
          refine gg_callSi (own := RX10) (yt := gm_X10_parts) rfl gl_RX10_98 gk_X10_parts gr_X10_parts dX10_measureOf_126 (c_X10_parts (d := d - 1) (k := 2) (by omega)) rfl rfl (Nat.le_of_ble_eq_true rfl) (by show _ ≤ d; omega) ⟨Nat.le_refl _, Nat.le_refl _⟩ (fun e23 μ' hc => ?_)
          obtain ⟨rfl, rfl⟩ := hc
          refine gg_toI (b := 1) rfl ?_
          refine gg_icmp_ge_f (tgt := 165) dX10_measureOf_129 (by decide) (by decide) (by decide) ?_
          refine gg_iload_n dX10_measureOf_132 8 rfl ?_
          refine gg_iload dX10_measureOf_133 2 rfl ?_
          refine gg_aload_n dX10_measureOf_135 5 rfl ?_
          refine gg_iload_n dX10_measureOf_136 6 rfl ?_
          refine gg_iload dX10_measureOf_137 1 rfl ?_
          refine gg_iload_n dX10_measureOf_139 8 rfl ?_
          refine gg_callVi (own := RX10) (yt := gm_X10_measureOf) rfl gl_RX10_293 gk_X10_measureOf gr_X10_measureOf dX10_measureOf_140 (ih (i + 1) (hc1 (by rw [hk]; decide)) (by have := he1 (by rw [hk]; decide); omega) (d - 1) (by omega)) sh_145 pl_145 (by decide) rfl rfl rfl (Nat.le_of_ble_eq_true rfl) (by show _ ≤ d; omega) ⟨Nat.le_refl _, Nat.le_refl _⟩ (fun e24 μ' hc => ?_)
          obtain ⟨rfl, rfl⟩ := hc
          refine gg_callSi (own := RX10) (yt := gm_X10_join) rfl gl_RX10_296 gk_X10_join gr_X10_join dX10_measureOf_143 (c_X10_join (d := d - 1) (q := q) hq (by first | omega | (have := @gJn_rng q 0 (gDc n q K N Z (i + 1)) 0 9999 (by omega) (by omega); have := @gJn_rng q (gJn q 0 (gDc n q K N Z (i + 1))) (gDc n q K N Z (gPt Z i 1)) 9999 9999 (by omega) (by omega); omega) | (have := @gJn_rng q 0 (gDc n q K N Z (i + 1)) 0 9999 (by omega) (by omega); omega)) (by omega) (by omega)) rfl rfl (Nat.le_of_ble_eq_true rfl) (by show _ ≤ d; omega) ⟨Nat.le_refl _, Nat.le_refl _⟩ (fun e25 μ' hc => ?_)
          obtain ⟨rfl, rfl⟩ := hc
          refine gg_istore (ls' := [(6, .int (iv (gJn q 0 (gDc n q K N Z (i + 1))))), (8, .int (iv 0)), (7, .int (iv ((i + 1 : Nat) : Int))), (5, .int (iv (gDo q 2 (gl2i (N i))))), (4, .int (iv 2)), (0, .ref (gad (gSS ad) 145)), (1, .int (iv (f : Int))), (2, .int (iv (i : Int))), (3, .int (iv (q : Int)))]) dX10_measureOf_146 (by decide) rfl ?_
          refine gg_aload_n dX10_measureOf_148 5 rfl ?_
          refine gg_getR (k' := 173) rfl gf_RX10_23 dX10_measureOf_149 sh_145 pl_145 (by decide) (by decide) rr_145_3 ?_
          refine gg_iload_n dX10_measureOf_152 6 rfl ?_
          refine gg_aaldj (t := 6) f (k' := (174 + f)) dX10_measureOf_153 sh_173 (by decide) pl_173 (by decide) rfl hf (rr_173 hf) ?_
          refine gg_iload dX10_measureOf_154 2 rfl ?_
          refine gg_ialdj (i + 1) dX10_measureOf_156 (rs_173 hf) (rl_173 hf) (by decide) rfl (by have := hc1 (by rw [hk]; decide); omega) ?_
          refine gg_istore (ls' := [(7, .int (iv (I (174 + f) (i + 1)))), (6, .int (iv (gJn q 0 (gDc n q K N Z (i + 1))))), (8, .int (iv 0)), (5, .int (iv (gDo q 2 (gl2i (N i))))), (4, .int (iv 2)), (0, .ref (gad (gSS ad) 145)), (1, .int (iv (f : Int))), (2, .int (iv (i : Int))), (3, .int (iv (q : Int)))]) dX10_measureOf_157 (by decide) rfl ?_
          refine gg_iincv (ls' := [(8, .int (iv 1)), (7, .int (iv (I (174 + f) (i + 1)))), (6, .int (iv (gJn q 0 (gDc n q K N Z (i + 1))))), (5, .int (iv (gDo q 2 (gl2i (N i))))), (4, .int (iv 2)), (0, .ref (gad (gSS ad) 145)), (1, .int (iv (f : Int))), (2, .int (iv (i : Int))), (3, .int (iv (q : Int)))]) dX10_measureOf_159 2 rfl rfl (by decide) rfl ?_
          refine gg_goto (tgt := 122) dX10_measureOf_162 (by decide) ?_
          refine gg_iload dX10_measureOf_122 0 rfl ?_
          refine gg_iload dX10_measureOf_124 4 rfl ?_
          refine gg_callSi (own := RX10) (yt := gm_X10_parts) rfl gl_RX10_98 gk_X10_parts gr_X10_parts dX10_measureOf_126 (c_X10_parts (d := d - 1) (k := 2) (by omega)) rfl rfl (Nat.le_of_ble_eq_true rfl) (by show _ ≤ d; omega) ⟨Nat.le_refl _, Nat.le_refl _⟩ (fun e26 μ' hc => ?_)
          obtain ⟨rfl, rfl⟩ := hc
          refine gg_toI (b := 1) rfl ?_
          refine gg_icmp_ge_t (tgt := 165) dX10_measureOf_129 (by decide) (by decide) (by decide) ?_
          refine gg_sipush dX10_measureOf_165 (by decide) ?_
          refine gg_iload dX10_measureOf_168 2 rfl ?_
          refine gg_iload dX10_measureOf_170 3 rfl ?_
          refine gg_iadd dX10_measureOf_172 ?_
          refine gg_mmin rfl gl_RX10_299 dX10_measureOf_173 (by first | omega | (have := @gJn_rng q 0 (gDc n q K N Z (i + 1)) 0 9999 (by omega) (by omega); have := @gJn_rng q (gJn q 0 (gDc n q K N Z (i + 1))) (gDc n q K N Z (gPt Z i 1)) 9999 9999 (by omega) (by omega); have := @gJn_rng q (gJn q (gJn q 0 (gDc n q K N Z (i + 1))) (gDc n q K N Z (gPt Z i 1))) (gDc n q K N Z (gPt Z i 2)) 19998 9999 (by omega) (by omega); omega) | (have := @gJn_rng q 0 (gDc n q K N Z (i + 1)) 0 9999 (by omega) (by omega); have := @gJn_rng q (gJn q 0 (gDc n q K N Z (i + 1))) (gDc n q K N Z (gPt Z i 1)) 9999 9999 (by omega) (by omega); omega) | (have := @gJn_rng q 0 (gDc n q K N Z (i + 1)) 0 9999 (by omega) (by omega); omega) | (split <;> omega) | (have := @gJn_rng q 0 (gDc n q K N Z (i + 1)) 0 9999 (by omega) (by omega); split <;> omega)) (Nat.le_of_ble_eq_true rfl) (by omega) ⟨Nat.le_refl _, Nat.le_refl _⟩ ?_
          refine gg_ireti dX10_measureOf_176 rfl ⟨rfl, rfl⟩ ?_
          refine ⟨rfl, ?_⟩
          rw [gDc_is n q K N Z i hi]
          unfold gdF
          rw [hk]
          unfold gDj
          rw [if_neg (show ¬ (q = 4 ∧ 2 = 6) by omega), if_neg (show ¬ (q = 5 ∧ 2 = 7) by omega)]
          exact rfl
        · refine gg_iload dX10_measureOf_89 2 rfl ?_
          refine gg_bipush dX10_measureOf_91 (by decide) ?_
          refine gg_icmp_ne_t (tgt := 114) dX10_measureOf_93 (by decide) (by decide) (by decide) ?_
          refine gg_iload_n dX10_measureOf_114 5 rfl ?_
          refine gg_iconst dX10_measureOf_115 ?_
          refine gg_iadd dX10_measureOf_116 ?_
          refine gg_toI (b := ((i + 1 : Nat) : Int)) (by omega) ?_
          refine gg_istore (ls' := [(7, .int (iv ((i + 1 : Nat) : Int))), (6, .int (iv 0)), (5, .int (iv (gDo q 2 (gl2i (N i))))), (4, .int (iv 2)), (0, .ref (gad (gSS ad) 145)), (1, .int (iv (f : Int))), (2, .int (iv (i : Int))), (3, .int (iv (q : Int)))]) dX10_measureOf_117 (by decide) rfl ?_
          refine gg_iconst dX10_measureOf_119 ?_
          refine gg_istore (ls' := [(8, .int (iv 0)), (7, .int (iv ((i + 1 : Nat) : Int))), (6, .int (iv 0)), (5, .int (iv (gDo q 2 (gl2i (N i))))), (4, .int (iv 2)), (0, .ref (gad (gSS ad) 145)), (1, .int (iv (f : Int))), (2, .int (iv (i : Int))), (3, .int (iv (q : Int)))]) dX10_measureOf_120 (by decide) rfl ?_
          refine gg_iload dX10_measureOf_122 0 rfl ?_
          refine gg_iload dX10_measureOf_124 4 rfl ?_
          refine gg_callSi (own := RX10) (yt := gm_X10_parts) rfl gl_RX10_98 gk_X10_parts gr_X10_parts dX10_measureOf_126 (c_X10_parts (d := d - 1) (k := 2) (by omega)) rfl rfl (Nat.le_of_ble_eq_true rfl) (by show _ ≤ d; omega) ⟨Nat.le_refl _, Nat.le_refl _⟩ (fun e27 μ' hc => ?_)
          obtain ⟨rfl, rfl⟩ := hc
          refine gg_toI (b := 1) rfl ?_
          refine gg_icmp_ge_f (tgt := 165) dX10_measureOf_129 (by decide) (by decide) (by decide) ?_
          refine gg_iload_n dX10_measureOf_132 8 rfl ?_
          refine gg_iload dX10_measureOf_133 2 rfl ?_
          refine gg_aload_n dX10_measureOf_135 5 rfl ?_
          refine gg_iload_n dX10_measureOf_136 6 rfl ?_
          refine gg_iload dX10_measureOf_137 1 rfl ?_
          refine gg_iload_n dX10_measureOf_139 8 rfl ?_
          refine gg_callVi (own := RX10) (yt := gm_X10_measureOf) rfl gl_RX10_293 gk_X10_measureOf gr_X10_measureOf dX10_measureOf_140 (ih (i + 1) (hc1 (by rw [hk]; decide)) (by have := he1 (by rw [hk]; decide); omega) (d - 1) (by omega)) sh_145 pl_145 (by decide) rfl rfl rfl (Nat.le_of_ble_eq_true rfl) (by show _ ≤ d; omega) ⟨Nat.le_refl _, Nat.le_refl _⟩ (fun e28 μ' hc => ?_)
          obtain ⟨rfl, rfl⟩ := hc
          refine gg_callSi (own := RX10) (yt := gm_X10_join) rfl gl_RX10_296 gk_X10_join gr_X10_join dX10_measureOf_143 (c_X10_join (d := d - 1) (q := q) hq (by first | omega | (have := @gJn_rng q 0 (gDc n q K N Z (i + 1)) 0 9999 (by omega) (by omega); have := @gJn_rng q (gJn q 0 (gDc n q K N Z (i + 1))) (gDc n q K N Z (gPt Z i 1)) 9999 9999 (by omega) (by omega); omega) | (have := @gJn_rng q 0 (gDc n q K N Z (i + 1)) 0 9999 (by omega) (by omega); omega)) (by omega) (by omega)) rfl rfl (Nat.le_of_ble_eq_true rfl) (by show _ ≤ d; omega) ⟨Nat.le_refl _, Nat.le_refl _⟩ (fun e29 μ' hc => ?_)
          obtain ⟨rfl, rfl⟩ := hc
          refine gg_istore (ls' := [(6, .int (iv (gJn q 0 (gDc n q K N Z (i + 1))))), (8, .int (iv 0)), (7, .int (iv ((i + 1 : Nat) : Int))), (5, .int (iv (gDo q 2 (gl2i (N i))))), (4, .int (iv 2)), (0, .ref (gad (gSS ad) 145)), (1, .int (iv (f : Int))), (2, .int (iv (i : Int))), (3, .int (iv (q : Int)))]) dX10_measureOf_146 (by decide) rfl ?_
          refine gg_aload_n dX10_measureOf_148 5 rfl ?_
          refine gg_getR (k' := 173) rfl gf_RX10_23 dX10_measureOf_149 sh_145 pl_145 (by decide) (by decide) rr_145_3 ?_
          refine gg_iload_n dX10_measureOf_152 6 rfl ?_
          refine gg_aaldj (t := 6) f (k' := (174 + f)) dX10_measureOf_153 sh_173 (by decide) pl_173 (by decide) rfl hf (rr_173 hf) ?_
          refine gg_iload dX10_measureOf_154 2 rfl ?_
          refine gg_ialdj (i + 1) dX10_measureOf_156 (rs_173 hf) (rl_173 hf) (by decide) rfl (by have := hc1 (by rw [hk]; decide); omega) ?_
          refine gg_istore (ls' := [(7, .int (iv (I (174 + f) (i + 1)))), (6, .int (iv (gJn q 0 (gDc n q K N Z (i + 1))))), (8, .int (iv 0)), (5, .int (iv (gDo q 2 (gl2i (N i))))), (4, .int (iv 2)), (0, .ref (gad (gSS ad) 145)), (1, .int (iv (f : Int))), (2, .int (iv (i : Int))), (3, .int (iv (q : Int)))]) dX10_measureOf_157 (by decide) rfl ?_
          refine gg_iincv (ls' := [(8, .int (iv 1)), (7, .int (iv (I (174 + f) (i + 1)))), (6, .int (iv (gJn q 0 (gDc n q K N Z (i + 1))))), (5, .int (iv (gDo q 2 (gl2i (N i))))), (4, .int (iv 2)), (0, .ref (gad (gSS ad) 145)), (1, .int (iv (f : Int))), (2, .int (iv (i : Int))), (3, .int (iv (q : Int)))]) dX10_measureOf_159 2 rfl rfl (by decide) rfl ?_
          refine gg_goto (tgt := 122) dX10_measureOf_162 (by decide) ?_
          refine gg_iload dX10_measureOf_122 0 rfl ?_
          refine gg_iload dX10_measureOf_124 4 rfl ?_
          refine gg_callSi (own := RX10) (yt := gm_X10_parts) rfl gl_RX10_98 gk_X10_parts gr_X10_parts dX10_measureOf_126 (c_X10_parts (d := d - 1) (k := 2) (by omega)) rfl rfl (Nat.le_of_ble_eq_true rfl) (by show _ ≤ d; omega) ⟨Nat.le_refl _, Nat.le_refl _⟩ (fun e30 μ' hc => ?_)
          obtain ⟨rfl, rfl⟩ := hc
          refine gg_toI (b := 1) rfl ?_
          refine gg_icmp_ge_t (tgt := 165) dX10_measureOf_129 (by decide) (by decide) (by decide) ?_
          refine gg_sipush dX10_measureOf_165 (by decide) ?_
          refine gg_iload dX10_measureOf_168 2 rfl ?_
          refine gg_iload dX10_measureOf_170 3 rfl ?_
          refine gg_iadd dX10_measureOf_172 ?_
          refine gg_mmin rfl gl_RX10_299 dX10_measureOf_173 (by first | omega | (have := @gJn_rng q 0 (gDc n q K N Z (i + 1)) 0 9999 (by omega) (by omega); have := @gJn_rng q (gJn q 0 (gDc n q K N Z (i + 1))) (gDc n q K N Z (gPt Z i 1)) 9999 9999 (by omega) (by omega); have := @gJn_rng q (gJn q (gJn q 0 (gDc n q K N Z (i + 1))) (gDc n q K N Z (gPt Z i 1))) (gDc n q K N Z (gPt Z i 2)) 19998 9999 (by omega) (by omega); omega) | (have := @gJn_rng q 0 (gDc n q K N Z (i + 1)) 0 9999 (by omega) (by omega); have := @gJn_rng q (gJn q 0 (gDc n q K N Z (i + 1))) (gDc n q K N Z (gPt Z i 1)) 9999 9999 (by omega) (by omega); omega) | (have := @gJn_rng q 0 (gDc n q K N Z (i + 1)) 0 9999 (by omega) (by omega); omega) | (split <;> omega) | (have := @gJn_rng q 0 (gDc n q K N Z (i + 1)) 0 9999 (by omega) (by omega); split <;> omega)) (Nat.le_of_ble_eq_true rfl) (by omega) ⟨Nat.le_refl _, Nat.le_refl _⟩ ?_
          refine gg_ireti dX10_measureOf_176 rfl ⟨rfl, rfl⟩ ?_
          refine ⟨rfl, ?_⟩
          rw [gDc_is n q K N Z i hi]
          unfold gdF
          rw [hk]
          unfold gDj
          rw [if_neg (show ¬ (q = 4 ∧ 2 = 6) by omega), if_neg (show ¬ (q = 5 ∧ 2 = 7) by omega)]
          exact rfl
    · refine gg_toI (b := 3) (by omega) ?_
      refine gg_istore (ls' := [(4, .int (iv 3)), (0, .ref (gad (gSS ad) 145)), (1, .int (iv (f : Int))), (2, .int (iv (i : Int))), (3, .int (iv (q : Int)))]) dX10_measureOf_8 (by decide) rfl ?_
      have g1 := gD_rng (q := q) hW _ (hc1 (by rw [hk]; decide))
      have g2 := gD_rng (q := q) hW _ (hc2 (by rw [hk]; decide))
      have hor := gDo_rng hW hi q
      rw [hk] at hor
      refine gg_iload_n dX10_measureOf_10 4 rfl ?_
      refine gg_iload dX10_measureOf_11 0 rfl ?_
      refine gg_aload_n dX10_measureOf_13 1 rfl ?_
      refine gg_getR (k' := 160) rfl gf_RX10_20 dX10_measureOf_14 sh_145 pl_145 (by decide) (by decide) rr_145_2 ?_
      refine gg_iload_n dX10_measureOf_17 2 rfl ?_
      refine gg_aaldj (t := 7) f (k' := (161 + f)) dX10_measureOf_18 sh_160 (by decide) pl_160 (by decide) rfl hf (rr_160 hf) ?_
      refine gg_iload_n dX10_measureOf_19 3 rfl ?_
      refine gg_laldj i dX10_measureOf_20 (rs_160 hf) (rl_160 hf) (by decide) rfl (by omega) ?_
      refine gg_toL (b := N i) (hM.2 i hi).2.1 ?_
      refine gg_l2i dX10_measureOf_21 ?_
      refine gg_callSi (own := RX10) (yt := gm_X10_own) rfl gl_RX10_289 gk_X10_own gr_X10_own dX10_measureOf_22 (c_X10_own (d := d - 1) (q := q) (k := 3) hq (by omega)) rfl rfl (Nat.le_of_ble_eq_true rfl) (by show _ ≤ d; omega) ⟨Nat.le_refl _, Nat.le_refl _⟩ (fun e31 μ' hc => ?_)
      obtain ⟨rfl, rfl⟩ := hc
      refine gg_toI (b := gDo q 3 (gl2i (N i))) (if_neg (by omega)) ?_
      refine gg_istore (ls' := [(5, .int (iv (gDo q 3 (gl2i (N i))))), (4, .int (iv 3)), (0, .ref (gad (gSS ad) 145)), (1, .int (iv (f : Int))), (2, .int (iv (i : Int))), (3, .int (iv (q : Int)))]) dX10_measureOf_25 (by decide) rfl ?_
      refine gg_iconst dX10_measureOf_27 ?_
      refine gg_istore (ls' := [(6, .int (iv 0)), (5, .int (iv (gDo q 3 (gl2i (N i))))), (4, .int (iv 3)), (0, .ref (gad (gSS ad) 145)), (1, .int (iv (f : Int))), (2, .int (iv (i : Int))), (3, .int (iv (q : Int)))]) dX10_measureOf_28 (by decide) rfl ?_
      refine gg_iload_n dX10_measureOf_30 6 rfl ?_
      refine gg_iconst dX10_measureOf_31 ?_
      refine gg_icmp_ne (tgt := 84) dX10_measureOf_32 (by decide) (by omega) (fun hb32 => ?_) (fun hb32 => ?_)
      · refine gg_iload_n dX10_measureOf_84 6 rfl ?_
        refine gg_iconst dX10_measureOf_85 ?_
        refine gg_icmp_ne (tgt := 114) dX10_measureOf_86 (by decide) (by omega) (fun hq5 => ?_) (fun hq5 => ?_)
        · refine gg_iload_n dX10_measureOf_114 5 rfl ?_
          refine gg_iconst dX10_measureOf_115 ?_
          refine gg_iadd dX10_measureOf_116 ?_
          refine gg_toI (b := ((i + 1 : Nat) : Int)) (by omega) ?_
          refine gg_istore (ls' := [(7, .int (iv ((i + 1 : Nat) : Int))), (6, .int (iv 0)), (5, .int (iv (gDo q 3 (gl2i (N i))))), (4, .int (iv 3)), (0, .ref (gad (gSS ad) 145)), (1, .int (iv (f : Int))), (2, .int (iv (i : Int))), (3, .int (iv (q : Int)))]) dX10_measureOf_117 (by decide) rfl ?_
          refine gg_iconst dX10_measureOf_119 ?_
          refine gg_istore (ls' := [(8, .int (iv 0)), (7, .int (iv ((i + 1 : Nat) : Int))), (6, .int (iv 0)), (5, .int (iv (gDo q 3 (gl2i (N i))))), (4, .int (iv 3)), (0, .ref (gad (gSS ad) 145)), (1, .int (iv (f : Int))), (2, .int (iv (i : Int))), (3, .int (iv (q : Int)))]) dX10_measureOf_120 (by decide) rfl ?_
          refine gg_iload dX10_measureOf_122 0 rfl ?_
          refine gg_iload dX10_measureOf_124 4 rfl ?_
          refine gg_callSi (own := RX10) (yt := gm_X10_parts) rfl gl_RX10_98 gk_X10_parts gr_X10_parts dX10_measureOf_126 (c_X10_parts (d := d - 1) (k := 3) (by omega)) rfl rfl (Nat.le_of_ble_eq_true rfl) (by show _ ≤ d; omega) ⟨Nat.le_refl _, Nat.le_refl _⟩ (fun e33 μ' hc => ?_)
          obtain ⟨rfl, rfl⟩ := hc
          refine gg_toI (b := 2) rfl ?_
          refine gg_icmp_ge_f (tgt := 165) dX10_measureOf_129 (by decide) (by decide) (by decide) ?_
          refine gg_iload_n dX10_measureOf_132 8 rfl ?_
          refine gg_iload dX10_measureOf_133 2 rfl ?_
          refine gg_aload_n dX10_measureOf_135 5 rfl ?_
          refine gg_iload_n dX10_measureOf_136 6 rfl ?_
          refine gg_iload dX10_measureOf_137 1 rfl ?_
          refine gg_iload_n dX10_measureOf_139 8 rfl ?_
          refine gg_callVi (own := RX10) (yt := gm_X10_measureOf) rfl gl_RX10_293 gk_X10_measureOf gr_X10_measureOf dX10_measureOf_140 (ih (i + 1) (hc1 (by rw [hk]; decide)) (by have := he2 (by rw [hk]; decide); omega) (d - 1) (by omega)) sh_145 pl_145 (by decide) rfl rfl rfl (Nat.le_of_ble_eq_true rfl) (by show _ ≤ d; omega) ⟨Nat.le_refl _, Nat.le_refl _⟩ (fun e34 μ' hc => ?_)
          obtain ⟨rfl, rfl⟩ := hc
          refine gg_callSi (own := RX10) (yt := gm_X10_join) rfl gl_RX10_296 gk_X10_join gr_X10_join dX10_measureOf_143 (c_X10_join (d := d - 1) (q := q) hq (by first | omega | (have := @gJn_rng q 0 (gDc n q K N Z (i + 1)) 0 9999 (by omega) (by omega); have := @gJn_rng q (gJn q 0 (gDc n q K N Z (i + 1))) (gDc n q K N Z (gPt Z i 1)) 9999 9999 (by omega) (by omega); omega) | (have := @gJn_rng q 0 (gDc n q K N Z (i + 1)) 0 9999 (by omega) (by omega); omega)) (by omega) (by omega)) rfl rfl (Nat.le_of_ble_eq_true rfl) (by show _ ≤ d; omega) ⟨Nat.le_refl _, Nat.le_refl _⟩ (fun e35 μ' hc => ?_)
          obtain ⟨rfl, rfl⟩ := hc
          refine gg_istore (ls' := [(6, .int (iv (gJn q 0 (gDc n q K N Z (i + 1))))), (8, .int (iv 0)), (7, .int (iv ((i + 1 : Nat) : Int))), (5, .int (iv (gDo q 3 (gl2i (N i))))), (4, .int (iv 3)), (0, .ref (gad (gSS ad) 145)), (1, .int (iv (f : Int))), (2, .int (iv (i : Int))), (3, .int (iv (q : Int)))]) dX10_measureOf_146 (by decide) rfl ?_
          refine gg_aload_n dX10_measureOf_148 5 rfl ?_
          refine gg_getR (k' := 173) rfl gf_RX10_23 dX10_measureOf_149 sh_145 pl_145 (by decide) (by decide) rr_145_3 ?_
          refine gg_iload_n dX10_measureOf_152 6 rfl ?_
          refine gg_aaldj (t := 6) f (k' := (174 + f)) dX10_measureOf_153 sh_173 (by decide) pl_173 (by decide) rfl hf (rr_173 hf) ?_
          refine gg_iload dX10_measureOf_154 2 rfl ?_
          refine gg_ialdj (i + 1) dX10_measureOf_156 (rs_173 hf) (rl_173 hf) (by decide) rfl (by have := hc1 (by rw [hk]; decide); omega) ?_
          refine gg_toI (b := (gPt Z i 1 : Int)) (by have := (hM.2 (i + 1) (hc1 (by rw [hk]; decide))).2.2; simp only [gPt] at this ⊢; omega) ?_
          refine gg_istore (ls' := [(7, .int (iv (gPt Z i 1 : Int))), (6, .int (iv (gJn q 0 (gDc n q K N Z (i + 1))))), (8, .int (iv 0)), (5, .int (iv (gDo q 3 (gl2i (N i))))), (4, .int (iv 3)), (0, .ref (gad (gSS ad) 145)), (1, .int (iv (f : Int))), (2, .int (iv (i : Int))), (3, .int (iv (q : Int)))]) dX10_measureOf_157 (by decide) rfl ?_
          refine gg_iincv (ls' := [(8, .int (iv 1)), (7, .int (iv (gPt Z i 1 : Int))), (6, .int (iv (gJn q 0 (gDc n q K N Z (i + 1))))), (5, .int (iv (gDo q 3 (gl2i (N i))))), (4, .int (iv 3)), (0, .ref (gad (gSS ad) 145)), (1, .int (iv (f : Int))), (2, .int (iv (i : Int))), (3, .int (iv (q : Int)))]) dX10_measureOf_159 2 rfl rfl (by decide) rfl ?_
          refine gg_goto (tgt := 122) dX10_measureOf_162 (by decide) ?_
          refine gg_iload dX10_measureOf_122 0 rfl ?_
          refine gg_iload dX10_measureOf_124 4 rfl ?_
          refine gg_callSi (own := RX10) (yt := gm_X10_parts) rfl gl_RX10_98 gk_X10_parts gr_X10_parts dX10_measureOf_126 (c_X10_parts (d := d - 1) (k := 3) (by omega)) rfl rfl (Nat.le_of_ble_eq_true rfl) (by show _ ≤ d; omega) ⟨Nat.le_refl _, Nat.le_refl _⟩ (fun e36 μ' hc => ?_)
          obtain ⟨rfl, rfl⟩ := hc
          refine gg_toI (b := 2) rfl ?_
          refine gg_icmp_ge_f (tgt := 165) dX10_measureOf_129 (by decide) (by decide) (by decide) ?_
          refine gg_iload_n dX10_measureOf_132 8 rfl ?_
          refine gg_iload dX10_measureOf_133 2 rfl ?_
          refine gg_aload_n dX10_measureOf_135 5 rfl ?_
          refine gg_iload_n dX10_measureOf_136 6 rfl ?_
          refine gg_iload dX10_measureOf_137 1 rfl ?_
          refine gg_iload_n dX10_measureOf_139 8 rfl ?_
          refine gg_callVi (own := RX10) (yt := gm_X10_measureOf) rfl gl_RX10_293 gk_X10_measureOf gr_X10_measureOf dX10_measureOf_140 (ih (gPt Z i 1) (hc2 (by rw [hk]; decide)) (by have := he2 (by rw [hk]; decide); omega) (d - 1) (by omega)) sh_145 pl_145 (by decide) rfl rfl rfl (Nat.le_of_ble_eq_true rfl) (by show _ ≤ d; omega) ⟨Nat.le_refl _, Nat.le_refl _⟩ (fun e37 μ' hc => ?_)
          obtain ⟨rfl, rfl⟩ := hc
          refine gg_callSi (own := RX10) (yt := gm_X10_join) rfl gl_RX10_296 gk_X10_join gr_X10_join dX10_measureOf_143 (c_X10_join (d := d - 1) (q := q) hq (by first | omega | (have := @gJn_rng q 0 (gDc n q K N Z (i + 1)) 0 9999 (by omega) (by omega); have := @gJn_rng q (gJn q 0 (gDc n q K N Z (i + 1))) (gDc n q K N Z (gPt Z i 1)) 9999 9999 (by omega) (by omega); omega) | (have := @gJn_rng q 0 (gDc n q K N Z (i + 1)) 0 9999 (by omega) (by omega); omega)) (by omega) (by omega)) rfl rfl (Nat.le_of_ble_eq_true rfl) (by show _ ≤ d; omega) ⟨Nat.le_refl _, Nat.le_refl _⟩ (fun e38 μ' hc => ?_)
          obtain ⟨rfl, rfl⟩ := hc
          refine gg_istore (ls' := [(6, .int (iv (gJn q (gJn q 0 (gDc n q K N Z (i + 1))) (gDc n q K N Z (gPt Z i 1))))), (8, .int (iv 1)), (7, .int (iv (gPt Z i 1 : Int))), (5, .int (iv (gDo q 3 (gl2i (N i))))), (4, .int (iv 3)), (0, .ref (gad (gSS ad) 145)), (1, .int (iv (f : Int))), (2, .int (iv (i : Int))), (3, .int (iv (q : Int)))]) dX10_measureOf_146 (by decide) rfl ?_
          refine gg_aload_n dX10_measureOf_148 5 rfl ?_
          refine gg_getR (k' := 173) rfl gf_RX10_23 dX10_measureOf_149 sh_145 pl_145 (by decide) (by decide) rr_145_3 ?_
          refine gg_iload_n dX10_measureOf_152 6 rfl ?_
          refine gg_aaldj (t := 6) f (k' := (174 + f)) dX10_measureOf_153 sh_173 (by decide) pl_173 (by decide) rfl hf (rr_173 hf) ?_
          refine gg_iload dX10_measureOf_154 2 rfl ?_
          refine gg_ialdj (gPt Z i 1) dX10_measureOf_156 (rs_173 hf) (rl_173 hf) (by decide) rfl (by have := hc2 (by rw [hk]; decide); omega) ?_
          refine gg_istore (ls' := [(7, .int (iv (I (174 + f) (gPt Z i 1)))), (6, .int (iv (gJn q (gJn q 0 (gDc n q K N Z (i + 1))) (gDc n q K N Z (gPt Z i 1))))), (8, .int (iv 1)), (5, .int (iv (gDo q 3 (gl2i (N i))))), (4, .int (iv 3)), (0, .ref (gad (gSS ad) 145)), (1, .int (iv (f : Int))), (2, .int (iv (i : Int))), (3, .int (iv (q : Int)))]) dX10_measureOf_157 (by decide) rfl ?_
          refine gg_iincv (ls' := [(8, .int (iv 2)), (7, .int (iv (I (174 + f) (gPt Z i 1)))), (6, .int (iv (gJn q (gJn q 0 (gDc n q K N Z (i + 1))) (gDc n q K N Z (gPt Z i 1))))), (5, .int (iv (gDo q 3 (gl2i (N i))))), (4, .int (iv 3)), (0, .ref (gad (gSS ad) 145)), (1, .int (iv (f : Int))), (2, .int (iv (i : Int))), (3, .int (iv (q : Int)))]) dX10_measureOf_159 2 rfl rfl (by decide) rfl ?_
          refine gg_goto (tgt := 122) dX10_measureOf_162 (by decide) ?_
          refine gg_iload dX10_measureOf_122 0 rfl ?_
          refine gg_iload dX10_measureOf_124 4 rfl ?_
          refine gg_callSi (own := RX10) (yt := gm_X10_parts) rfl gl_RX10_98 gk_X10_parts gr_X10_parts dX10_measureOf_126 (c_X10_parts (d := d - 1) (k := 3) (by omega)) rfl rfl (Nat.le_of_ble_eq_true rfl) (by show _ ≤ d; omega) ⟨Nat.le_refl _, Nat.le_refl _⟩ (fun e39 μ' hc => ?_)
          obtain ⟨rfl, rfl⟩ := hc
          refine gg_toI (b := 2) rfl ?_
          refine gg_icmp_ge_t (tgt := 165) dX10_measureOf_129 (by decide) (by decide) (by decide) ?_
          refine gg_sipush dX10_measureOf_165 (by decide) ?_
          refine gg_iload dX10_measureOf_168 2 rfl ?_
          refine gg_iload dX10_measureOf_170 3 rfl ?_
          refine gg_iadd dX10_measureOf_172 ?_
          refine gg_mmin rfl gl_RX10_299 dX10_measureOf_173 (by first | omega | (have := @gJn_rng q 0 (gDc n q K N Z (i + 1)) 0 9999 (by omega) (by omega); have := @gJn_rng q (gJn q 0 (gDc n q K N Z (i + 1))) (gDc n q K N Z (gPt Z i 1)) 9999 9999 (by omega) (by omega); have := @gJn_rng q (gJn q (gJn q 0 (gDc n q K N Z (i + 1))) (gDc n q K N Z (gPt Z i 1))) (gDc n q K N Z (gPt Z i 2)) 19998 9999 (by omega) (by omega); omega) | (have := @gJn_rng q 0 (gDc n q K N Z (i + 1)) 0 9999 (by omega) (by omega); have := @gJn_rng q (gJn q 0 (gDc n q K N Z (i + 1))) (gDc n q K N Z (gPt Z i 1)) 9999 9999 (by omega) (by omega); omega) | (have := @gJn_rng q 0 (gDc n q K N Z (i + 1)) 0 9999 (by omega) (by omega); omega) | (split <;> omega) | (have := @gJn_rng q 0 (gDc n q K N Z (i + 1)) 0 9999 (by omega) (by omega); split <;> omega)) (Nat.le_of_ble_eq_true rfl) (by omega) ⟨Nat.le_refl _, Nat.le_refl _⟩ ?_
          refine gg_ireti dX10_measureOf_176 rfl ⟨rfl, rfl⟩ ?_
          refine ⟨rfl, ?_⟩
          rw [gDc_is n q K N Z i hi]
          unfold gdF
          rw [hk]
          unfold gDj
          rw [if_neg (show ¬ (q = 4 ∧ 3 = 6) by omega), if_neg (show ¬ (q = 5 ∧ 3 = 7) by omega)]
          exact rfl
        · refine gg_iload dX10_measureOf_89 2 rfl ?_
          refine gg_bipush dX10_measureOf_91 (by decide) ?_
          refine gg_icmp_ne_t (tgt := 114) dX10_measureOf_93 (by decide) (by decide) (by decide) ?_
          refine gg_iload_n dX10_measureOf_114 5 rfl ?_
          refine gg_iconst dX10_measureOf_115 ?_
          refine gg_iadd dX10_measureOf_116 ?_
          refine gg_toI (b := ((i + 1 : Nat) : Int)) (by omega) ?_
          refine gg_istore (ls' := [(7, .int (iv ((i + 1 : Nat) : Int))), (6, .int (iv 0)), (5, .int (iv (gDo q 3 (gl2i (N i))))), (4, .int (iv 3)), (0, .ref (gad (gSS ad) 145)), (1, .int (iv (f : Int))), (2, .int (iv (i : Int))), (3, .int (iv (q : Int)))]) dX10_measureOf_117 (by decide) rfl ?_
          refine gg_iconst dX10_measureOf_119 ?_
          refine gg_istore (ls' := [(8, .int (iv 0)), (7, .int (iv ((i + 1 : Nat) : Int))), (6, .int (iv 0)), (5, .int (iv (gDo q 3 (gl2i (N i))))), (4, .int (iv 3)), (0, .ref (gad (gSS ad) 145)), (1, .int (iv (f : Int))), (2, .int (iv (i : Int))), (3, .int (iv (q : Int)))]) dX10_measureOf_120 (by decide) rfl ?_
          refine gg_iload dX10_measureOf_122 0 rfl ?_
          refine gg_iload dX10_measureOf_124 4 rfl ?_
          refine gg_callSi (own := RX10) (yt := gm_X10_parts) rfl gl_RX10_98 gk_X10_parts gr_X10_parts dX10_measureOf_126 (c_X10_parts (d := d - 1) (k := 3) (by omega)) rfl rfl (Nat.le_of_ble_eq_true rfl) (by show _ ≤ d; omega) ⟨Nat.le_refl _, Nat.le_refl _⟩ (fun e40 μ' hc => ?_)
          obtain ⟨rfl, rfl⟩ := hc
          refine gg_toI (b := 2) rfl ?_
          refine gg_icmp_ge_f (tgt := 165) dX10_measureOf_129 (by decide) (by decide) (by decide) ?_
          refine gg_iload_n dX10_measureOf_132 8 rfl ?_
          refine gg_iload dX10_measureOf_133 2 rfl ?_
          refine gg_aload_n dX10_measureOf_135 5 rfl ?_
          refine gg_iload_n dX10_measureOf_136 6 rfl ?_
          refine gg_iload dX10_measureOf_137 1 rfl ?_
          refine gg_iload_n dX10_measureOf_139 8 rfl ?_
          refine gg_callVi (own := RX10) (yt := gm_X10_measureOf) rfl gl_RX10_293 gk_X10_measureOf gr_X10_measureOf dX10_measureOf_140 (ih (i + 1) (hc1 (by rw [hk]; decide)) (by have := he2 (by rw [hk]; decide); omega) (d - 1) (by omega)) sh_145 pl_145 (by decide) rfl rfl rfl (Nat.le_of_ble_eq_true rfl) (by show _ ≤ d; omega) ⟨Nat.le_refl _, Nat.le_refl _⟩ (fun e41 μ' hc => ?_)
          obtain ⟨rfl, rfl⟩ := hc
          refine gg_callSi (own := RX10) (yt := gm_X10_join) rfl gl_RX10_296 gk_X10_join gr_X10_join dX10_measureOf_143 (c_X10_join (d := d - 1) (q := q) hq (by first | omega | (have := @gJn_rng q 0 (gDc n q K N Z (i + 1)) 0 9999 (by omega) (by omega); have := @gJn_rng q (gJn q 0 (gDc n q K N Z (i + 1))) (gDc n q K N Z (gPt Z i 1)) 9999 9999 (by omega) (by omega); omega) | (have := @gJn_rng q 0 (gDc n q K N Z (i + 1)) 0 9999 (by omega) (by omega); omega)) (by omega) (by omega)) rfl rfl (Nat.le_of_ble_eq_true rfl) (by show _ ≤ d; omega) ⟨Nat.le_refl _, Nat.le_refl _⟩ (fun e42 μ' hc => ?_)
          obtain ⟨rfl, rfl⟩ := hc
          refine gg_istore (ls' := [(6, .int (iv (gJn q 0 (gDc n q K N Z (i + 1))))), (8, .int (iv 0)), (7, .int (iv ((i + 1 : Nat) : Int))), (5, .int (iv (gDo q 3 (gl2i (N i))))), (4, .int (iv 3)), (0, .ref (gad (gSS ad) 145)), (1, .int (iv (f : Int))), (2, .int (iv (i : Int))), (3, .int (iv (q : Int)))]) dX10_measureOf_146 (by decide) rfl ?_
          refine gg_aload_n dX10_measureOf_148 5 rfl ?_
          refine gg_getR (k' := 173) rfl gf_RX10_23 dX10_measureOf_149 sh_145 pl_145 (by decide) (by decide) rr_145_3 ?_
          refine gg_iload_n dX10_measureOf_152 6 rfl ?_
          refine gg_aaldj (t := 6) f (k' := (174 + f)) dX10_measureOf_153 sh_173 (by decide) pl_173 (by decide) rfl hf (rr_173 hf) ?_
          refine gg_iload dX10_measureOf_154 2 rfl ?_
          refine gg_ialdj (i + 1) dX10_measureOf_156 (rs_173 hf) (rl_173 hf) (by decide) rfl (by have := hc1 (by rw [hk]; decide); omega) ?_
          refine gg_toI (b := (gPt Z i 1 : Int)) (by have := (hM.2 (i + 1) (hc1 (by rw [hk]; decide))).2.2; simp only [gPt] at this ⊢; omega) ?_
          refine gg_istore (ls' := [(7, .int (iv (gPt Z i 1 : Int))), (6, .int (iv (gJn q 0 (gDc n q K N Z (i + 1))))), (8, .int (iv 0)), (5, .int (iv (gDo q 3 (gl2i (N i))))), (4, .int (iv 3)), (0, .ref (gad (gSS ad) 145)), (1, .int (iv (f : Int))), (2, .int (iv (i : Int))), (3, .int (iv (q : Int)))]) dX10_measureOf_157 (by decide) rfl ?_
          refine gg_iincv (ls' := [(8, .int (iv 1)), (7, .int (iv (gPt Z i 1 : Int))), (6, .int (iv (gJn q 0 (gDc n q K N Z (i + 1))))), (5, .int (iv (gDo q 3 (gl2i (N i))))), (4, .int (iv 3)), (0, .ref (gad (gSS ad) 145)), (1, .int (iv (f : Int))), (2, .int (iv (i : Int))), (3, .int (iv (q : Int)))]) dX10_measureOf_159 2 rfl rfl (by decide) rfl ?_
          refine gg_goto (tgt := 122) dX10_measureOf_162 (by decide) ?_
          refine gg_iload dX10_measureOf_122 0 rfl ?_
          refine gg_iload dX10_measureOf_124 4 rfl ?_
          refine gg_callSi (own := RX10) (yt := gm_X10_parts) rfl gl_RX10_98 gk_X10_parts gr_X10_parts dX10_measureOf_126 (c_X10_parts (d := d - 1) (k := 3) (by omega)) rfl rfl (Nat.le_of_ble_eq_true rfl) (by show _ ≤ d; omega) ⟨Nat.le_refl _, Nat.le_refl _⟩ (fun e43 μ' hc => ?_)
          obtain ⟨rfl, rfl⟩ := hc
          refine gg_toI (b := 2) rfl ?_
          refine gg_icmp_ge_f (tgt := 165) dX10_measureOf_129 (by decide) (by decide) (by decide) ?_
          refine gg_iload_n dX10_measureOf_132 8 rfl ?_
          refine gg_iload dX10_measureOf_133 2 rfl ?_
          refine gg_aload_n dX10_measureOf_135 5 rfl ?_
          refine gg_iload_n dX10_measureOf_136 6 rfl ?_
          refine gg_iload dX10_measureOf_137 1 rfl ?_
          refine gg_iload_n dX10_measureOf_139 8 rfl ?_
          refine gg_callVi (own := RX10) (yt := gm_X10_measureOf) rfl gl_RX10_293 gk_X10_measureOf gr_X10_measureOf dX10_measureOf_140 (ih (gPt Z i 1) (hc2 (by rw [hk]; decide)) (by have := he2 (by rw [hk]; decide); omega) (d - 1) (by omega)) sh_145 pl_145 (by decide) rfl rfl rfl (Nat.le_of_ble_eq_true rfl) (by show _ ≤ d; omega) ⟨Nat.le_refl _, Nat.le_refl _⟩ (fun e44 μ' hc => ?_)
          obtain ⟨rfl, rfl⟩ := hc
          refine gg_callSi (own := RX10) (yt := gm_X10_join) rfl gl_RX10_296 gk_X10_join gr_X10_join dX10_measureOf_143 (c_X10_join (d := d - 1) (q := q) hq (by first | omega | (have := @gJn_rng q 0 (gDc n q K N Z (i + 1)) 0 9999 (by omega) (by omega); have := @gJn_rng q (gJn q 0 (gDc n q K N Z (i + 1))) (gDc n q K N Z (gPt Z i 1)) 9999 9999 (by omega) (by omega); omega) | (have := @gJn_rng q 0 (gDc n q K N Z (i + 1)) 0 9999 (by omega) (by omega); omega)) (by omega) (by omega)) rfl rfl (Nat.le_of_ble_eq_true rfl) (by show _ ≤ d; omega) ⟨Nat.le_refl _, Nat.le_refl _⟩ (fun e45 μ' hc => ?_)
          obtain ⟨rfl, rfl⟩ := hc
          refine gg_istore (ls' := [(6, .int (iv (gJn q (gJn q 0 (gDc n q K N Z (i + 1))) (gDc n q K N Z (gPt Z i 1))))), (8, .int (iv 1)), (7, .int (iv (gPt Z i 1 : Int))), (5, .int (iv (gDo q 3 (gl2i (N i))))), (4, .int (iv 3)), (0, .ref (gad (gSS ad) 145)), (1, .int (iv (f : Int))), (2, .int (iv (i : Int))), (3, .int (iv (q : Int)))]) dX10_measureOf_146 (by decide) rfl ?_
          refine gg_aload_n dX10_measureOf_148 5 rfl ?_
          refine gg_getR (k' := 173) rfl gf_RX10_23 dX10_measureOf_149 sh_145 pl_145 (by decide) (by decide) rr_145_3 ?_
          refine gg_iload_n dX10_measureOf_152 6 rfl ?_
          refine gg_aaldj (t := 6) f (k' := (174 + f)) dX10_measureOf_153 sh_173 (by decide) pl_173 (by decide) rfl hf (rr_173 hf) ?_
          refine gg_iload dX10_measureOf_154 2 rfl ?_
          refine gg_ialdj (gPt Z i 1) dX10_measureOf_156 (rs_173 hf) (rl_173 hf) (by decide) rfl (by have := hc2 (by rw [hk]; decide); omega) ?_
          refine gg_istore (ls' := [(7, .int (iv (I (174 + f) (gPt Z i 1)))), (6, .int (iv (gJn q (gJn q 0 (gDc n q K N Z (i + 1))) (gDc n q K N Z (gPt Z i 1))))), (8, .int (iv 1)), (5, .int (iv (gDo q 3 (gl2i (N i))))), (4, .int (iv 3)), (0, .ref (gad (gSS ad) 145)), (1, .int (iv (f : Int))), (2, .int (iv (i : Int))), (3, .int (iv (q : Int)))]) dX10_measureOf_157 (by decide) rfl ?_
          refine gg_iincv (ls' := [(8, .int (iv 2)), (7, .int (iv (I (174 + f) (gPt Z i 1)))), (6, .int (iv (gJn q (gJn q 0 (gDc n q K N Z (i + 1))) (gDc n q K N Z (gPt Z i 1))))), (5, .int (iv (gDo q 3 (gl2i (N i))))), (4, .int (iv 3)), (0, .ref (gad (gSS ad) 145)), (1, .int (iv (f : Int))), (2, .int (iv (i : Int))), (3, .int (iv (q : Int)))]) dX10_measureOf_159 2 rfl rfl (by decide) rfl ?_
          refine gg_goto (tgt := 122) dX10_measureOf_162 (by decide) ?_
          refine gg_iload dX10_measureOf_122 0 rfl ?_
          refine gg_iload dX10_measureOf_124 4 rfl ?_
          refine gg_callSi (own := RX10) (yt := gm_X10_parts) rfl gl_RX10_98 gk_X10_parts gr_X10_parts dX10_measureOf_126 (c_X10_parts (d := d - 1) (k := 3) (by omega)) rfl rfl (Nat.le_of_ble_eq_true rfl) (by show _ ≤ d; omega) ⟨Nat.le_refl _, Nat.le_refl _⟩ (fun e46 μ' hc => ?_)
          obtain ⟨rfl, rfl⟩ := hc
          refine gg_toI (b := 2) rfl ?_
          refine gg_icmp_ge_t (tgt := 165) dX10_measureOf_129 (by decide) (by decide) (by decide) ?_
          refine gg_sipush dX10_measureOf_165 (by decide) ?_
          refine gg_iload dX10_measureOf_168 2 rfl ?_
          refine gg_iload dX10_measureOf_170 3 rfl ?_
          refine gg_iadd dX10_measureOf_172 ?_
          refine gg_mmin rfl gl_RX10_299 dX10_measureOf_173 (by first | omega | (have := @gJn_rng q 0 (gDc n q K N Z (i + 1)) 0 9999 (by omega) (by omega); have := @gJn_rng q (gJn q 0 (gDc n q K N Z (i + 1))) (gDc n q K N Z (gPt Z i 1)) 9999 9999 (by omega) (by omega); have := @gJn_rng q (gJn q (gJn q 0 (gDc n q K N Z (i + 1))) (gDc n q K N Z (gPt Z i 1))) (gDc n q K N Z (gPt Z i 2)) 19998 9999 (by omega) (by omega); omega) | (have := @gJn_rng q 0 (gDc n q K N Z (i + 1)) 0 9999 (by omega) (by omega); have := @gJn_rng q (gJn q 0 (gDc n q K N Z (i + 1))) (gDc n q K N Z (gPt Z i 1)) 9999 9999 (by omega) (by omega); omega) | (have := @gJn_rng q 0 (gDc n q K N Z (i + 1)) 0 9999 (by omega) (by omega); omega) | (split <;> omega) | (have := @gJn_rng q 0 (gDc n q K N Z (i + 1)) 0 9999 (by omega) (by omega); split <;> omega)) (Nat.le_of_ble_eq_true rfl) (by omega) ⟨Nat.le_refl _, Nat.le_refl _⟩ ?_
          refine gg_ireti dX10_measureOf_176 rfl ⟨rfl, rfl⟩ ?_
          refine ⟨rfl, ?_⟩
          rw [gDc_is n q K N Z i hi]
          unfold gdF
          rw [hk]
          unfold gDj
          rw [if_neg (show ¬ (q = 4 ∧ 3 = 6) by omega), if_neg (show ¬ (q = 5 ∧ 3 = 7) by omega)]
          exact rfl
      · refine gg_iload dX10_measureOf_35 2 rfl ?_
        refine gg_bipush dX10_measureOf_37 (by decide) ?_
        refine gg_icmp_ne_t (tgt := 84) dX10_measureOf_39 (by decide) (by decide) (by decide) ?_
        refine gg_iload_n dX10_measureOf_84 6 rfl ?_
        refine gg_iconst dX10_measureOf_85 ?_
        refine gg_icmp_ne (tgt := 114) dX10_measureOf_86 (by decide) (by omega) (fun hq5 => ?_) (fun hq5 => ?_)
        · refine gg_iload_n dX10_measureOf_114 5 rfl ?_
          refine gg_iconst dX10_measureOf_115 ?_
          refine gg_iadd dX10_measureOf_116 ?_
          refine gg_toI (b := ((i + 1 : Nat) : Int)) (by omega) ?_
          refine gg_istore (ls' := [(7, .int (iv ((i + 1 : Nat) : Int))), (6, .int (iv 0)), (5, .int (iv (gDo q 3 (gl2i (N i))))), (4, .int (iv 3)), (0, .ref (gad (gSS ad) 145)), (1, .int (iv (f : Int))), (2, .int (iv (i : Int))), (3, .int (iv (q : Int)))]) dX10_measureOf_117 (by decide) rfl ?_
          refine gg_iconst dX10_measureOf_119 ?_
          refine gg_istore (ls' := [(8, .int (iv 0)), (7, .int (iv ((i + 1 : Nat) : Int))), (6, .int (iv 0)), (5, .int (iv (gDo q 3 (gl2i (N i))))), (4, .int (iv 3)), (0, .ref (gad (gSS ad) 145)), (1, .int (iv (f : Int))), (2, .int (iv (i : Int))), (3, .int (iv (q : Int)))]) dX10_measureOf_120 (by decide) rfl ?_
          refine gg_iload dX10_measureOf_122 0 rfl ?_
          refine gg_iload dX10_measureOf_124 4 rfl ?_
          refine gg_callSi (own := RX10) (yt := gm_X10_parts) rfl gl_RX10_98 gk_X10_parts gr_X10_parts dX10_measureOf_126 (c_X10_parts (d := d - 1) (k := 3) (by omega)) rfl rfl (Nat.le_of_ble_eq_true rfl) (by show _ ≤ d; omega) ⟨Nat.le_refl _, Nat.le_refl _⟩ (fun e47 μ' hc => ?_)
          obtain ⟨rfl, rfl⟩ := hc
          refine gg_toI (b := 2) rfl ?_
          refine gg_icmp_ge_f (tgt := 165) dX10_measureOf_129 (by decide) (by decide) (by decide) ?_
          refine gg_iload_n dX10_measureOf_132 8 rfl ?_
          refine gg_iload dX10_measureOf_133 2 rfl ?_
          refine gg_aload_n dX10_measureOf_135 5 rfl ?_
          refine gg_iload_n dX10_measureOf_136 6 rfl ?_
          refine gg_iload dX10_measureOf_137 1 rfl ?_
          refine gg_iload_n dX10_measureOf_139 8 rfl ?_
          refine gg_callVi (own := RX10) (yt := gm_X10_measureOf) rfl gl_RX10_293 gk_X10_measureOf gr_X10_measureOf dX10_measureOf_140 (ih (i + 1) (hc1 (by rw [hk]; decide)) (by have := he2 (by rw [hk]; decide); omega) (d - 1) (by omega)) sh_145 pl_145 (by decide) rfl rfl rfl (Nat.le_of_ble_eq_true rfl) (by show _ ≤ d; omega) ⟨Nat.le_refl _, Nat.le_refl _⟩ (fun e48 μ' hc => ?_)
          obtain ⟨rfl, rfl⟩ := hc
          refine gg_callSi (own := RX10) (yt := gm_X10_join) rfl gl_RX10_296 gk_X10_join gr_X10_join dX10_measureOf_143 (c_X10_join (d := d - 1) (q := q) hq (by first | omega | (have := @gJn_rng q 0 (gDc n q K N Z (i + 1)) 0 9999 (by omega) (by omega); have := @gJn_rng q (gJn q 0 (gDc n q K N Z (i + 1))) (gDc n q K N Z (gPt Z i 1)) 9999 9999 (by omega) (by omega); omega) | (have := @gJn_rng q 0 (gDc n q K N Z (i + 1)) 0 9999 (by omega) (by omega); omega)) (by omega) (by omega)) rfl rfl (Nat.le_of_ble_eq_true rfl) (by show _ ≤ d; omega) ⟨Nat.le_refl _, Nat.le_refl _⟩ (fun e49 μ' hc => ?_)
          obtain ⟨rfl, rfl⟩ := hc
          refine gg_istore (ls' := [(6, .int (iv (gJn q 0 (gDc n q K N Z (i + 1))))), (8, .int (iv 0)), (7, .int (iv ((i + 1 : Nat) : Int))), (5, .int (iv (gDo q 3 (gl2i (N i))))), (4, .int (iv 3)), (0, .ref (gad (gSS ad) 145)), (1, .int (iv (f : Int))), (2, .int (iv (i : Int))), (3, .int (iv (q : Int)))]) dX10_measureOf_146 (by decide) rfl ?_
          refine gg_aload_n dX10_measureOf_148 5 rfl ?_
          refine gg_getR (k' := 173) rfl gf_RX10_23 dX10_measureOf_149 sh_145 pl_145 (by decide) (by decide) rr_145_3 ?_
          refine gg_iload_n dX10_measureOf_152 6 rfl ?_
          refine gg_aaldj (t := 6) f (k' := (174 + f)) dX10_measureOf_153 sh_173 (by decide) pl_173 (by decide) rfl hf (rr_173 hf) ?_
          refine gg_iload dX10_measureOf_154 2 rfl ?_
          refine gg_ialdj (i + 1) dX10_measureOf_156 (rs_173 hf) (rl_173 hf) (by decide) rfl (by have := hc1 (by rw [hk]; decide); omega) ?_
          refine gg_toI (b := (gPt Z i 1 : Int)) (by have := (hM.2 (i + 1) (hc1 (by rw [hk]; decide))).2.2; simp only [gPt] at this ⊢; omega) ?_
          refine gg_istore (ls' := [(7, .int (iv (gPt Z i 1 : Int))), (6, .int (iv (gJn q 0 (gDc n q K N Z (i + 1))))), (8, .int (iv 0)), (5, .int (iv (gDo q 3 (gl2i (N i))))), (4, .int (iv 3)), (0, .ref (gad (gSS ad) 145)), (1, .int (iv (f : Int))), (2, .int (iv (i : Int))), (3, .int (iv (q : Int)))]) dX10_measureOf_157 (by decide) rfl ?_
          refine gg_iincv (ls' := [(8, .int (iv 1)), (7, .int (iv (gPt Z i 1 : Int))), (6, .int (iv (gJn q 0 (gDc n q K N Z (i + 1))))), (5, .int (iv (gDo q 3 (gl2i (N i))))), (4, .int (iv 3)), (0, .ref (gad (gSS ad) 145)), (1, .int (iv (f : Int))), (2, .int (iv (i : Int))), (3, .int (iv (q : Int)))]) dX10_measureOf_159 2 rfl rfl (by decide) rfl ?_
          refine gg_goto (tgt := 122) dX10_measureOf_162 (by decide) ?_
          refine gg_iload dX10_measureOf_122 0 rfl ?_
          refine gg_iload dX10_measureOf_124 4 rfl ?_
          refine gg_callSi (own := RX10) (yt := gm_X10_parts) rfl gl_RX10_98 gk_X10_parts gr_X10_parts dX10_measureOf_126 (c_X10_parts (d := d - 1) (k := 3) (by omega)) rfl rfl (Nat.le_of_ble_eq_true rfl) (by show _ ≤ d; omega) ⟨Nat.le_refl _, Nat.le_refl _⟩ (fun e50 μ' hc => ?_)
          obtain ⟨rfl, rfl⟩ := hc
          refine gg_toI (b := 2) rfl ?_
          refine gg_icmp_ge_f (tgt := 165) dX10_measureOf_129 (by decide) (by decide) (by decide) ?_
          refine gg_iload_n dX10_measureOf_132 8 rfl ?_
          refine gg_iload dX10_measureOf_133 2 rfl ?_
          refine gg_aload_n dX10_measureOf_135 5 rfl ?_
          refine gg_iload_n dX10_measureOf_136 6 rfl ?_
          refine gg_iload dX10_measureOf_137 1 rfl ?_
          refine gg_iload_n dX10_measureOf_139 8 rfl ?_
          refine gg_callVi (own := RX10) (yt := gm_X10_measureOf) rfl gl_RX10_293 gk_X10_measureOf gr_X10_measureOf dX10_measureOf_140 (ih (gPt Z i 1) (hc2 (by rw [hk]; decide)) (by have := he2 (by rw [hk]; decide); omega) (d - 1) (by omega)) sh_145 pl_145 (by decide) rfl rfl rfl (Nat.le_of_ble_eq_true rfl) (by show _ ≤ d; omega) ⟨Nat.le_refl _, Nat.le_refl _⟩ (fun e51 μ' hc => ?_)
          obtain ⟨rfl, rfl⟩ := hc
          refine gg_callSi (own := RX10) (yt := gm_X10_join) rfl gl_RX10_296 gk_X10_join gr_X10_join dX10_measureOf_143 (c_X10_join (d := d - 1) (q := q) hq (by first | omega | (have := @gJn_rng q 0 (gDc n q K N Z (i + 1)) 0 9999 (by omega) (by omega); have := @gJn_rng q (gJn q 0 (gDc n q K N Z (i + 1))) (gDc n q K N Z (gPt Z i 1)) 9999 9999 (by omega) (by omega); omega) | (have := @gJn_rng q 0 (gDc n q K N Z (i + 1)) 0 9999 (by omega) (by omega); omega)) (by omega) (by omega)) rfl rfl (Nat.le_of_ble_eq_true rfl) (by show _ ≤ d; omega) ⟨Nat.le_refl _, Nat.le_refl _⟩ (fun e52 μ' hc => ?_)
          obtain ⟨rfl, rfl⟩ := hc
          refine gg_istore (ls' := [(6, .int (iv (gJn q (gJn q 0 (gDc n q K N Z (i + 1))) (gDc n q K N Z (gPt Z i 1))))), (8, .int (iv 1)), (7, .int (iv (gPt Z i 1 : Int))), (5, .int (iv (gDo q 3 (gl2i (N i))))), (4, .int (iv 3)), (0, .ref (gad (gSS ad) 145)), (1, .int (iv (f : Int))), (2, .int (iv (i : Int))), (3, .int (iv (q : Int)))]) dX10_measureOf_146 (by decide) rfl ?_
          refine gg_aload_n dX10_measureOf_148 5 rfl ?_
          refine gg_getR (k' := 173) rfl gf_RX10_23 dX10_measureOf_149 sh_145 pl_145 (by decide) (by decide) rr_145_3 ?_
          refine gg_iload_n dX10_measureOf_152 6 rfl ?_
          refine gg_aaldj (t := 6) f (k' := (174 + f)) dX10_measureOf_153 sh_173 (by decide) pl_173 (by decide) rfl hf (rr_173 hf) ?_
          refine gg_iload dX10_measureOf_154 2 rfl ?_
          refine gg_ialdj (gPt Z i 1) dX10_measureOf_156 (rs_173 hf) (rl_173 hf) (by decide) rfl (by have := hc2 (by rw [hk]; decide); omega) ?_
          refine gg_istore (ls' := [(7, .int (iv (I (174 + f) (gPt Z i 1)))), (6, .int (iv (gJn q (gJn q 0 (gDc n q K N Z (i + 1))) (gDc n q K N Z (gPt Z i 1))))), (8, .int (iv 1)), (5, .int (iv (gDo q 3 (gl2i (N i))))), (4, .int (iv 3)), (0, .ref (gad (gSS ad) 145)), (1, .int (iv (f : Int))), (2, .int (iv (i : Int))), (3, .int (iv (q : Int)))]) dX10_measureOf_157 (by decide) rfl ?_
          refine gg_iincv (ls' := [(8, .int (iv 2)), (7, .int (iv (I (174 + f) (gPt Z i 1)))), (6, .int (iv (gJn q (gJn q 0 (gDc n q K N Z (i + 1))) (gDc n q K N Z (gPt Z i 1))))), (5, .int (iv (gDo q 3 (gl2i (N i))))), (4, .int (iv 3)), (0, .ref (gad (gSS ad) 145)), (1, .int (iv (f : Int))), (2, .int (iv (i : Int))), (3, .int (iv (q : Int)))]) dX10_measureOf_159 2 rfl rfl (by decide) rfl ?_
          refine gg_goto (tgt := 122) dX10_measureOf_162 (by decide) ?_
          refine gg_iload dX10_measureOf_122 0 rfl ?_
          refine gg_iload dX10_measureOf_124 4 rfl ?_
          refine gg_callSi (own := RX10) (yt := gm_X10_parts) rfl gl_RX10_98 gk_X10_parts gr_X10_parts dX10_measureOf_126 (c_X10_parts (d := d - 1) (k := 3) (by omega)) rfl rfl (Nat.le_of_ble_eq_true rfl) (by show _ ≤ d; omega) ⟨Nat.le_refl _, Nat.le_refl _⟩ (fun e53 μ' hc => ?_)
          obtain ⟨rfl, rfl⟩ := hc
          refine gg_toI (b := 2) rfl ?_
          refine gg_icmp_ge_t (tgt := 165) dX10_measureOf_129 (by decide) (by decide) (by decide) ?_
          refine gg_sipush dX10_measureOf_165 (by decide) ?_
          refine gg_iload dX10_measureOf_168 2 rfl ?_
          refine gg_iload dX10_measureOf_170 3 rfl ?_
          refine gg_iadd dX10_measureOf_172 ?_
          refine gg_mmin rfl gl_RX10_299 dX10_measureOf_173 (by first | omega | (have := @gJn_rng q 0 (gDc n q K N Z (i + 1)) 0 9999 (by omega) (by omega); have := @gJn_rng q (gJn q 0 (gDc n q K N Z (i + 1))) (gDc n q K N Z (gPt Z i 1)) 9999 9999 (by omega) (by omega); have := @gJn_rng q (gJn q (gJn q 0 (gDc n q K N Z (i + 1))) (gDc n q K N Z (gPt Z i 1))) (gDc n q K N Z (gPt Z i 2)) 19998 9999 (by omega) (by omega); omega) | (have := @gJn_rng q 0 (gDc n q K N Z (i + 1)) 0 9999 (by omega) (by omega); have := @gJn_rng q (gJn q 0 (gDc n q K N Z (i + 1))) (gDc n q K N Z (gPt Z i 1)) 9999 9999 (by omega) (by omega); omega) | (have := @gJn_rng q 0 (gDc n q K N Z (i + 1)) 0 9999 (by omega) (by omega); omega) | (split <;> omega) | (have := @gJn_rng q 0 (gDc n q K N Z (i + 1)) 0 9999 (by omega) (by omega); split <;> omega)) (Nat.le_of_ble_eq_true rfl) (by omega) ⟨Nat.le_refl _, Nat.le_refl _⟩ ?_
          refine gg_ireti dX10_measureOf_176 rfl ⟨rfl, rfl⟩ ?_
          refine ⟨rfl, ?_⟩
          rw [gDc_is n q K N Z i hi]
          unfold gdF
          rw [hk]
          unfold gDj
          rw [if_neg (show ¬ (q = 4 ∧ 3 = 6) by omega), if_neg (show ¬ (q = 5 ∧ 3 = 7) by omega)]
          exact rfl
        · refine gg_iload dX10_measureOf_89 2 rfl ?_
          refine gg_bipush dX10_measureOf_91 (by decide) ?_
          refine gg_icmp_ne_t (tgt := 114) dX10_measureOf_93 (by decide) (by decide) (by decide) ?_
          refine gg_iload_n dX10_measureOf_114 5 rfl ?_
          refine gg_iconst dX10_measureOf_115 ?_
          refine gg_iadd dX10_measureOf_116 ?_
          refine gg_toI (b := ((i + 1 : Nat) : Int)) (by omega) ?_
          refine gg_istore (ls' := [(7, .int (iv ((i + 1 : Nat) : Int))), (6, .int (iv 0)), (5, .int (iv (gDo q 3 (gl2i (N i))))), (4, .int (iv 3)), (0, .ref (gad (gSS ad) 145)), (1, .int (iv (f : Int))), (2, .int (iv (i : Int))), (3, .int (iv (q : Int)))]) dX10_measureOf_117 (by decide) rfl ?_
          refine gg_iconst dX10_measureOf_119 ?_
          refine gg_istore (ls' := [(8, .int (iv 0)), (7, .int (iv ((i + 1 : Nat) : Int))), (6, .int (iv 0)), (5, .int (iv (gDo q 3 (gl2i (N i))))), (4, .int (iv 3)), (0, .ref (gad (gSS ad) 145)), (1, .int (iv (f : Int))), (2, .int (iv (i : Int))), (3, .int (iv (q : Int)))]) dX10_measureOf_120 (by decide) rfl ?_
          refine gg_iload dX10_measureOf_122 0 rfl ?_
          refine gg_iload dX10_measureOf_124 4 rfl ?_
          refine gg_callSi (own := RX10) (yt := gm_X10_parts) rfl gl_RX10_98 gk_X10_parts gr_X10_parts dX10_measureOf_126 (c_X10_parts (d := d - 1) (k := 3) (by omega)) rfl rfl (Nat.le_of_ble_eq_true rfl) (by show _ ≤ d; omega) ⟨Nat.le_refl _, Nat.le_refl _⟩ (fun e54 μ' hc => ?_)
          obtain ⟨rfl, rfl⟩ := hc
          refine gg_toI (b := 2) rfl ?_
          refine gg_icmp_ge_f (tgt := 165) dX10_measureOf_129 (by decide) (by decide) (by decide) ?_
          refine gg_iload_n dX10_measureOf_132 8 rfl ?_
          refine gg_iload dX10_measureOf_133 2 rfl ?_
          refine gg_aload_n dX10_measureOf_135 5 rfl ?_
          refine gg_iload_n dX10_measureOf_136 6 rfl ?_
          refine gg_iload dX10_measureOf_137 1 rfl ?_
          refine gg_iload_n dX10_measureOf_139 8 rfl ?_
          refine gg_callVi (own := RX10) (yt := gm_X10_measureOf) rfl gl_RX10_293 gk_X10_measureOf gr_X10_measureOf dX10_measureOf_140 (ih (i + 1) (hc1 (by rw [hk]; decide)) (by have := he2 (by rw [hk]; decide); omega) (d - 1) (by omega)) sh_145 pl_145 (by decide) rfl rfl rfl (Nat.le_of_ble_eq_true rfl) (by show _ ≤ d; omega) ⟨Nat.le_refl _, Nat.le_refl _⟩ (fun e55 μ' hc => ?_)
          obtain ⟨rfl, rfl⟩ := hc
          refine gg_callSi (own := RX10) (yt := gm_X10_join) rfl gl_RX10_296 gk_X10_join gr_X10_join dX10_measureOf_143 (c_X10_join (d := d - 1) (q := q) hq (by first | omega | (have := @gJn_rng q 0 (gDc n q K N Z (i + 1)) 0 9999 (by omega) (by omega); have := @gJn_rng q (gJn q 0 (gDc n q K N Z (i + 1))) (gDc n q K N Z (gPt Z i 1)) 9999 9999 (by omega) (by omega); omega) | (have := @gJn_rng q 0 (gDc n q K N Z (i + 1)) 0 9999 (by omega) (by omega); omega)) (by omega) (by omega)) rfl rfl (Nat.le_of_ble_eq_true rfl) (by show _ ≤ d; omega) ⟨Nat.le_refl _, Nat.le_refl _⟩ (fun e56 μ' hc => ?_)
          obtain ⟨rfl, rfl⟩ := hc
          refine gg_istore (ls' := [(6, .int (iv (gJn q 0 (gDc n q K N Z (i + 1))))), (8, .int (iv 0)), (7, .int (iv ((i + 1 : Nat) : Int))), (5, .int (iv (gDo q 3 (gl2i (N i))))), (4, .int (iv 3)), (0, .ref (gad (gSS ad) 145)), (1, .int (iv (f : Int))), (2, .int (iv (i : Int))), (3, .int (iv (q : Int)))]) dX10_measureOf_146 (by decide) rfl ?_
          refine gg_aload_n dX10_measureOf_148 5 rfl ?_
          refine gg_getR (k' := 173) rfl gf_RX10_23 dX10_measureOf_149 sh_145 pl_145 (by decide) (by decide) rr_145_3 ?_
          refine gg_iload_n dX10_measureOf_152 6 rfl ?_
          refine gg_aaldj (t := 6) f (k' := (174 + f)) dX10_measureOf_153 sh_173 (by decide) pl_173 (by decide) rfl hf (rr_173 hf) ?_
          refine gg_iload dX10_measureOf_154 2 rfl ?_
          refine gg_ialdj (i + 1) dX10_measureOf_156 (rs_173 hf) (rl_173 hf) (by decide) rfl (by have := hc1 (by rw [hk]; decide); omega) ?_
          refine gg_toI (b := (gPt Z i 1 : Int)) (by have := (hM.2 (i + 1) (hc1 (by rw [hk]; decide))).2.2; simp only [gPt] at this ⊢; omega) ?_
          refine gg_istore (ls' := [(7, .int (iv (gPt Z i 1 : Int))), (6, .int (iv (gJn q 0 (gDc n q K N Z (i + 1))))), (8, .int (iv 0)), (5, .int (iv (gDo q 3 (gl2i (N i))))), (4, .int (iv 3)), (0, .ref (gad (gSS ad) 145)), (1, .int (iv (f : Int))), (2, .int (iv (i : Int))), (3, .int (iv (q : Int)))]) dX10_measureOf_157 (by decide) rfl ?_
          refine gg_iincv (ls' := [(8, .int (iv 1)), (7, .int (iv (gPt Z i 1 : Int))), (6, .int (iv (gJn q 0 (gDc n q K N Z (i + 1))))), (5, .int (iv (gDo q 3 (gl2i (N i))))), (4, .int (iv 3)), (0, .ref (gad (gSS ad) 145)), (1, .int (iv (f : Int))), (2, .int (iv (i : Int))), (3, .int (iv (q : Int)))]) dX10_measureOf_159 2 rfl rfl (by decide) rfl ?_
          refine gg_goto (tgt := 122) dX10_measureOf_162 (by decide) ?_
          refine gg_iload dX10_measureOf_122 0 rfl ?_
          refine gg_iload dX10_measureOf_124 4 rfl ?_
          refine gg_callSi (own := RX10) (yt := gm_X10_parts) rfl gl_RX10_98 gk_X10_parts gr_X10_parts dX10_measureOf_126 (c_X10_parts (d := d - 1) (k := 3) (by omega)) rfl rfl (Nat.le_of_ble_eq_true rfl) (by show _ ≤ d; omega) ⟨Nat.le_refl _, Nat.le_refl _⟩ (fun e57 μ' hc => ?_)
          obtain ⟨rfl, rfl⟩ := hc
          refine gg_toI (b := 2) rfl ?_
          refine gg_icmp_ge_f (tgt := 165) dX10_measureOf_129 (by decide) (by decide) (by decide) ?_
          refine gg_iload_n dX10_measureOf_132 8 rfl ?_
          refine gg_iload dX10_measureOf_133 2 rfl ?_
          refine gg_aload_n dX10_measureOf_135 5 rfl ?_
          refine gg_iload_n dX10_measureOf_136 6 rfl ?_
          refine gg_iload dX10_measureOf_137 1 rfl ?_
          refine gg_iload_n dX10_measureOf_139 8 rfl ?_
          refine gg_callVi (own := RX10) (yt := gm_X10_measureOf) rfl gl_RX10_293 gk_X10_measureOf gr_X10_measureOf dX10_measureOf_140 (ih (gPt Z i 1) (hc2 (by rw [hk]; decide)) (by have := he2 (by rw [hk]; decide); omega) (d - 1) (by omega)) sh_145 pl_145 (by decide) rfl rfl rfl (Nat.le_of_ble_eq_true rfl) (by show _ ≤ d; omega) ⟨Nat.le_refl _, Nat.le_refl _⟩ (fun e58 μ' hc => ?_)
          obtain ⟨rfl, rfl⟩ := hc
          refine gg_callSi (own := RX10) (yt := gm_X10_join) rfl gl_RX10_296 gk_X10_join gr_X10_join dX10_measureOf_143 (c_X10_join (d := d - 1) (q := q) hq (by first | omega | (have := @gJn_rng q 0 (gDc n q K N Z (i + 1)) 0 9999 (by omega) (by omega); have := @gJn_rng q (gJn q 0 (gDc n q K N Z (i + 1))) (gDc n q K N Z (gPt Z i 1)) 9999 9999 (by omega) (by omega); omega) | (have := @gJn_rng q 0 (gDc n q K N Z (i + 1)) 0 9999 (by omega) (by omega); omega)) (by omega) (by omega)) rfl rfl (Nat.le_of_ble_eq_true rfl) (by show _ ≤ d; omega) ⟨Nat.le_refl _, Nat.le_refl _⟩ (fun e59 μ' hc => ?_)
          obtain ⟨rfl, rfl⟩ := hc
          refine gg_istore (ls' := [(6, .int (iv (gJn q (gJn q 0 (gDc n q K N Z (i + 1))) (gDc n q K N Z (gPt Z i 1))))), (8, .int (iv 1)), (7, .int (iv (gPt Z i 1 : Int))), (5, .int (iv (gDo q 3 (gl2i (N i))))), (4, .int (iv 3)), (0, .ref (gad (gSS ad) 145)), (1, .int (iv (f : Int))), (2, .int (iv (i : Int))), (3, .int (iv (q : Int)))]) dX10_measureOf_146 (by decide) rfl ?_
          refine gg_aload_n dX10_measureOf_148 5 rfl ?_
          refine gg_getR (k' := 173) rfl gf_RX10_23 dX10_measureOf_149 sh_145 pl_145 (by decide) (by decide) rr_145_3 ?_
          refine gg_iload_n dX10_measureOf_152 6 rfl ?_
          refine gg_aaldj (t := 6) f (k' := (174 + f)) dX10_measureOf_153 sh_173 (by decide) pl_173 (by decide) rfl hf (rr_173 hf) ?_
          refine gg_iload dX10_measureOf_154 2 rfl ?_
          refine gg_ialdj (gPt Z i 1) dX10_measureOf_156 (rs_173 hf) (rl_173 hf) (by decide) rfl (by have := hc2 (by rw [hk]; decide); omega) ?_
          refine gg_istore (ls' := [(7, .int (iv (I (174 + f) (gPt Z i 1)))), (6, .int (iv (gJn q (gJn q 0 (gDc n q K N Z (i + 1))) (gDc n q K N Z (gPt Z i 1))))), (8, .int (iv 1)), (5, .int (iv (gDo q 3 (gl2i (N i))))), (4, .int (iv 3)), (0, .ref (gad (gSS ad) 145)), (1, .int (iv (f : Int))), (2, .int (iv (i : Int))), (3, .int (iv (q : Int)))]) dX10_measureOf_157 (by decide) rfl ?_
          refine gg_iincv (ls' := [(8, .int (iv 2)), (7, .int (iv (I (174 + f) (gPt Z i 1)))), (6, .int (iv (gJn q (gJn q 0 (gDc n q K N Z (i + 1))) (gDc n q K N Z (gPt Z i 1))))), (5, .int (iv (gDo q 3 (gl2i (N i))))), (4, .int (iv 3)), (0, .ref (gad (gSS ad) 145)), (1, .int (iv (f : Int))), (2, .int (iv (i : Int))), (3, .int (iv (q : Int)))]) dX10_measureOf_159 2 rfl rfl (by decide) rfl ?_
          refine gg_goto (tgt := 122) dX10_measureOf_162 (by decide) ?_
          refine gg_iload dX10_measureOf_122 0 rfl ?_
          refine gg_iload dX10_measureOf_124 4 rfl ?_
          refine gg_callSi (own := RX10) (yt := gm_X10_parts) rfl gl_RX10_98 gk_X10_parts gr_X10_parts dX10_measureOf_126 (c_X10_parts (d := d - 1) (k := 3) (by omega)) rfl rfl (Nat.le_of_ble_eq_true rfl) (by show _ ≤ d; omega) ⟨Nat.le_refl _, Nat.le_refl _⟩ (fun e60 μ' hc => ?_)
          obtain ⟨rfl, rfl⟩ := hc
          refine gg_toI (b := 2) rfl ?_
          refine gg_icmp_ge_t (tgt := 165) dX10_measureOf_129 (by decide) (by decide) (by decide) ?_
          refine gg_sipush dX10_measureOf_165 (by decide) ?_
          refine gg_iload dX10_measureOf_168 2 rfl ?_
          refine gg_iload dX10_measureOf_170 3 rfl ?_
          refine gg_iadd dX10_measureOf_172 ?_
          refine gg_mmin rfl gl_RX10_299 dX10_measureOf_173 (by first | omega | (have := @gJn_rng q 0 (gDc n q K N Z (i + 1)) 0 9999 (by omega) (by omega); have := @gJn_rng q (gJn q 0 (gDc n q K N Z (i + 1))) (gDc n q K N Z (gPt Z i 1)) 9999 9999 (by omega) (by omega); have := @gJn_rng q (gJn q (gJn q 0 (gDc n q K N Z (i + 1))) (gDc n q K N Z (gPt Z i 1))) (gDc n q K N Z (gPt Z i 2)) 19998 9999 (by omega) (by omega); omega) | (have := @gJn_rng q 0 (gDc n q K N Z (i + 1)) 0 9999 (by omega) (by omega); have := @gJn_rng q (gJn q 0 (gDc n q K N Z (i + 1))) (gDc n q K N Z (gPt Z i 1)) 9999 9999 (by omega) (by omega); omega) | (have := @gJn_rng q 0 (gDc n q K N Z (i + 1)) 0 9999 (by omega) (by omega); omega) | (split <;> omega) | (have := @gJn_rng q 0 (gDc n q K N Z (i + 1)) 0 9999 (by omega) (by omega); split <;> omega)) (Nat.le_of_ble_eq_true rfl) (by omega) ⟨Nat.le_refl _, Nat.le_refl _⟩ ?_
          refine gg_ireti dX10_measureOf_176 rfl ⟨rfl, rfl⟩ ?_
          refine ⟨rfl, ?_⟩
          rw [gDc_is n q K N Z i hi]
          unfold gdF
          rw [hk]
          unfold gDj
          rw [if_neg (show ¬ (q = 4 ∧ 3 = 6) by omega), if_neg (show ¬ (q = 5 ∧ 3 = 7) by omega)]
          exact rfl
    · refine gg_toI (b := 4) (by omega) ?_
      refine gg_istore (ls' := [(4, .int (iv 4)), (0, .ref (gad (gSS ad) 145)), (1, .int (iv (f : Int))), (2, .int (iv (i : Int))), (3, .int (iv (q : Int)))]) dX10_measureOf_8 (by decide) rfl ?_
      have g1 := gD_rng (q := q) hW _ (hc1 (by rw [hk]; decide))
      have g2 := gD_rng (q := q) hW _ (hc2 (by rw [hk]; decide))
      have hor := gDo_rng hW hi q
      rw [hk] at hor
      refine gg_iload_n dX10_measureOf_10 4 rfl ?_
      refine gg_iload dX10_measureOf_11 0 rfl ?_
      refine gg_aload_n dX10_measureOf_13 1 rfl ?_
      refine gg_getR (k' := 160) rfl gf_RX10_20 dX10_measureOf_14 sh_145 pl_145 (by decide) (by decide) rr_145_2 ?_
      refine gg_iload_n dX10_measureOf_17 2 rfl ?_
      refine gg_aaldj (t := 7) f (k' := (161 + f)) dX10_measureOf_18 sh_160 (by decide) pl_160 (by decide) rfl hf (rr_160 hf) ?_
      refine gg_iload_n dX10_measureOf_19 3 rfl ?_
      refine gg_laldj i dX10_measureOf_20 (rs_160 hf) (rl_160 hf) (by decide) rfl (by omega) ?_
      refine gg_toL (b := N i) (hM.2 i hi).2.1 ?_
      refine gg_l2i dX10_measureOf_21 ?_
      refine gg_callSi (own := RX10) (yt := gm_X10_own) rfl gl_RX10_289 gk_X10_own gr_X10_own dX10_measureOf_22 (c_X10_own (d := d - 1) (q := q) (k := 4) hq (by omega)) rfl rfl (Nat.le_of_ble_eq_true rfl) (by show _ ≤ d; omega) ⟨Nat.le_refl _, Nat.le_refl _⟩ (fun e61 μ' hc => ?_)
      obtain ⟨rfl, rfl⟩ := hc
      refine gg_toI (b := gDo q 4 (gl2i (N i))) (if_neg (by omega)) ?_
      refine gg_istore (ls' := [(5, .int (iv (gDo q 4 (gl2i (N i))))), (4, .int (iv 4)), (0, .ref (gad (gSS ad) 145)), (1, .int (iv (f : Int))), (2, .int (iv (i : Int))), (3, .int (iv (q : Int)))]) dX10_measureOf_25 (by decide) rfl ?_
      refine gg_iconst dX10_measureOf_27 ?_
      refine gg_istore (ls' := [(6, .int (iv 0)), (5, .int (iv (gDo q 4 (gl2i (N i))))), (4, .int (iv 4)), (0, .ref (gad (gSS ad) 145)), (1, .int (iv (f : Int))), (2, .int (iv (i : Int))), (3, .int (iv (q : Int)))]) dX10_measureOf_28 (by decide) rfl ?_
      refine gg_iload_n dX10_measureOf_30 6 rfl ?_
      refine gg_iconst dX10_measureOf_31 ?_
      refine gg_icmp_ne (tgt := 84) dX10_measureOf_32 (by decide) (by omega) (fun hb62 => ?_) (fun hb62 => ?_)
      · refine gg_iload_n dX10_measureOf_84 6 rfl ?_
        refine gg_iconst dX10_measureOf_85 ?_
        refine gg_icmp_ne (tgt := 114) dX10_measureOf_86 (by decide) (by omega) (fun hq5 => ?_) (fun hq5 => ?_)
        · refine gg_iload_n dX10_measureOf_114 5 rfl ?_
          refine gg_iconst dX10_measureOf_115 ?_
          refine gg_iadd dX10_measureOf_116 ?_
          refine gg_toI (b := ((i + 1 : Nat) : Int)) (by omega) ?_
          refine gg_istore (ls' := [(7, .int (iv ((i + 1 : Nat) : Int))), (6, .int (iv 0)), (5, .int (iv (gDo q 4 (gl2i (N i))))), (4, .int (iv 4)), (0, .ref (gad (gSS ad) 145)), (1, .int (iv (f : Int))), (2, .int (iv (i : Int))), (3, .int (iv (q : Int)))]) dX10_measureOf_117 (by decide) rfl ?_
          refine gg_iconst dX10_measureOf_119 ?_
          refine gg_istore (ls' := [(8, .int (iv 0)), (7, .int (iv ((i + 1 : Nat) : Int))), (6, .int (iv 0)), (5, .int (iv (gDo q 4 (gl2i (N i))))), (4, .int (iv 4)), (0, .ref (gad (gSS ad) 145)), (1, .int (iv (f : Int))), (2, .int (iv (i : Int))), (3, .int (iv (q : Int)))]) dX10_measureOf_120 (by decide) rfl ?_
          refine gg_iload dX10_measureOf_122 0 rfl ?_
          refine gg_iload dX10_measureOf_124 4 rfl ?_
          refine gg_callSi (own := RX10) (yt := gm_X10_parts) rfl gl_RX10_98 gk_X10_parts gr_X10_parts dX10_measureOf_126 (c_X10_parts (d := d - 1) (k := 4) (by omega)) rfl rfl (Nat.le_of_ble_eq_true rfl) (by show _ ≤ d; omega) ⟨Nat.le_refl _, Nat.le_refl _⟩ (fun e63 μ' hc => ?_)
          obtain ⟨rfl, rfl⟩ := hc
          refine gg_toI (b := 2) rfl ?_
          refine gg_icmp_ge_f (tgt := 165) dX10_measureOf_129 (by decide) (by decide) (by decide) ?_
          refine gg_iload_n dX10_measureOf_132 8 rfl ?_
          refine gg_iload dX10_measureOf_133 2 rfl ?_
          refine gg_aload_n dX10_measureOf_135 5 rfl ?_
          refine gg_iload_n dX10_measureOf_136 6 rfl ?_
          refine gg_iload dX10_measureOf_137 1 rfl ?_
          refine gg_iload_n dX10_measureOf_139 8 rfl ?_
          refine gg_callVi (own := RX10) (yt := gm_X10_measureOf) rfl gl_RX10_293 gk_X10_measureOf gr_X10_measureOf dX10_measureOf_140 (ih (i + 1) (hc1 (by rw [hk]; decide)) (by have := he2 (by rw [hk]; decide); omega) (d - 1) (by omega)) sh_145 pl_145 (by decide) rfl rfl rfl (Nat.le_of_ble_eq_true rfl) (by show _ ≤ d; omega) ⟨Nat.le_refl _, Nat.le_refl _⟩ (fun e64 μ' hc => ?_)
          obtain ⟨rfl, rfl⟩ := hc
          refine gg_callSi (own := RX10) (yt := gm_X10_join) rfl gl_RX10_296 gk_X10_join gr_X10_join dX10_measureOf_143 (c_X10_join (d := d - 1) (q := q) hq (by first | omega | (have := @gJn_rng q 0 (gDc n q K N Z (i + 1)) 0 9999 (by omega) (by omega); have := @gJn_rng q (gJn q 0 (gDc n q K N Z (i + 1))) (gDc n q K N Z (gPt Z i 1)) 9999 9999 (by omega) (by omega); omega) | (have := @gJn_rng q 0 (gDc n q K N Z (i + 1)) 0 9999 (by omega) (by omega); omega)) (by omega) (by omega)) rfl rfl (Nat.le_of_ble_eq_true rfl) (by show _ ≤ d; omega) ⟨Nat.le_refl _, Nat.le_refl _⟩ (fun e65 μ' hc => ?_)
          obtain ⟨rfl, rfl⟩ := hc
          refine gg_istore (ls' := [(6, .int (iv (gJn q 0 (gDc n q K N Z (i + 1))))), (8, .int (iv 0)), (7, .int (iv ((i + 1 : Nat) : Int))), (5, .int (iv (gDo q 4 (gl2i (N i))))), (4, .int (iv 4)), (0, .ref (gad (gSS ad) 145)), (1, .int (iv (f : Int))), (2, .int (iv (i : Int))), (3, .int (iv (q : Int)))]) dX10_measureOf_146 (by decide) rfl ?_
          refine gg_aload_n dX10_measureOf_148 5 rfl ?_
          refine gg_getR (k' := 173) rfl gf_RX10_23 dX10_measureOf_149 sh_145 pl_145 (by decide) (by decide) rr_145_3 ?_
          refine gg_iload_n dX10_measureOf_152 6 rfl ?_
          refine gg_aaldj (t := 6) f (k' := (174 + f)) dX10_measureOf_153 sh_173 (by decide) pl_173 (by decide) rfl hf (rr_173 hf) ?_
          refine gg_iload dX10_measureOf_154 2 rfl ?_
          refine gg_ialdj (i + 1) dX10_measureOf_156 (rs_173 hf) (rl_173 hf) (by decide) rfl (by have := hc1 (by rw [hk]; decide); omega) ?_
          refine gg_toI (b := (gPt Z i 1 : Int)) (by have := (hM.2 (i + 1) (hc1 (by rw [hk]; decide))).2.2; simp only [gPt] at this ⊢; omega) ?_
          refine gg_istore (ls' := [(7, .int (iv (gPt Z i 1 : Int))), (6, .int (iv (gJn q 0 (gDc n q K N Z (i + 1))))), (8, .int (iv 0)), (5, .int (iv (gDo q 4 (gl2i (N i))))), (4, .int (iv 4)), (0, .ref (gad (gSS ad) 145)), (1, .int (iv (f : Int))), (2, .int (iv (i : Int))), (3, .int (iv (q : Int)))]) dX10_measureOf_157 (by decide) rfl ?_
          refine gg_iincv (ls' := [(8, .int (iv 1)), (7, .int (iv (gPt Z i 1 : Int))), (6, .int (iv (gJn q 0 (gDc n q K N Z (i + 1))))), (5, .int (iv (gDo q 4 (gl2i (N i))))), (4, .int (iv 4)), (0, .ref (gad (gSS ad) 145)), (1, .int (iv (f : Int))), (2, .int (iv (i : Int))), (3, .int (iv (q : Int)))]) dX10_measureOf_159 2 rfl rfl (by decide) rfl ?_
          refine gg_goto (tgt := 122) dX10_measureOf_162 (by decide) ?_
          refine gg_iload dX10_measureOf_122 0 rfl ?_
          refine gg_iload dX10_measureOf_124 4 rfl ?_
          refine gg_callSi (own := RX10) (yt := gm_X10_parts) rfl gl_RX10_98 gk_X10_parts gr_X10_parts dX10_measureOf_126 (c_X10_parts (d := d - 1) (k := 4) (by omega)) rfl rfl (Nat.le_of_ble_eq_true rfl) (by show _ ≤ d; omega) ⟨Nat.le_refl _, Nat.le_refl _⟩ (fun e66 μ' hc => ?_)
          obtain ⟨rfl, rfl⟩ := hc
          refine gg_toI (b := 2) rfl ?_
          refine gg_icmp_ge_f (tgt := 165) dX10_measureOf_129 (by decide) (by decide) (by decide) ?_
          refine gg_iload_n dX10_measureOf_132 8 rfl ?_
          refine gg_iload dX10_measureOf_133 2 rfl ?_
          refine gg_aload_n dX10_measureOf_135 5 rfl ?_
          refine gg_iload_n dX10_measureOf_136 6 rfl ?_
          refine gg_iload dX10_measureOf_137 1 rfl ?_
          refine gg_iload_n dX10_measureOf_139 8 rfl ?_
          refine gg_callVi (own := RX10) (yt := gm_X10_measureOf) rfl gl_RX10_293 gk_X10_measureOf gr_X10_measureOf dX10_measureOf_140 (ih (gPt Z i 1) (hc2 (by rw [hk]; decide)) (by have := he2 (by rw [hk]; decide); omega) (d - 1) (by omega)) sh_145 pl_145 (by decide) rfl rfl rfl (Nat.le_of_ble_eq_true rfl) (by show _ ≤ d; omega) ⟨Nat.le_refl _, Nat.le_refl _⟩ (fun e67 μ' hc => ?_)
          obtain ⟨rfl, rfl⟩ := hc
          refine gg_callSi (own := RX10) (yt := gm_X10_join) rfl gl_RX10_296 gk_X10_join gr_X10_join dX10_measureOf_143 (c_X10_join (d := d - 1) (q := q) hq (by first | omega | (have := @gJn_rng q 0 (gDc n q K N Z (i + 1)) 0 9999 (by omega) (by omega); have := @gJn_rng q (gJn q 0 (gDc n q K N Z (i + 1))) (gDc n q K N Z (gPt Z i 1)) 9999 9999 (by omega) (by omega); omega) | (have := @gJn_rng q 0 (gDc n q K N Z (i + 1)) 0 9999 (by omega) (by omega); omega)) (by omega) (by omega)) rfl rfl (Nat.le_of_ble_eq_true rfl) (by show _ ≤ d; omega) ⟨Nat.le_refl _, Nat.le_refl _⟩ (fun e68 μ' hc => ?_)
          obtain ⟨rfl, rfl⟩ := hc
          refine gg_istore (ls' := [(6, .int (iv (gJn q (gJn q 0 (gDc n q K N Z (i + 1))) (gDc n q K N Z (gPt Z i 1))))), (8, .int (iv 1)), (7, .int (iv (gPt Z i 1 : Int))), (5, .int (iv (gDo q 4 (gl2i (N i))))), (4, .int (iv 4)), (0, .ref (gad (gSS ad) 145)), (1, .int (iv (f : Int))), (2, .int (iv (i : Int))), (3, .int (iv (q : Int)))]) dX10_measureOf_146 (by decide) rfl ?_
          refine gg_aload_n dX10_measureOf_148 5 rfl ?_
          refine gg_getR (k' := 173) rfl gf_RX10_23 dX10_measureOf_149 sh_145 pl_145 (by decide) (by decide) rr_145_3 ?_
          refine gg_iload_n dX10_measureOf_152 6 rfl ?_
          refine gg_aaldj (t := 6) f (k' := (174 + f)) dX10_measureOf_153 sh_173 (by decide) pl_173 (by decide) rfl hf (rr_173 hf) ?_
          refine gg_iload dX10_measureOf_154 2 rfl ?_
          refine gg_ialdj (gPt Z i 1) dX10_measureOf_156 (rs_173 hf) (rl_173 hf) (by decide) rfl (by have := hc2 (by rw [hk]; decide); omega) ?_
          refine gg_istore (ls' := [(7, .int (iv (I (174 + f) (gPt Z i 1)))), (6, .int (iv (gJn q (gJn q 0 (gDc n q K N Z (i + 1))) (gDc n q K N Z (gPt Z i 1))))), (8, .int (iv 1)), (5, .int (iv (gDo q 4 (gl2i (N i))))), (4, .int (iv 4)), (0, .ref (gad (gSS ad) 145)), (1, .int (iv (f : Int))), (2, .int (iv (i : Int))), (3, .int (iv (q : Int)))]) dX10_measureOf_157 (by decide) rfl ?_
          refine gg_iincv (ls' := [(8, .int (iv 2)), (7, .int (iv (I (174 + f) (gPt Z i 1)))), (6, .int (iv (gJn q (gJn q 0 (gDc n q K N Z (i + 1))) (gDc n q K N Z (gPt Z i 1))))), (5, .int (iv (gDo q 4 (gl2i (N i))))), (4, .int (iv 4)), (0, .ref (gad (gSS ad) 145)), (1, .int (iv (f : Int))), (2, .int (iv (i : Int))), (3, .int (iv (q : Int)))]) dX10_measureOf_159 2 rfl rfl (by decide) rfl ?_
          refine gg_goto (tgt := 122) dX10_measureOf_162 (by decide) ?_
          refine gg_iload dX10_measureOf_122 0 rfl ?_
          refine gg_iload dX10_measureOf_124 4 rfl ?_
          refine gg_callSi (own := RX10) (yt := gm_X10_parts) rfl gl_RX10_98 gk_X10_parts gr_X10_parts dX10_measureOf_126 (c_X10_parts (d := d - 1) (k := 4) (by omega)) rfl rfl (Nat.le_of_ble_eq_true rfl) (by show _ ≤ d; omega) ⟨Nat.le_refl _, Nat.le_refl _⟩ (fun e69 μ' hc => ?_)
          obtain ⟨rfl, rfl⟩ := hc
          refine gg_toI (b := 2) rfl ?_
          refine gg_icmp_ge_t (tgt := 165) dX10_measureOf_129 (by decide) (by decide) (by decide) ?_
          refine gg_sipush dX10_measureOf_165 (by decide) ?_
          refine gg_iload dX10_measureOf_168 2 rfl ?_
          refine gg_iload dX10_measureOf_170 3 rfl ?_
          refine gg_iadd dX10_measureOf_172 ?_
          refine gg_mmin rfl gl_RX10_299 dX10_measureOf_173 (by first | omega | (have := @gJn_rng q 0 (gDc n q K N Z (i + 1)) 0 9999 (by omega) (by omega); have := @gJn_rng q (gJn q 0 (gDc n q K N Z (i + 1))) (gDc n q K N Z (gPt Z i 1)) 9999 9999 (by omega) (by omega); have := @gJn_rng q (gJn q (gJn q 0 (gDc n q K N Z (i + 1))) (gDc n q K N Z (gPt Z i 1))) (gDc n q K N Z (gPt Z i 2)) 19998 9999 (by omega) (by omega); omega) | (have := @gJn_rng q 0 (gDc n q K N Z (i + 1)) 0 9999 (by omega) (by omega); have := @gJn_rng q (gJn q 0 (gDc n q K N Z (i + 1))) (gDc n q K N Z (gPt Z i 1)) 9999 9999 (by omega) (by omega); omega) | (have := @gJn_rng q 0 (gDc n q K N Z (i + 1)) 0 9999 (by omega) (by omega); omega) | (split <;> omega) | (have := @gJn_rng q 0 (gDc n q K N Z (i + 1)) 0 9999 (by omega) (by omega); split <;> omega)) (Nat.le_of_ble_eq_true rfl) (by omega) ⟨Nat.le_refl _, Nat.le_refl _⟩ ?_
          refine gg_ireti dX10_measureOf_176 rfl ⟨rfl, rfl⟩ ?_
          refine ⟨rfl, ?_⟩
          rw [gDc_is n q K N Z i hi]
          unfold gdF
          rw [hk]
          unfold gDj
          rw [if_neg (show ¬ (q = 4 ∧ 4 = 6) by omega), if_neg (show ¬ (q = 5 ∧ 4 = 7) by omega)]
          exact rfl
        · refine gg_iload dX10_measureOf_89 2 rfl ?_
          refine gg_bipush dX10_measureOf_91 (by decide) ?_
          refine gg_icmp_ne_t (tgt := 114) dX10_measureOf_93 (by decide) (by decide) (by decide) ?_
          refine gg_iload_n dX10_measureOf_114 5 rfl ?_
          refine gg_iconst dX10_measureOf_115 ?_
          refine gg_iadd dX10_measureOf_116 ?_
          refine gg_toI (b := ((i + 1 : Nat) : Int)) (by omega) ?_
          refine gg_istore (ls' := [(7, .int (iv ((i + 1 : Nat) : Int))), (6, .int (iv 0)), (5, .int (iv (gDo q 4 (gl2i (N i))))), (4, .int (iv 4)), (0, .ref (gad (gSS ad) 145)), (1, .int (iv (f : Int))), (2, .int (iv (i : Int))), (3, .int (iv (q : Int)))]) dX10_measureOf_117 (by decide) rfl ?_
          refine gg_iconst dX10_measureOf_119 ?_
          refine gg_istore (ls' := [(8, .int (iv 0)), (7, .int (iv ((i + 1 : Nat) : Int))), (6, .int (iv 0)), (5, .int (iv (gDo q 4 (gl2i (N i))))), (4, .int (iv 4)), (0, .ref (gad (gSS ad) 145)), (1, .int (iv (f : Int))), (2, .int (iv (i : Int))), (3, .int (iv (q : Int)))]) dX10_measureOf_120 (by decide) rfl ?_
          refine gg_iload dX10_measureOf_122 0 rfl ?_
          refine gg_iload dX10_measureOf_124 4 rfl ?_
          refine gg_callSi (own := RX10) (yt := gm_X10_parts) rfl gl_RX10_98 gk_X10_parts gr_X10_parts dX10_measureOf_126 (c_X10_parts (d := d - 1) (k := 4) (by omega)) rfl rfl (Nat.le_of_ble_eq_true rfl) (by show _ ≤ d; omega) ⟨Nat.le_refl _, Nat.le_refl _⟩ (fun e70 μ' hc => ?_)
          obtain ⟨rfl, rfl⟩ := hc
          refine gg_toI (b := 2) rfl ?_
          refine gg_icmp_ge_f (tgt := 165) dX10_measureOf_129 (by decide) (by decide) (by decide) ?_
          refine gg_iload_n dX10_measureOf_132 8 rfl ?_
          refine gg_iload dX10_measureOf_133 2 rfl ?_
          refine gg_aload_n dX10_measureOf_135 5 rfl ?_
          refine gg_iload_n dX10_measureOf_136 6 rfl ?_
          refine gg_iload dX10_measureOf_137 1 rfl ?_
          refine gg_iload_n dX10_measureOf_139 8 rfl ?_
          refine gg_callVi (own := RX10) (yt := gm_X10_measureOf) rfl gl_RX10_293 gk_X10_measureOf gr_X10_measureOf dX10_measureOf_140 (ih (i + 1) (hc1 (by rw [hk]; decide)) (by have := he2 (by rw [hk]; decide); omega) (d - 1) (by omega)) sh_145 pl_145 (by decide) rfl rfl rfl (Nat.le_of_ble_eq_true rfl) (by show _ ≤ d; omega) ⟨Nat.le_refl _, Nat.le_refl _⟩ (fun e71 μ' hc => ?_)
          obtain ⟨rfl, rfl⟩ := hc
          refine gg_callSi (own := RX10) (yt := gm_X10_join) rfl gl_RX10_296 gk_X10_join gr_X10_join dX10_measureOf_143 (c_X10_join (d := d - 1) (q := q) hq (by first | omega | (have := @gJn_rng q 0 (gDc n q K N Z (i + 1)) 0 9999 (by omega) (by omega); have := @gJn_rng q (gJn q 0 (gDc n q K N Z (i + 1))) (gDc n q K N Z (gPt Z i 1)) 9999 9999 (by omega) (by omega); omega) | (have := @gJn_rng q 0 (gDc n q K N Z (i + 1)) 0 9999 (by omega) (by omega); omega)) (by omega) (by omega)) rfl rfl (Nat.le_of_ble_eq_true rfl) (by show _ ≤ d; omega) ⟨Nat.le_refl _, Nat.le_refl _⟩ (fun e72 μ' hc => ?_)
          obtain ⟨rfl, rfl⟩ := hc
          refine gg_istore (ls' := [(6, .int (iv (gJn q 0 (gDc n q K N Z (i + 1))))), (8, .int (iv 0)), (7, .int (iv ((i + 1 : Nat) : Int))), (5, .int (iv (gDo q 4 (gl2i (N i))))), (4, .int (iv 4)), (0, .ref (gad (gSS ad) 145)), (1, .int (iv (f : Int))), (2, .int (iv (i : Int))), (3, .int (iv (q : Int)))]) dX10_measureOf_146 (by decide) rfl ?_
          refine gg_aload_n dX10_measureOf_148 5 rfl ?_
          refine gg_getR (k' := 173) rfl gf_RX10_23 dX10_measureOf_149 sh_145 pl_145 (by decide) (by decide) rr_145_3 ?_
          refine gg_iload_n dX10_measureOf_152 6 rfl ?_
          refine gg_aaldj (t := 6) f (k' := (174 + f)) dX10_measureOf_153 sh_173 (by decide) pl_173 (by decide) rfl hf (rr_173 hf) ?_
          refine gg_iload dX10_measureOf_154 2 rfl ?_
          refine gg_ialdj (i + 1) dX10_measureOf_156 (rs_173 hf) (rl_173 hf) (by decide) rfl (by have := hc1 (by rw [hk]; decide); omega) ?_
          refine gg_toI (b := (gPt Z i 1 : Int)) (by have := (hM.2 (i + 1) (hc1 (by rw [hk]; decide))).2.2; simp only [gPt] at this ⊢; omega) ?_
          refine gg_istore (ls' := [(7, .int (iv (gPt Z i 1 : Int))), (6, .int (iv (gJn q 0 (gDc n q K N Z (i + 1))))), (8, .int (iv 0)), (5, .int (iv (gDo q 4 (gl2i (N i))))), (4, .int (iv 4)), (0, .ref (gad (gSS ad) 145)), (1, .int (iv (f : Int))), (2, .int (iv (i : Int))), (3, .int (iv (q : Int)))]) dX10_measureOf_157 (by decide) rfl ?_
          refine gg_iincv (ls' := [(8, .int (iv 1)), (7, .int (iv (gPt Z i 1 : Int))), (6, .int (iv (gJn q 0 (gDc n q K N Z (i + 1))))), (5, .int (iv (gDo q 4 (gl2i (N i))))), (4, .int (iv 4)), (0, .ref (gad (gSS ad) 145)), (1, .int (iv (f : Int))), (2, .int (iv (i : Int))), (3, .int (iv (q : Int)))]) dX10_measureOf_159 2 rfl rfl (by decide) rfl ?_
          refine gg_goto (tgt := 122) dX10_measureOf_162 (by decide) ?_
          refine gg_iload dX10_measureOf_122 0 rfl ?_
          refine gg_iload dX10_measureOf_124 4 rfl ?_
          refine gg_callSi (own := RX10) (yt := gm_X10_parts) rfl gl_RX10_98 gk_X10_parts gr_X10_parts dX10_measureOf_126 (c_X10_parts (d := d - 1) (k := 4) (by omega)) rfl rfl (Nat.le_of_ble_eq_true rfl) (by show _ ≤ d; omega) ⟨Nat.le_refl _, Nat.le_refl _⟩ (fun e73 μ' hc => ?_)
          obtain ⟨rfl, rfl⟩ := hc
          refine gg_toI (b := 2) rfl ?_
          refine gg_icmp_ge_f (tgt := 165) dX10_measureOf_129 (by decide) (by decide) (by decide) ?_
          refine gg_iload_n dX10_measureOf_132 8 rfl ?_
          refine gg_iload dX10_measureOf_133 2 rfl ?_
          refine gg_aload_n dX10_measureOf_135 5 rfl ?_
          refine gg_iload_n dX10_measureOf_136 6 rfl ?_
          refine gg_iload dX10_measureOf_137 1 rfl ?_
          refine gg_iload_n dX10_measureOf_139 8 rfl ?_
          refine gg_callVi (own := RX10) (yt := gm_X10_measureOf) rfl gl_RX10_293 gk_X10_measureOf gr_X10_measureOf dX10_measureOf_140 (ih (gPt Z i 1) (hc2 (by rw [hk]; decide)) (by have := he2 (by rw [hk]; decide); omega) (d - 1) (by omega)) sh_145 pl_145 (by decide) rfl rfl rfl (Nat.le_of_ble_eq_true rfl) (by show _ ≤ d; omega) ⟨Nat.le_refl _, Nat.le_refl _⟩ (fun e74 μ' hc => ?_)
          obtain ⟨rfl, rfl⟩ := hc
          refine gg_callSi (own := RX10) (yt := gm_X10_join) rfl gl_RX10_296 gk_X10_join gr_X10_join dX10_measureOf_143 (c_X10_join (d := d - 1) (q := q) hq (by first | omega | (have := @gJn_rng q 0 (gDc n q K N Z (i + 1)) 0 9999 (by omega) (by omega); have := @gJn_rng q (gJn q 0 (gDc n q K N Z (i + 1))) (gDc n q K N Z (gPt Z i 1)) 9999 9999 (by omega) (by omega); omega) | (have := @gJn_rng q 0 (gDc n q K N Z (i + 1)) 0 9999 (by omega) (by omega); omega)) (by omega) (by omega)) rfl rfl (Nat.le_of_ble_eq_true rfl) (by show _ ≤ d; omega) ⟨Nat.le_refl _, Nat.le_refl _⟩ (fun e75 μ' hc => ?_)
          obtain ⟨rfl, rfl⟩ := hc
          refine gg_istore (ls' := [(6, .int (iv (gJn q (gJn q 0 (gDc n q K N Z (i + 1))) (gDc n q K N Z (gPt Z i 1))))), (8, .int (iv 1)), (7, .int (iv (gPt Z i 1 : Int))), (5, .int (iv (gDo q 4 (gl2i (N i))))), (4, .int (iv 4)), (0, .ref (gad (gSS ad) 145)), (1, .int (iv (f : Int))), (2, .int (iv (i : Int))), (3, .int (iv (q : Int)))]) dX10_measureOf_146 (by decide) rfl ?_
          refine gg_aload_n dX10_measureOf_148 5 rfl ?_
          refine gg_getR (k' := 173) rfl gf_RX10_23 dX10_measureOf_149 sh_145 pl_145 (by decide) (by decide) rr_145_3 ?_
          refine gg_iload_n dX10_measureOf_152 6 rfl ?_
          refine gg_aaldj (t := 6) f (k' := (174 + f)) dX10_measureOf_153 sh_173 (by decide) pl_173 (by decide) rfl hf (rr_173 hf) ?_
          refine gg_iload dX10_measureOf_154 2 rfl ?_
          refine gg_ialdj (gPt Z i 1) dX10_measureOf_156 (rs_173 hf) (rl_173 hf) (by decide) rfl (by have := hc2 (by rw [hk]; decide); omega) ?_
          refine gg_istore (ls' := [(7, .int (iv (I (174 + f) (gPt Z i 1)))), (6, .int (iv (gJn q (gJn q 0 (gDc n q K N Z (i + 1))) (gDc n q K N Z (gPt Z i 1))))), (8, .int (iv 1)), (5, .int (iv (gDo q 4 (gl2i (N i))))), (4, .int (iv 4)), (0, .ref (gad (gSS ad) 145)), (1, .int (iv (f : Int))), (2, .int (iv (i : Int))), (3, .int (iv (q : Int)))]) dX10_measureOf_157 (by decide) rfl ?_
          refine gg_iincv (ls' := [(8, .int (iv 2)), (7, .int (iv (I (174 + f) (gPt Z i 1)))), (6, .int (iv (gJn q (gJn q 0 (gDc n q K N Z (i + 1))) (gDc n q K N Z (gPt Z i 1))))), (5, .int (iv (gDo q 4 (gl2i (N i))))), (4, .int (iv 4)), (0, .ref (gad (gSS ad) 145)), (1, .int (iv (f : Int))), (2, .int (iv (i : Int))), (3, .int (iv (q : Int)))]) dX10_measureOf_159 2 rfl rfl (by decide) rfl ?_
          refine gg_goto (tgt := 122) dX10_measureOf_162 (by decide) ?_
          refine gg_iload dX10_measureOf_122 0 rfl ?_
          refine gg_iload dX10_measureOf_124 4 rfl ?_
          refine gg_callSi (own := RX10) (yt := gm_X10_parts) rfl gl_RX10_98 gk_X10_parts gr_X10_parts dX10_measureOf_126 (c_X10_parts (d := d - 1) (k := 4) (by omega)) rfl rfl (Nat.le_of_ble_eq_true rfl) (by show _ ≤ d; omega) ⟨Nat.le_refl _, Nat.le_refl _⟩ (fun e76 μ' hc => ?_)
          obtain ⟨rfl, rfl⟩ := hc
          refine gg_toI (b := 2) rfl ?_
          refine gg_icmp_ge_t (tgt := 165) dX10_measureOf_129 (by decide) (by decide) (by decide) ?_
          refine gg_sipush dX10_measureOf_165 (by decide) ?_
          refine gg_iload dX10_measureOf_168 2 rfl ?_
          refine gg_iload dX10_measureOf_170 3 rfl ?_
          refine gg_iadd dX10_measureOf_172 ?_
          refine gg_mmin rfl gl_RX10_299 dX10_measureOf_173 (by first | omega | (have := @gJn_rng q 0 (gDc n q K N Z (i + 1)) 0 9999 (by omega) (by omega); have := @gJn_rng q (gJn q 0 (gDc n q K N Z (i + 1))) (gDc n q K N Z (gPt Z i 1)) 9999 9999 (by omega) (by omega); have := @gJn_rng q (gJn q (gJn q 0 (gDc n q K N Z (i + 1))) (gDc n q K N Z (gPt Z i 1))) (gDc n q K N Z (gPt Z i 2)) 19998 9999 (by omega) (by omega); omega) | (have := @gJn_rng q 0 (gDc n q K N Z (i + 1)) 0 9999 (by omega) (by omega); have := @gJn_rng q (gJn q 0 (gDc n q K N Z (i + 1))) (gDc n q K N Z (gPt Z i 1)) 9999 9999 (by omega) (by omega); omega) | (have := @gJn_rng q 0 (gDc n q K N Z (i + 1)) 0 9999 (by omega) (by omega); omega) | (split <;> omega) | (have := @gJn_rng q 0 (gDc n q K N Z (i + 1)) 0 9999 (by omega) (by omega); split <;> omega)) (Nat.le_of_ble_eq_true rfl) (by omega) ⟨Nat.le_refl _, Nat.le_refl _⟩ ?_
          refine gg_ireti dX10_measureOf_176 rfl ⟨rfl, rfl⟩ ?_
          refine ⟨rfl, ?_⟩
          rw [gDc_is n q K N Z i hi]
          unfold gdF
          rw [hk]
          unfold gDj
          rw [if_neg (show ¬ (q = 4 ∧ 4 = 6) by omega), if_neg (show ¬ (q = 5 ∧ 4 = 7) by omega)]
          exact rfl
      · refine gg_iload dX10_measureOf_35 2 rfl ?_
        refine gg_bipush dX10_measureOf_37 (by decide) ?_
        refine gg_icmp_ne_t (tgt := 84) dX10_measureOf_39 (by decide) (by decide) (by decide) ?_
        refine gg_iload_n dX10_measureOf_84 6 rfl ?_
        refine gg_iconst dX10_measureOf_85 ?_
        refine gg_icmp_ne (tgt := 114) dX10_measureOf_86 (by decide) (by omega) (fun hq5 => ?_) (fun hq5 => ?_)
        · refine gg_iload_n dX10_measureOf_114 5 rfl ?_
          refine gg_iconst dX10_measureOf_115 ?_
          refine gg_iadd dX10_measureOf_116 ?_
          refine gg_toI (b := ((i + 1 : Nat) : Int)) (by omega) ?_
          refine gg_istore (ls' := [(7, .int (iv ((i + 1 : Nat) : Int))), (6, .int (iv 0)), (5, .int (iv (gDo q 4 (gl2i (N i))))), (4, .int (iv 4)), (0, .ref (gad (gSS ad) 145)), (1, .int (iv (f : Int))), (2, .int (iv (i : Int))), (3, .int (iv (q : Int)))]) dX10_measureOf_117 (by decide) rfl ?_
          refine gg_iconst dX10_measureOf_119 ?_
          refine gg_istore (ls' := [(8, .int (iv 0)), (7, .int (iv ((i + 1 : Nat) : Int))), (6, .int (iv 0)), (5, .int (iv (gDo q 4 (gl2i (N i))))), (4, .int (iv 4)), (0, .ref (gad (gSS ad) 145)), (1, .int (iv (f : Int))), (2, .int (iv (i : Int))), (3, .int (iv (q : Int)))]) dX10_measureOf_120 (by decide) rfl ?_
          refine gg_iload dX10_measureOf_122 0 rfl ?_
          refine gg_iload dX10_measureOf_124 4 rfl ?_
          refine gg_callSi (own := RX10) (yt := gm_X10_parts) rfl gl_RX10_98 gk_X10_parts gr_X10_parts dX10_measureOf_126 (c_X10_parts (d := d - 1) (k := 4) (by omega)) rfl rfl (Nat.le_of_ble_eq_true rfl) (by show _ ≤ d; omega) ⟨Nat.le_refl _, Nat.le_refl _⟩ (fun e77 μ' hc => ?_)
          obtain ⟨rfl, rfl⟩ := hc
          refine gg_toI (b := 2) rfl ?_
          refine gg_icmp_ge_f (tgt := 165) dX10_measureOf_129 (by decide) (by decide) (by decide) ?_
          refine gg_iload_n dX10_measureOf_132 8 rfl ?_
          refine gg_iload dX10_measureOf_133 2 rfl ?_
          refine gg_aload_n dX10_measureOf_135 5 rfl ?_
          refine gg_iload_n dX10_measureOf_136 6 rfl ?_
          refine gg_iload dX10_measureOf_137 1 rfl ?_
          refine gg_iload_n dX10_measureOf_139 8 rfl ?_
          refine gg_callVi (own := RX10) (yt := gm_X10_measureOf) rfl gl_RX10_293 gk_X10_measureOf gr_X10_measureOf dX10_measureOf_140 (ih (i + 1) (hc1 (by rw [hk]; decide)) (by have := he2 (by rw [hk]; decide); omega) (d - 1) (by omega)) sh_145 pl_145 (by decide) rfl rfl rfl (Nat.le_of_ble_eq_true rfl) (by show _ ≤ d; omega) ⟨Nat.le_refl _, Nat.le_refl _⟩ (fun e78 μ' hc => ?_)
          obtain ⟨rfl, rfl⟩ := hc
          refine gg_callSi (own := RX10) (yt := gm_X10_join) rfl gl_RX10_296 gk_X10_join gr_X10_join dX10_measureOf_143 (c_X10_join (d := d - 1) (q := q) hq (by first | omega | (have := @gJn_rng q 0 (gDc n q K N Z (i + 1)) 0 9999 (by omega) (by omega); have := @gJn_rng q (gJn q 0 (gDc n q K N Z (i + 1))) (gDc n q K N Z (gPt Z i 1)) 9999 9999 (by omega) (by omega); omega) | (have := @gJn_rng q 0 (gDc n q K N Z (i + 1)) 0 9999 (by omega) (by omega); omega)) (by omega) (by omega)) rfl rfl (Nat.le_of_ble_eq_true rfl) (by show _ ≤ d; omega) ⟨Nat.le_refl _, Nat.le_refl _⟩ (fun e79 μ' hc => ?_)
          obtain ⟨rfl, rfl⟩ := hc
          refine gg_istore (ls' := [(6, .int (iv (gJn q 0 (gDc n q K N Z (i + 1))))), (8, .int (iv 0)), (7, .int (iv ((i + 1 : Nat) : Int))), (5, .int (iv (gDo q 4 (gl2i (N i))))), (4, .int (iv 4)), (0, .ref (gad (gSS ad) 145)), (1, .int (iv (f : Int))), (2, .int (iv (i : Int))), (3, .int (iv (q : Int)))]) dX10_measureOf_146 (by decide) rfl ?_
          refine gg_aload_n dX10_measureOf_148 5 rfl ?_
          refine gg_getR (k' := 173) rfl gf_RX10_23 dX10_measureOf_149 sh_145 pl_145 (by decide) (by decide) rr_145_3 ?_
          refine gg_iload_n dX10_measureOf_152 6 rfl ?_
          refine gg_aaldj (t := 6) f (k' := (174 + f)) dX10_measureOf_153 sh_173 (by decide) pl_173 (by decide) rfl hf (rr_173 hf) ?_
          refine gg_iload dX10_measureOf_154 2 rfl ?_
          refine gg_ialdj (i + 1) dX10_measureOf_156 (rs_173 hf) (rl_173 hf) (by decide) rfl (by have := hc1 (by rw [hk]; decide); omega) ?_
          refine gg_toI (b := (gPt Z i 1 : Int)) (by have := (hM.2 (i + 1) (hc1 (by rw [hk]; decide))).2.2; simp only [gPt] at this ⊢; omega) ?_
          refine gg_istore (ls' := [(7, .int (iv (gPt Z i 1 : Int))), (6, .int (iv (gJn q 0 (gDc n q K N Z (i + 1))))), (8, .int (iv 0)), (5, .int (iv (gDo q 4 (gl2i (N i))))), (4, .int (iv 4)), (0, .ref (gad (gSS ad) 145)), (1, .int (iv (f : Int))), (2, .int (iv (i : Int))), (3, .int (iv (q : Int)))]) dX10_measureOf_157 (by decide) rfl ?_
          refine gg_iincv (ls' := [(8, .int (iv 1)), (7, .int (iv (gPt Z i 1 : Int))), (6, .int (iv (gJn q 0 (gDc n q K N Z (i + 1))))), (5, .int (iv (gDo q 4 (gl2i (N i))))), (4, .int (iv 4)), (0, .ref (gad (gSS ad) 145)), (1, .int (iv (f : Int))), (2, .int (iv (i : Int))), (3, .int (iv (q : Int)))]) dX10_measureOf_159 2 rfl rfl (by decide) rfl ?_
          refine gg_goto (tgt := 122) dX10_measureOf_162 (by decide) ?_
          refine gg_iload dX10_measureOf_122 0 rfl ?_
          refine gg_iload dX10_measureOf_124 4 rfl ?_
          refine gg_callSi (own := RX10) (yt := gm_X10_parts) rfl gl_RX10_98 gk_X10_parts gr_X10_parts dX10_measureOf_126 (c_X10_parts (d := d - 1) (k := 4) (by omega)) rfl rfl (Nat.le_of_ble_eq_true rfl) (by show _ ≤ d; omega) ⟨Nat.le_refl _, Nat.le_refl _⟩ (fun e80 μ' hc => ?_)
          obtain ⟨rfl, rfl⟩ := hc
          refine gg_toI (b := 2) rfl ?_
          refine gg_icmp_ge_f (tgt := 165) dX10_measureOf_129 (by decide) (by decide) (by decide) ?_
          refine gg_iload_n dX10_measureOf_132 8 rfl ?_
          refine gg_iload dX10_measureOf_133 2 rfl ?_
          refine gg_aload_n dX10_measureOf_135 5 rfl ?_
          refine gg_iload_n dX10_measureOf_136 6 rfl ?_
          refine gg_iload dX10_measureOf_137 1 rfl ?_
          refine gg_iload_n dX10_measureOf_139 8 rfl ?_
          refine gg_callVi (own := RX10) (yt := gm_X10_measureOf) rfl gl_RX10_293 gk_X10_measureOf gr_X10_measureOf dX10_measureOf_140 (ih (gPt Z i 1) (hc2 (by rw [hk]; decide)) (by have := he2 (by rw [hk]; decide); omega) (d - 1) (by omega)) sh_145 pl_145 (by decide) rfl rfl rfl (Nat.le_of_ble_eq_true rfl) (by show _ ≤ d; omega) ⟨Nat.le_refl _, Nat.le_refl _⟩ (fun e81 μ' hc => ?_)
          obtain ⟨rfl, rfl⟩ := hc
          refine gg_callSi (own := RX10) (yt := gm_X10_join) rfl gl_RX10_296 gk_X10_join gr_X10_join dX10_measureOf_143 (c_X10_join (d := d - 1) (q := q) hq (by first | omega | (have := @gJn_rng q 0 (gDc n q K N Z (i + 1)) 0 9999 (by omega) (by omega); have := @gJn_rng q (gJn q 0 (gDc n q K N Z (i + 1))) (gDc n q K N Z (gPt Z i 1)) 9999 9999 (by omega) (by omega); omega) | (have := @gJn_rng q 0 (gDc n q K N Z (i + 1)) 0 9999 (by omega) (by omega); omega)) (by omega) (by omega)) rfl rfl (Nat.le_of_ble_eq_true rfl) (by show _ ≤ d; omega) ⟨Nat.le_refl _, Nat.le_refl _⟩ (fun e82 μ' hc => ?_)
          obtain ⟨rfl, rfl⟩ := hc
          refine gg_istore (ls' := [(6, .int (iv (gJn q (gJn q 0 (gDc n q K N Z (i + 1))) (gDc n q K N Z (gPt Z i 1))))), (8, .int (iv 1)), (7, .int (iv (gPt Z i 1 : Int))), (5, .int (iv (gDo q 4 (gl2i (N i))))), (4, .int (iv 4)), (0, .ref (gad (gSS ad) 145)), (1, .int (iv (f : Int))), (2, .int (iv (i : Int))), (3, .int (iv (q : Int)))]) dX10_measureOf_146 (by decide) rfl ?_
          refine gg_aload_n dX10_measureOf_148 5 rfl ?_
          refine gg_getR (k' := 173) rfl gf_RX10_23 dX10_measureOf_149 sh_145 pl_145 (by decide) (by decide) rr_145_3 ?_
          refine gg_iload_n dX10_measureOf_152 6 rfl ?_
          refine gg_aaldj (t := 6) f (k' := (174 + f)) dX10_measureOf_153 sh_173 (by decide) pl_173 (by decide) rfl hf (rr_173 hf) ?_
          refine gg_iload dX10_measureOf_154 2 rfl ?_
          refine gg_ialdj (gPt Z i 1) dX10_measureOf_156 (rs_173 hf) (rl_173 hf) (by decide) rfl (by have := hc2 (by rw [hk]; decide); omega) ?_
          refine gg_istore (ls' := [(7, .int (iv (I (174 + f) (gPt Z i 1)))), (6, .int (iv (gJn q (gJn q 0 (gDc n q K N Z (i + 1))) (gDc n q K N Z (gPt Z i 1))))), (8, .int (iv 1)), (5, .int (iv (gDo q 4 (gl2i (N i))))), (4, .int (iv 4)), (0, .ref (gad (gSS ad) 145)), (1, .int (iv (f : Int))), (2, .int (iv (i : Int))), (3, .int (iv (q : Int)))]) dX10_measureOf_157 (by decide) rfl ?_
          refine gg_iincv (ls' := [(8, .int (iv 2)), (7, .int (iv (I (174 + f) (gPt Z i 1)))), (6, .int (iv (gJn q (gJn q 0 (gDc n q K N Z (i + 1))) (gDc n q K N Z (gPt Z i 1))))), (5, .int (iv (gDo q 4 (gl2i (N i))))), (4, .int (iv 4)), (0, .ref (gad (gSS ad) 145)), (1, .int (iv (f : Int))), (2, .int (iv (i : Int))), (3, .int (iv (q : Int)))]) dX10_measureOf_159 2 rfl rfl (by decide) rfl ?_
          refine gg_goto (tgt := 122) dX10_measureOf_162 (by decide) ?_
          refine gg_iload dX10_measureOf_122 0 rfl ?_
          refine gg_iload dX10_measureOf_124 4 rfl ?_
          refine gg_callSi (own := RX10) (yt := gm_X10_parts) rfl gl_RX10_98 gk_X10_parts gr_X10_parts dX10_measureOf_126 (c_X10_parts (d := d - 1) (k := 4) (by omega)) rfl rfl (Nat.le_of_ble_eq_true rfl) (by show _ ≤ d; omega) ⟨Nat.le_refl _, Nat.le_refl _⟩ (fun e83 μ' hc => ?_)
          obtain ⟨rfl, rfl⟩ := hc
          refine gg_toI (b := 2) rfl ?_
          refine gg_icmp_ge_t (tgt := 165) dX10_measureOf_129 (by decide) (by decide) (by decide) ?_
          refine gg_sipush dX10_measureOf_165 (by decide) ?_
          refine gg_iload dX10_measureOf_168 2 rfl ?_
          refine gg_iload dX10_measureOf_170 3 rfl ?_
          refine gg_iadd dX10_measureOf_172 ?_
          refine gg_mmin rfl gl_RX10_299 dX10_measureOf_173 (by first | omega | (have := @gJn_rng q 0 (gDc n q K N Z (i + 1)) 0 9999 (by omega) (by omega); have := @gJn_rng q (gJn q 0 (gDc n q K N Z (i + 1))) (gDc n q K N Z (gPt Z i 1)) 9999 9999 (by omega) (by omega); have := @gJn_rng q (gJn q (gJn q 0 (gDc n q K N Z (i + 1))) (gDc n q K N Z (gPt Z i 1))) (gDc n q K N Z (gPt Z i 2)) 19998 9999 (by omega) (by omega); omega) | (have := @gJn_rng q 0 (gDc n q K N Z (i + 1)) 0 9999 (by omega) (by omega); have := @gJn_rng q (gJn q 0 (gDc n q K N Z (i + 1))) (gDc n q K N Z (gPt Z i 1)) 9999 9999 (by omega) (by omega); omega) | (have := @gJn_rng q 0 (gDc n q K N Z (i + 1)) 0 9999 (by omega) (by omega); omega) | (split <;> omega) | (have := @gJn_rng q 0 (gDc n q K N Z (i + 1)) 0 9999 (by omega) (by omega); split <;> omega)) (Nat.le_of_ble_eq_true rfl) (by omega) ⟨Nat.le_refl _, Nat.le_refl _⟩ ?_
          refine gg_ireti dX10_measureOf_176 rfl ⟨rfl, rfl⟩ ?_
          refine ⟨rfl, ?_⟩
          rw [gDc_is n q K N Z i hi]
          unfold gdF
          rw [hk]
          unfold gDj
          rw [if_neg (show ¬ (q = 4 ∧ 4 = 6) by omega), if_neg (show ¬ (q = 5 ∧ 4 = 7) by omega)]
          exact rfl
        · refine gg_iload dX10_measureOf_89 2 rfl ?_
          refine gg_bipush dX10_measureOf_91 (by decide) ?_
          refine gg_icmp_ne_t (tgt := 114) dX10_measureOf_93 (by decide) (by decide) (by decide) ?_
          refine gg_iload_n dX10_measureOf_114 5 rfl ?_
          refine gg_iconst dX10_measureOf_115 ?_
          refine gg_iadd dX10_measureOf_116 ?_
          refine gg_toI (b := ((i + 1 : Nat) : Int)) (by omega) ?_
          refine gg_istore (ls' := [(7, .int (iv ((i + 1 : Nat) : Int))), (6, .int (iv 0)), (5, .int (iv (gDo q 4 (gl2i (N i))))), (4, .int (iv 4)), (0, .ref (gad (gSS ad) 145)), (1, .int (iv (f : Int))), (2, .int (iv (i : Int))), (3, .int (iv (q : Int)))]) dX10_measureOf_117 (by decide) rfl ?_
          refine gg_iconst dX10_measureOf_119 ?_
          refine gg_istore (ls' := [(8, .int (iv 0)), (7, .int (iv ((i + 1 : Nat) : Int))), (6, .int (iv 0)), (5, .int (iv (gDo q 4 (gl2i (N i))))), (4, .int (iv 4)), (0, .ref (gad (gSS ad) 145)), (1, .int (iv (f : Int))), (2, .int (iv (i : Int))), (3, .int (iv (q : Int)))]) dX10_measureOf_120 (by decide) rfl ?_
          refine gg_iload dX10_measureOf_122 0 rfl ?_
          refine gg_iload dX10_measureOf_124 4 rfl ?_
          refine gg_callSi (own := RX10) (yt := gm_X10_parts) rfl gl_RX10_98 gk_X10_parts gr_X10_parts dX10_measureOf_126 (c_X10_parts (d := d - 1) (k := 4) (by omega)) rfl rfl (Nat.le_of_ble_eq_true rfl) (by show _ ≤ d; omega) ⟨Nat.le_refl _, Nat.le_refl _⟩ (fun e84 μ' hc => ?_)
          obtain ⟨rfl, rfl⟩ := hc
          refine gg_toI (b := 2) rfl ?_
          refine gg_icmp_ge_f (tgt := 165) dX10_measureOf_129 (by decide) (by decide) (by decide) ?_
          refine gg_iload_n dX10_measureOf_132 8 rfl ?_
          refine gg_iload dX10_measureOf_133 2 rfl ?_
          refine gg_aload_n dX10_measureOf_135 5 rfl ?_
          refine gg_iload_n dX10_measureOf_136 6 rfl ?_
          refine gg_iload dX10_measureOf_137 1 rfl ?_
          refine gg_iload_n dX10_measureOf_139 8 rfl ?_
          refine gg_callVi (own := RX10) (yt := gm_X10_measureOf) rfl gl_RX10_293 gk_X10_measureOf gr_X10_measureOf dX10_measureOf_140 (ih (i + 1) (hc1 (by rw [hk]; decide)) (by have := he2 (by rw [hk]; decide); omega) (d - 1) (by omega)) sh_145 pl_145 (by decide) rfl rfl rfl (Nat.le_of_ble_eq_true rfl) (by show _ ≤ d; omega) ⟨Nat.le_refl _, Nat.le_refl _⟩ (fun e85 μ' hc => ?_)
          obtain ⟨rfl, rfl⟩ := hc
          refine gg_callSi (own := RX10) (yt := gm_X10_join) rfl gl_RX10_296 gk_X10_join gr_X10_join dX10_measureOf_143 (c_X10_join (d := d - 1) (q := q) hq (by first | omega | (have := @gJn_rng q 0 (gDc n q K N Z (i + 1)) 0 9999 (by omega) (by omega); have := @gJn_rng q (gJn q 0 (gDc n q K N Z (i + 1))) (gDc n q K N Z (gPt Z i 1)) 9999 9999 (by omega) (by omega); omega) | (have := @gJn_rng q 0 (gDc n q K N Z (i + 1)) 0 9999 (by omega) (by omega); omega)) (by omega) (by omega)) rfl rfl (Nat.le_of_ble_eq_true rfl) (by show _ ≤ d; omega) ⟨Nat.le_refl _, Nat.le_refl _⟩ (fun e86 μ' hc => ?_)
          obtain ⟨rfl, rfl⟩ := hc
          refine gg_istore (ls' := [(6, .int (iv (gJn q 0 (gDc n q K N Z (i + 1))))), (8, .int (iv 0)), (7, .int (iv ((i + 1 : Nat) : Int))), (5, .int (iv (gDo q 4 (gl2i (N i))))), (4, .int (iv 4)), (0, .ref (gad (gSS ad) 145)), (1, .int (iv (f : Int))), (2, .int (iv (i : Int))), (3, .int (iv (q : Int)))]) dX10_measureOf_146 (by decide) rfl ?_
          refine gg_aload_n dX10_measureOf_148 5 rfl ?_
          refine gg_getR (k' := 173) rfl gf_RX10_23 dX10_measureOf_149 sh_145 pl_145 (by decide) (by decide) rr_145_3 ?_
          refine gg_iload_n dX10_measureOf_152 6 rfl ?_
          refine gg_aaldj (t := 6) f (k' := (174 + f)) dX10_measureOf_153 sh_173 (by decide) pl_173 (by decide) rfl hf (rr_173 hf) ?_
          refine gg_iload dX10_measureOf_154 2 rfl ?_
          refine gg_ialdj (i + 1) dX10_measureOf_156 (rs_173 hf) (rl_173 hf) (by decide) rfl (by have := hc1 (by rw [hk]; decide); omega) ?_
          refine gg_toI (b := (gPt Z i 1 : Int)) (by have := (hM.2 (i + 1) (hc1 (by rw [hk]; decide))).2.2; simp only [gPt] at this ⊢; omega) ?_
          refine gg_istore (ls' := [(7, .int (iv (gPt Z i 1 : Int))), (6, .int (iv (gJn q 0 (gDc n q K N Z (i + 1))))), (8, .int (iv 0)), (5, .int (iv (gDo q 4 (gl2i (N i))))), (4, .int (iv 4)), (0, .ref (gad (gSS ad) 145)), (1, .int (iv (f : Int))), (2, .int (iv (i : Int))), (3, .int (iv (q : Int)))]) dX10_measureOf_157 (by decide) rfl ?_
          refine gg_iincv (ls' := [(8, .int (iv 1)), (7, .int (iv (gPt Z i 1 : Int))), (6, .int (iv (gJn q 0 (gDc n q K N Z (i + 1))))), (5, .int (iv (gDo q 4 (gl2i (N i))))), (4, .int (iv 4)), (0, .ref (gad (gSS ad) 145)), (1, .int (iv (f : Int))), (2, .int (iv (i : Int))), (3, .int (iv (q : Int)))]) dX10_measureOf_159 2 rfl rfl (by decide) rfl ?_
          refine gg_goto (tgt := 122) dX10_measureOf_162 (by decide) ?_
          refine gg_iload dX10_measureOf_122 0 rfl ?_
          refine gg_iload dX10_measureOf_124 4 rfl ?_
          refine gg_callSi (own := RX10) (yt := gm_X10_parts) rfl gl_RX10_98 gk_X10_parts gr_X10_parts dX10_measureOf_126 (c_X10_parts (d := d - 1) (k := 4) (by omega)) rfl rfl (Nat.le_of_ble_eq_true rfl) (by show _ ≤ d; omega) ⟨Nat.le_refl _, Nat.le_refl _⟩ (fun e87 μ' hc => ?_)
          obtain ⟨rfl, rfl⟩ := hc
          refine gg_toI (b := 2) rfl ?_
          refine gg_icmp_ge_f (tgt := 165) dX10_measureOf_129 (by decide) (by decide) (by decide) ?_
          refine gg_iload_n dX10_measureOf_132 8 rfl ?_
          refine gg_iload dX10_measureOf_133 2 rfl ?_
          refine gg_aload_n dX10_measureOf_135 5 rfl ?_
          refine gg_iload_n dX10_measureOf_136 6 rfl ?_
          refine gg_iload dX10_measureOf_137 1 rfl ?_
          refine gg_iload_n dX10_measureOf_139 8 rfl ?_
          refine gg_callVi (own := RX10) (yt := gm_X10_measureOf) rfl gl_RX10_293 gk_X10_measureOf gr_X10_measureOf dX10_measureOf_140 (ih (gPt Z i 1) (hc2 (by rw [hk]; decide)) (by have := he2 (by rw [hk]; decide); omega) (d - 1) (by omega)) sh_145 pl_145 (by decide) rfl rfl rfl (Nat.le_of_ble_eq_true rfl) (by show _ ≤ d; omega) ⟨Nat.le_refl _, Nat.le_refl _⟩ (fun e88 μ' hc => ?_)
          obtain ⟨rfl, rfl⟩ := hc
          refine gg_callSi (own := RX10) (yt := gm_X10_join) rfl gl_RX10_296 gk_X10_join gr_X10_join dX10_measureOf_143 (c_X10_join (d := d - 1) (q := q) hq (by first | omega | (have := @gJn_rng q 0 (gDc n q K N Z (i + 1)) 0 9999 (by omega) (by omega); have := @gJn_rng q (gJn q 0 (gDc n q K N Z (i + 1))) (gDc n q K N Z (gPt Z i 1)) 9999 9999 (by omega) (by omega); omega) | (have := @gJn_rng q 0 (gDc n q K N Z (i + 1)) 0 9999 (by omega) (by omega); omega)) (by omega) (by omega)) rfl rfl (Nat.le_of_ble_eq_true rfl) (by show _ ≤ d; omega) ⟨Nat.le_refl _, Nat.le_refl _⟩ (fun e89 μ' hc => ?_)
          obtain ⟨rfl, rfl⟩ := hc
          refine gg_istore (ls' := [(6, .int (iv (gJn q (gJn q 0 (gDc n q K N Z (i + 1))) (gDc n q K N Z (gPt Z i 1))))), (8, .int (iv 1)), (7, .int (iv (gPt Z i 1 : Int))), (5, .int (iv (gDo q 4 (gl2i (N i))))), (4, .int (iv 4)), (0, .ref (gad (gSS ad) 145)), (1, .int (iv (f : Int))), (2, .int (iv (i : Int))), (3, .int (iv (q : Int)))]) dX10_measureOf_146 (by decide) rfl ?_
          refine gg_aload_n dX10_measureOf_148 5 rfl ?_
          refine gg_getR (k' := 173) rfl gf_RX10_23 dX10_measureOf_149 sh_145 pl_145 (by decide) (by decide) rr_145_3 ?_
          refine gg_iload_n dX10_measureOf_152 6 rfl ?_
          refine gg_aaldj (t := 6) f (k' := (174 + f)) dX10_measureOf_153 sh_173 (by decide) pl_173 (by decide) rfl hf (rr_173 hf) ?_
          refine gg_iload dX10_measureOf_154 2 rfl ?_
          refine gg_ialdj (gPt Z i 1) dX10_measureOf_156 (rs_173 hf) (rl_173 hf) (by decide) rfl (by have := hc2 (by rw [hk]; decide); omega) ?_
          refine gg_istore (ls' := [(7, .int (iv (I (174 + f) (gPt Z i 1)))), (6, .int (iv (gJn q (gJn q 0 (gDc n q K N Z (i + 1))) (gDc n q K N Z (gPt Z i 1))))), (8, .int (iv 1)), (5, .int (iv (gDo q 4 (gl2i (N i))))), (4, .int (iv 4)), (0, .ref (gad (gSS ad) 145)), (1, .int (iv (f : Int))), (2, .int (iv (i : Int))), (3, .int (iv (q : Int)))]) dX10_measureOf_157 (by decide) rfl ?_
          refine gg_iincv (ls' := [(8, .int (iv 2)), (7, .int (iv (I (174 + f) (gPt Z i 1)))), (6, .int (iv (gJn q (gJn q 0 (gDc n q K N Z (i + 1))) (gDc n q K N Z (gPt Z i 1))))), (5, .int (iv (gDo q 4 (gl2i (N i))))), (4, .int (iv 4)), (0, .ref (gad (gSS ad) 145)), (1, .int (iv (f : Int))), (2, .int (iv (i : Int))), (3, .int (iv (q : Int)))]) dX10_measureOf_159 2 rfl rfl (by decide) rfl ?_
          refine gg_goto (tgt := 122) dX10_measureOf_162 (by decide) ?_
          refine gg_iload dX10_measureOf_122 0 rfl ?_
          refine gg_iload dX10_measureOf_124 4 rfl ?_
          refine gg_callSi (own := RX10) (yt := gm_X10_parts) rfl gl_RX10_98 gk_X10_parts gr_X10_parts dX10_measureOf_126 (c_X10_parts (d := d - 1) (k := 4) (by omega)) rfl rfl (Nat.le_of_ble_eq_true rfl) (by show _ ≤ d; omega) ⟨Nat.le_refl _, Nat.le_refl _⟩ (fun e90 μ' hc => ?_)
          obtain ⟨rfl, rfl⟩ := hc
          refine gg_toI (b := 2) rfl ?_
          refine gg_icmp_ge_t (tgt := 165) dX10_measureOf_129 (by decide) (by decide) (by decide) ?_
          refine gg_sipush dX10_measureOf_165 (by decide) ?_
          refine gg_iload dX10_measureOf_168 2 rfl ?_
          refine gg_iload dX10_measureOf_170 3 rfl ?_
          refine gg_iadd dX10_measureOf_172 ?_
          refine gg_mmin rfl gl_RX10_299 dX10_measureOf_173 (by first | omega | (have := @gJn_rng q 0 (gDc n q K N Z (i + 1)) 0 9999 (by omega) (by omega); have := @gJn_rng q (gJn q 0 (gDc n q K N Z (i + 1))) (gDc n q K N Z (gPt Z i 1)) 9999 9999 (by omega) (by omega); have := @gJn_rng q (gJn q (gJn q 0 (gDc n q K N Z (i + 1))) (gDc n q K N Z (gPt Z i 1))) (gDc n q K N Z (gPt Z i 2)) 19998 9999 (by omega) (by omega); omega) | (have := @gJn_rng q 0 (gDc n q K N Z (i + 1)) 0 9999 (by omega) (by omega); have := @gJn_rng q (gJn q 0 (gDc n q K N Z (i + 1))) (gDc n q K N Z (gPt Z i 1)) 9999 9999 (by omega) (by omega); omega) | (have := @gJn_rng q 0 (gDc n q K N Z (i + 1)) 0 9999 (by omega) (by omega); omega) | (split <;> omega) | (have := @gJn_rng q 0 (gDc n q K N Z (i + 1)) 0 9999 (by omega) (by omega); split <;> omega)) (Nat.le_of_ble_eq_true rfl) (by omega) ⟨Nat.le_refl _, Nat.le_refl _⟩ ?_
          refine gg_ireti dX10_measureOf_176 rfl ⟨rfl, rfl⟩ ?_
          refine ⟨rfl, ?_⟩
          rw [gDc_is n q K N Z i hi]
          unfold gdF
          rw [hk]
          unfold gDj
          rw [if_neg (show ¬ (q = 4 ∧ 4 = 6) by omega), if_neg (show ¬ (q = 5 ∧ 4 = 7) by omega)]
          exact rfl
    · refine gg_toI (b := 5) (by omega) ?_
      refine gg_istore (ls' := [(4, .int (iv 5)), (0, .ref (gad (gSS ad) 145)), (1, .int (iv (f : Int))), (2, .int (iv (i : Int))), (3, .int (iv (q : Int)))]) dX10_measureOf_8 (by decide) rfl ?_
      have g1 := gD_rng (q := q) hW _ (hc1 (by rw [hk]; decide))
      have hor := gDo_rng hW hi q
      rw [hk] at hor
      refine gg_iload_n dX10_measureOf_10 4 rfl ?_
      refine gg_iload dX10_measureOf_11 0 rfl ?_
      refine gg_aload_n dX10_measureOf_13 1 rfl ?_
      refine gg_getR (k' := 160) rfl gf_RX10_20 dX10_measureOf_14 sh_145 pl_145 (by decide) (by decide) rr_145_2 ?_
      refine gg_iload_n dX10_measureOf_17 2 rfl ?_
      refine gg_aaldj (t := 7) f (k' := (161 + f)) dX10_measureOf_18 sh_160 (by decide) pl_160 (by decide) rfl hf (rr_160 hf) ?_
      refine gg_iload_n dX10_measureOf_19 3 rfl ?_
      refine gg_laldj i dX10_measureOf_20 (rs_160 hf) (rl_160 hf) (by decide) rfl (by omega) ?_
      refine gg_toL (b := N i) (hM.2 i hi).2.1 ?_
      refine gg_l2i dX10_measureOf_21 ?_
      refine gg_callSi (own := RX10) (yt := gm_X10_own) rfl gl_RX10_289 gk_X10_own gr_X10_own dX10_measureOf_22 (c_X10_own (d := d - 1) (q := q) (k := 5) hq (by omega)) rfl rfl (Nat.le_of_ble_eq_true rfl) (by show _ ≤ d; omega) ⟨Nat.le_refl _, Nat.le_refl _⟩ (fun e91 μ' hc => ?_)
      obtain ⟨rfl, rfl⟩ := hc
      refine gg_toI (b := gDo q 5 (gl2i (N i))) (if_neg (by omega)) ?_
      refine gg_istore (ls' := [(5, .int (iv (gDo q 5 (gl2i (N i))))), (4, .int (iv 5)), (0, .ref (gad (gSS ad) 145)), (1, .int (iv (f : Int))), (2, .int (iv (i : Int))), (3, .int (iv (q : Int)))]) dX10_measureOf_25 (by decide) rfl ?_
      refine gg_iconst dX10_measureOf_27 ?_
      refine gg_istore (ls' := [(6, .int (iv 0)), (5, .int (iv (gDo q 5 (gl2i (N i))))), (4, .int (iv 5)), (0, .ref (gad (gSS ad) 145)), (1, .int (iv (f : Int))), (2, .int (iv (i : Int))), (3, .int (iv (q : Int)))]) dX10_measureOf_28 (by decide) rfl ?_
      refine gg_iload_n dX10_measureOf_30 6 rfl ?_
      refine gg_iconst dX10_measureOf_31 ?_
      refine gg_icmp_ne (tgt := 84) dX10_measureOf_32 (by decide) (by omega) (fun hb92 => ?_) (fun hb92 => ?_)
      · refine gg_iload_n dX10_measureOf_84 6 rfl ?_
        refine gg_iconst dX10_measureOf_85 ?_
        refine gg_icmp_ne (tgt := 114) dX10_measureOf_86 (by decide) (by omega) (fun hq5 => ?_) (fun hq5 => ?_)
        · refine gg_iload_n dX10_measureOf_114 5 rfl ?_
          refine gg_iconst dX10_measureOf_115 ?_
          refine gg_iadd dX10_measureOf_116 ?_
          refine gg_toI (b := ((i + 1 : Nat) : Int)) (by omega) ?_
          refine gg_istore (ls' := [(7, .int (iv ((i + 1 : Nat) : Int))), (6, .int (iv 0)), (5, .int (iv (gDo q 5 (gl2i (N i))))), (4, .int (iv 5)), (0, .ref (gad (gSS ad) 145)), (1, .int (iv (f : Int))), (2, .int (iv (i : Int))), (3, .int (iv (q : Int)))]) dX10_measureOf_117 (by decide) rfl ?_
          refine gg_iconst dX10_measureOf_119 ?_
          refine gg_istore (ls' := [(8, .int (iv 0)), (7, .int (iv ((i + 1 : Nat) : Int))), (6, .int (iv 0)), (5, .int (iv (gDo q 5 (gl2i (N i))))), (4, .int (iv 5)), (0, .ref (gad (gSS ad) 145)), (1, .int (iv (f : Int))), (2, .int (iv (i : Int))), (3, .int (iv (q : Int)))]) dX10_measureOf_120 (by decide) rfl ?_
          refine gg_iload dX10_measureOf_122 0 rfl ?_
          refine gg_iload dX10_measureOf_124 4 rfl ?_
          refine gg_callSi (own := RX10) (yt := gm_X10_parts) rfl gl_RX10_98 gk_X10_parts gr_X10_parts dX10_measureOf_126 (c_X10_parts (d := d - 1) (k := 5) (by omega)) rfl rfl (Nat.le_of_ble_eq_true rfl) (by show _ ≤ d; omega) ⟨Nat.le_refl _, Nat.le_refl _⟩ (fun e93 μ' hc => ?_)
          obtain ⟨rfl, rfl⟩ := hc
          refine gg_toI (b := 1) rfl ?_
          refine gg_icmp_ge_f (tgt := 165) dX10_measureOf_129 (by decide) (by decide) (by decide) ?_
          refine gg_iload_n dX10_measureOf_132 8 rfl ?_
          refine gg_iload dX10_measureOf_133 2 rfl ?_
          refine gg_aload_n dX10_measureOf_135 5 rfl ?_
          refine gg_iload_n dX10_measureOf_136 6 rfl ?_
          refine gg_iload dX10_measureOf_137 1 rfl ?_
          refine gg_iload_n dX10_measureOf_139 8 rfl ?_
          refine gg_callVi (own := RX10) (yt := gm_X10_measureOf) rfl gl_RX10_293 gk_X10_measureOf gr_X10_measureOf dX10_measureOf_140 (ih (i + 1) (hc1 (by rw [hk]; decide)) (by have := he1 (by rw [hk]; decide); omega) (d - 1) (by omega)) sh_145 pl_145 (by decide) rfl rfl rfl (Nat.le_of_ble_eq_true rfl) (by show _ ≤ d; omega) ⟨Nat.le_refl _, Nat.le_refl _⟩ (fun e94 μ' hc => ?_)
          obtain ⟨rfl, rfl⟩ := hc
          refine gg_callSi (own := RX10) (yt := gm_X10_join) rfl gl_RX10_296 gk_X10_join gr_X10_join dX10_measureOf_143 (c_X10_join (d := d - 1) (q := q) hq (by first | omega | (have := @gJn_rng q 0 (gDc n q K N Z (i + 1)) 0 9999 (by omega) (by omega); have := @gJn_rng q (gJn q 0 (gDc n q K N Z (i + 1))) (gDc n q K N Z (gPt Z i 1)) 9999 9999 (by omega) (by omega); omega) | (have := @gJn_rng q 0 (gDc n q K N Z (i + 1)) 0 9999 (by omega) (by omega); omega)) (by omega) (by omega)) rfl rfl (Nat.le_of_ble_eq_true rfl) (by show _ ≤ d; omega) ⟨Nat.le_refl _, Nat.le_refl _⟩ (fun e95 μ' hc => ?_)
          obtain ⟨rfl, rfl⟩ := hc
          refine gg_istore (ls' := [(6, .int (iv (gJn q 0 (gDc n q K N Z (i + 1))))), (8, .int (iv 0)), (7, .int (iv ((i + 1 : Nat) : Int))), (5, .int (iv (gDo q 5 (gl2i (N i))))), (4, .int (iv 5)), (0, .ref (gad (gSS ad) 145)), (1, .int (iv (f : Int))), (2, .int (iv (i : Int))), (3, .int (iv (q : Int)))]) dX10_measureOf_146 (by decide) rfl ?_
          refine gg_aload_n dX10_measureOf_148 5 rfl ?_
          refine gg_getR (k' := 173) rfl gf_RX10_23 dX10_measureOf_149 sh_145 pl_145 (by decide) (by decide) rr_145_3 ?_
          refine gg_iload_n dX10_measureOf_152 6 rfl ?_
          refine gg_aaldj (t := 6) f (k' := (174 + f)) dX10_measureOf_153 sh_173 (by decide) pl_173 (by decide) rfl hf (rr_173 hf) ?_
          refine gg_iload dX10_measureOf_154 2 rfl ?_
          refine gg_ialdj (i + 1) dX10_measureOf_156 (rs_173 hf) (rl_173 hf) (by decide) rfl (by have := hc1 (by rw [hk]; decide); omega) ?_
          refine gg_istore (ls' := [(7, .int (iv (I (174 + f) (i + 1)))), (6, .int (iv (gJn q 0 (gDc n q K N Z (i + 1))))), (8, .int (iv 0)), (5, .int (iv (gDo q 5 (gl2i (N i))))), (4, .int (iv 5)), (0, .ref (gad (gSS ad) 145)), (1, .int (iv (f : Int))), (2, .int (iv (i : Int))), (3, .int (iv (q : Int)))]) dX10_measureOf_157 (by decide) rfl ?_
          refine gg_iincv (ls' := [(8, .int (iv 1)), (7, .int (iv (I (174 + f) (i + 1)))), (6, .int (iv (gJn q 0 (gDc n q K N Z (i + 1))))), (5, .int (iv (gDo q 5 (gl2i (N i))))), (4, .int (iv 5)), (0, .ref (gad (gSS ad) 145)), (1, .int (iv (f : Int))), (2, .int (iv (i : Int))), (3, .int (iv (q : Int)))]) dX10_measureOf_159 2 rfl rfl (by decide) rfl ?_
          refine gg_goto (tgt := 122) dX10_measureOf_162 (by decide) ?_
          refine gg_iload dX10_measureOf_122 0 rfl ?_
          refine gg_iload dX10_measureOf_124 4 rfl ?_
          refine gg_callSi (own := RX10) (yt := gm_X10_parts) rfl gl_RX10_98 gk_X10_parts gr_X10_parts dX10_measureOf_126 (c_X10_parts (d := d - 1) (k := 5) (by omega)) rfl rfl (Nat.le_of_ble_eq_true rfl) (by show _ ≤ d; omega) ⟨Nat.le_refl _, Nat.le_refl _⟩ (fun e96 μ' hc => ?_)
          obtain ⟨rfl, rfl⟩ := hc
          refine gg_toI (b := 1) rfl ?_
          refine gg_icmp_ge_t (tgt := 165) dX10_measureOf_129 (by decide) (by decide) (by decide) ?_
          refine gg_sipush dX10_measureOf_165 (by decide) ?_
          refine gg_iload dX10_measureOf_168 2 rfl ?_
          refine gg_iload dX10_measureOf_170 3 rfl ?_
          refine gg_iadd dX10_measureOf_172 ?_
          refine gg_mmin rfl gl_RX10_299 dX10_measureOf_173 (by first | omega | (have := @gJn_rng q 0 (gDc n q K N Z (i + 1)) 0 9999 (by omega) (by omega); have := @gJn_rng q (gJn q 0 (gDc n q K N Z (i + 1))) (gDc n q K N Z (gPt Z i 1)) 9999 9999 (by omega) (by omega); have := @gJn_rng q (gJn q (gJn q 0 (gDc n q K N Z (i + 1))) (gDc n q K N Z (gPt Z i 1))) (gDc n q K N Z (gPt Z i 2)) 19998 9999 (by omega) (by omega); omega) | (have := @gJn_rng q 0 (gDc n q K N Z (i + 1)) 0 9999 (by omega) (by omega); have := @gJn_rng q (gJn q 0 (gDc n q K N Z (i + 1))) (gDc n q K N Z (gPt Z i 1)) 9999 9999 (by omega) (by omega); omega) | (have := @gJn_rng q 0 (gDc n q K N Z (i + 1)) 0 9999 (by omega) (by omega); omega) | (split <;> omega) | (have := @gJn_rng q 0 (gDc n q K N Z (i + 1)) 0 9999 (by omega) (by omega); split <;> omega)) (Nat.le_of_ble_eq_true rfl) (by omega) ⟨Nat.le_refl _, Nat.le_refl _⟩ ?_
          refine gg_ireti dX10_measureOf_176 rfl ⟨rfl, rfl⟩ ?_
          refine ⟨rfl, ?_⟩
          rw [gDc_is n q K N Z i hi]
          unfold gdF
          rw [hk]
          unfold gDj
          rw [if_neg (show ¬ (q = 4 ∧ 5 = 6) by omega), if_neg (show ¬ (q = 5 ∧ 5 = 7) by omega)]
          exact rfl
        · refine gg_iload dX10_measureOf_89 2 rfl ?_
          refine gg_bipush dX10_measureOf_91 (by decide) ?_
          refine gg_icmp_ne_t (tgt := 114) dX10_measureOf_93 (by decide) (by decide) (by decide) ?_
          refine gg_iload_n dX10_measureOf_114 5 rfl ?_
          refine gg_iconst dX10_measureOf_115 ?_
          refine gg_iadd dX10_measureOf_116 ?_
          refine gg_toI (b := ((i + 1 : Nat) : Int)) (by omega) ?_
          refine gg_istore (ls' := [(7, .int (iv ((i + 1 : Nat) : Int))), (6, .int (iv 0)), (5, .int (iv (gDo q 5 (gl2i (N i))))), (4, .int (iv 5)), (0, .ref (gad (gSS ad) 145)), (1, .int (iv (f : Int))), (2, .int (iv (i : Int))), (3, .int (iv (q : Int)))]) dX10_measureOf_117 (by decide) rfl ?_
          refine gg_iconst dX10_measureOf_119 ?_
          refine gg_istore (ls' := [(8, .int (iv 0)), (7, .int (iv ((i + 1 : Nat) : Int))), (6, .int (iv 0)), (5, .int (iv (gDo q 5 (gl2i (N i))))), (4, .int (iv 5)), (0, .ref (gad (gSS ad) 145)), (1, .int (iv (f : Int))), (2, .int (iv (i : Int))), (3, .int (iv (q : Int)))]) dX10_measureOf_120 (by decide) rfl ?_
          refine gg_iload dX10_measureOf_122 0 rfl ?_
          refine gg_iload dX10_measureOf_124 4 rfl ?_
          refine gg_callSi (own := RX10) (yt := gm_X10_parts) rfl gl_RX10_98 gk_X10_parts gr_X10_parts dX10_measureOf_126 (c_X10_parts (d := d - 1) (k := 5) (by omega)) rfl rfl (Nat.le_of_ble_eq_true rfl) (by show _ ≤ d; omega) ⟨Nat.le_refl _, Nat.le_refl _⟩ (fun e97 μ' hc => ?_)
          obtain ⟨rfl, rfl⟩ := hc
          refine gg_toI (b := 1) rfl ?_
          refine gg_icmp_ge_f (tgt := 165) dX10_measureOf_129 (by decide) (by decide) (by decide) ?_
          refine gg_iload_n dX10_measureOf_132 8 rfl ?_
          refine gg_iload dX10_measureOf_133 2 rfl ?_
          refine gg_aload_n dX10_measureOf_135 5 rfl ?_
          refine gg_iload_n dX10_measureOf_136 6 rfl ?_
          refine gg_iload dX10_measureOf_137 1 rfl ?_
          refine gg_iload_n dX10_measureOf_139 8 rfl ?_
          refine gg_callVi (own := RX10) (yt := gm_X10_measureOf) rfl gl_RX10_293 gk_X10_measureOf gr_X10_measureOf dX10_measureOf_140 (ih (i + 1) (hc1 (by rw [hk]; decide)) (by have := he1 (by rw [hk]; decide); omega) (d - 1) (by omega)) sh_145 pl_145 (by decide) rfl rfl rfl (Nat.le_of_ble_eq_true rfl) (by show _ ≤ d; omega) ⟨Nat.le_refl _, Nat.le_refl _⟩ (fun e98 μ' hc => ?_)
          obtain ⟨rfl, rfl⟩ := hc
          refine gg_callSi (own := RX10) (yt := gm_X10_join) rfl gl_RX10_296 gk_X10_join gr_X10_join dX10_measureOf_143 (c_X10_join (d := d - 1) (q := q) hq (by first | omega | (have := @gJn_rng q 0 (gDc n q K N Z (i + 1)) 0 9999 (by omega) (by omega); have := @gJn_rng q (gJn q 0 (gDc n q K N Z (i + 1))) (gDc n q K N Z (gPt Z i 1)) 9999 9999 (by omega) (by omega); omega) | (have := @gJn_rng q 0 (gDc n q K N Z (i + 1)) 0 9999 (by omega) (by omega); omega)) (by omega) (by omega)) rfl rfl (Nat.le_of_ble_eq_true rfl) (by show _ ≤ d; omega) ⟨Nat.le_refl _, Nat.le_refl _⟩ (fun e99 μ' hc => ?_)
          obtain ⟨rfl, rfl⟩ := hc
          refine gg_istore (ls' := [(6, .int (iv (gJn q 0 (gDc n q K N Z (i + 1))))), (8, .int (iv 0)), (7, .int (iv ((i + 1 : Nat) : Int))), (5, .int (iv (gDo q 5 (gl2i (N i))))), (4, .int (iv 5)), (0, .ref (gad (gSS ad) 145)), (1, .int (iv (f : Int))), (2, .int (iv (i : Int))), (3, .int (iv (q : Int)))]) dX10_measureOf_146 (by decide) rfl ?_
          refine gg_aload_n dX10_measureOf_148 5 rfl ?_
          refine gg_getR (k' := 173) rfl gf_RX10_23 dX10_measureOf_149 sh_145 pl_145 (by decide) (by decide) rr_145_3 ?_
          refine gg_iload_n dX10_measureOf_152 6 rfl ?_
          refine gg_aaldj (t := 6) f (k' := (174 + f)) dX10_measureOf_153 sh_173 (by decide) pl_173 (by decide) rfl hf (rr_173 hf) ?_
          refine gg_iload dX10_measureOf_154 2 rfl ?_
          refine gg_ialdj (i + 1) dX10_measureOf_156 (rs_173 hf) (rl_173 hf) (by decide) rfl (by have := hc1 (by rw [hk]; decide); omega) ?_
          refine gg_istore (ls' := [(7, .int (iv (I (174 + f) (i + 1)))), (6, .int (iv (gJn q 0 (gDc n q K N Z (i + 1))))), (8, .int (iv 0)), (5, .int (iv (gDo q 5 (gl2i (N i))))), (4, .int (iv 5)), (0, .ref (gad (gSS ad) 145)), (1, .int (iv (f : Int))), (2, .int (iv (i : Int))), (3, .int (iv (q : Int)))]) dX10_measureOf_157 (by decide) rfl ?_
          refine gg_iincv (ls' := [(8, .int (iv 1)), (7, .int (iv (I (174 + f) (i + 1)))), (6, .int (iv (gJn q 0 (gDc n q K N Z (i + 1))))), (5, .int (iv (gDo q 5 (gl2i (N i))))), (4, .int (iv 5)), (0, .ref (gad (gSS ad) 145)), (1, .int (iv (f : Int))), (2, .int (iv (i : Int))), (3, .int (iv (q : Int)))]) dX10_measureOf_159 2 rfl rfl (by decide) rfl ?_
          refine gg_goto (tgt := 122) dX10_measureOf_162 (by decide) ?_
          refine gg_iload dX10_measureOf_122 0 rfl ?_
          refine gg_iload dX10_measureOf_124 4 rfl ?_
          refine gg_callSi (own := RX10) (yt := gm_X10_parts) rfl gl_RX10_98 gk_X10_parts gr_X10_parts dX10_measureOf_126 (c_X10_parts (d := d - 1) (k := 5) (by omega)) rfl rfl (Nat.le_of_ble_eq_true rfl) (by show _ ≤ d; omega) ⟨Nat.le_refl _, Nat.le_refl _⟩ (fun e100 μ' hc => ?_)
          obtain ⟨rfl, rfl⟩ := hc
          refine gg_toI (b := 1) rfl ?_
          refine gg_icmp_ge_t (tgt := 165) dX10_measureOf_129 (by decide) (by decide) (by decide) ?_
          refine gg_sipush dX10_measureOf_165 (by decide) ?_
          refine gg_iload dX10_measureOf_168 2 rfl ?_
          refine gg_iload dX10_measureOf_170 3 rfl ?_
          refine gg_iadd dX10_measureOf_172 ?_
          refine gg_mmin rfl gl_RX10_299 dX10_measureOf_173 (by first | omega | (have := @gJn_rng q 0 (gDc n q K N Z (i + 1)) 0 9999 (by omega) (by omega); have := @gJn_rng q (gJn q 0 (gDc n q K N Z (i + 1))) (gDc n q K N Z (gPt Z i 1)) 9999 9999 (by omega) (by omega); have := @gJn_rng q (gJn q (gJn q 0 (gDc n q K N Z (i + 1))) (gDc n q K N Z (gPt Z i 1))) (gDc n q K N Z (gPt Z i 2)) 19998 9999 (by omega) (by omega); omega) | (have := @gJn_rng q 0 (gDc n q K N Z (i + 1)) 0 9999 (by omega) (by omega); have := @gJn_rng q (gJn q 0 (gDc n q K N Z (i + 1))) (gDc n q K N Z (gPt Z i 1)) 9999 9999 (by omega) (by omega); omega) | (have := @gJn_rng q 0 (gDc n q K N Z (i + 1)) 0 9999 (by omega) (by omega); omega) | (split <;> omega) | (have := @gJn_rng q 0 (gDc n q K N Z (i + 1)) 0 9999 (by omega) (by omega); split <;> omega)) (Nat.le_of_ble_eq_true rfl) (by omega) ⟨Nat.le_refl _, Nat.le_refl _⟩ ?_
          refine gg_ireti dX10_measureOf_176 rfl ⟨rfl, rfl⟩ ?_
          refine ⟨rfl, ?_⟩
          rw [gDc_is n q K N Z i hi]
          unfold gdF
          rw [hk]
          unfold gDj
          rw [if_neg (show ¬ (q = 4 ∧ 5 = 6) by omega), if_neg (show ¬ (q = 5 ∧ 5 = 7) by omega)]
          exact rfl
      · refine gg_iload dX10_measureOf_35 2 rfl ?_
        refine gg_bipush dX10_measureOf_37 (by decide) ?_
        refine gg_icmp_ne_t (tgt := 84) dX10_measureOf_39 (by decide) (by decide) (by decide) ?_
        refine gg_iload_n dX10_measureOf_84 6 rfl ?_
        refine gg_iconst dX10_measureOf_85 ?_
        refine gg_icmp_ne (tgt := 114) dX10_measureOf_86 (by decide) (by omega) (fun hq5 => ?_) (fun hq5 => ?_)
        · refine gg_iload_n dX10_measureOf_114 5 rfl ?_
          refine gg_iconst dX10_measureOf_115 ?_
          refine gg_iadd dX10_measureOf_116 ?_
          refine gg_toI (b := ((i + 1 : Nat) : Int)) (by omega) ?_
          refine gg_istore (ls' := [(7, .int (iv ((i + 1 : Nat) : Int))), (6, .int (iv 0)), (5, .int (iv (gDo q 5 (gl2i (N i))))), (4, .int (iv 5)), (0, .ref (gad (gSS ad) 145)), (1, .int (iv (f : Int))), (2, .int (iv (i : Int))), (3, .int (iv (q : Int)))]) dX10_measureOf_117 (by decide) rfl ?_
          refine gg_iconst dX10_measureOf_119 ?_
          refine gg_istore (ls' := [(8, .int (iv 0)), (7, .int (iv ((i + 1 : Nat) : Int))), (6, .int (iv 0)), (5, .int (iv (gDo q 5 (gl2i (N i))))), (4, .int (iv 5)), (0, .ref (gad (gSS ad) 145)), (1, .int (iv (f : Int))), (2, .int (iv (i : Int))), (3, .int (iv (q : Int)))]) dX10_measureOf_120 (by decide) rfl ?_
          refine gg_iload dX10_measureOf_122 0 rfl ?_
          refine gg_iload dX10_measureOf_124 4 rfl ?_
          refine gg_callSi (own := RX10) (yt := gm_X10_parts) rfl gl_RX10_98 gk_X10_parts gr_X10_parts dX10_measureOf_126 (c_X10_parts (d := d - 1) (k := 5) (by omega)) rfl rfl (Nat.le_of_ble_eq_true rfl) (by show _ ≤ d; omega) ⟨Nat.le_refl _, Nat.le_refl _⟩ (fun e101 μ' hc => ?_)
          obtain ⟨rfl, rfl⟩ := hc
          refine gg_toI (b := 1) rfl ?_
          refine gg_icmp_ge_f (tgt := 165) dX10_measureOf_129 (by decide) (by decide) (by decide) ?_
          refine gg_iload_n dX10_measureOf_132 8 rfl ?_
          refine gg_iload dX10_measureOf_133 2 rfl ?_
          refine gg_aload_n dX10_measureOf_135 5 rfl ?_
          refine gg_iload_n dX10_measureOf_136 6 rfl ?_
          refine gg_iload dX10_measureOf_137 1 rfl ?_
          refine gg_iload_n dX10_measureOf_139 8 rfl ?_
          refine gg_callVi (own := RX10) (yt := gm_X10_measureOf) rfl gl_RX10_293 gk_X10_measureOf gr_X10_measureOf dX10_measureOf_140 (ih (i + 1) (hc1 (by rw [hk]; decide)) (by have := he1 (by rw [hk]; decide); omega) (d - 1) (by omega)) sh_145 pl_145 (by decide) rfl rfl rfl (Nat.le_of_ble_eq_true rfl) (by show _ ≤ d; omega) ⟨Nat.le_refl _, Nat.le_refl _⟩ (fun e102 μ' hc => ?_)
          obtain ⟨rfl, rfl⟩ := hc
          refine gg_callSi (own := RX10) (yt := gm_X10_join) rfl gl_RX10_296 gk_X10_join gr_X10_join dX10_measureOf_143 (c_X10_join (d := d - 1) (q := q) hq (by first | omega | (have := @gJn_rng q 0 (gDc n q K N Z (i + 1)) 0 9999 (by omega) (by omega); have := @gJn_rng q (gJn q 0 (gDc n q K N Z (i + 1))) (gDc n q K N Z (gPt Z i 1)) 9999 9999 (by omega) (by omega); omega) | (have := @gJn_rng q 0 (gDc n q K N Z (i + 1)) 0 9999 (by omega) (by omega); omega)) (by omega) (by omega)) rfl rfl (Nat.le_of_ble_eq_true rfl) (by show _ ≤ d; omega) ⟨Nat.le_refl _, Nat.le_refl _⟩ (fun e103 μ' hc => ?_)
          obtain ⟨rfl, rfl⟩ := hc
          refine gg_istore (ls' := [(6, .int (iv (gJn q 0 (gDc n q K N Z (i + 1))))), (8, .int (iv 0)), (7, .int (iv ((i + 1 : Nat) : Int))), (5, .int (iv (gDo q 5 (gl2i (N i))))), (4, .int (iv 5)), (0, .ref (gad (gSS ad) 145)), (1, .int (iv (f : Int))), (2, .int (iv (i : Int))), (3, .int (iv (q : Int)))]) dX10_measureOf_146 (by decide) rfl ?_
          refine gg_aload_n dX10_measureOf_148 5 rfl ?_
          refine gg_getR (k' := 173) rfl gf_RX10_23 dX10_measureOf_149 sh_145 pl_145 (by decide) (by decide) rr_145_3 ?_
          refine gg_iload_n dX10_measureOf_152 6 rfl ?_
          refine gg_aaldj (t := 6) f (k' := (174 + f)) dX10_measureOf_153 sh_173 (by decide) pl_173 (by decide) rfl hf (rr_173 hf) ?_
          refine gg_iload dX10_measureOf_154 2 rfl ?_
          refine gg_ialdj (i + 1) dX10_measureOf_156 (rs_173 hf) (rl_173 hf) (by decide) rfl (by have := hc1 (by rw [hk]; decide); omega) ?_
          refine gg_istore (ls' := [(7, .int (iv (I (174 + f) (i + 1)))), (6, .int (iv (gJn q 0 (gDc n q K N Z (i + 1))))), (8, .int (iv 0)), (5, .int (iv (gDo q 5 (gl2i (N i))))), (4, .int (iv 5)), (0, .ref (gad (gSS ad) 145)), (1, .int (iv (f : Int))), (2, .int (iv (i : Int))), (3, .int (iv (q : Int)))]) dX10_measureOf_157 (by decide) rfl ?_
          refine gg_iincv (ls' := [(8, .int (iv 1)), (7, .int (iv (I (174 + f) (i + 1)))), (6, .int (iv (gJn q 0 (gDc n q K N Z (i + 1))))), (5, .int (iv (gDo q 5 (gl2i (N i))))), (4, .int (iv 5)), (0, .ref (gad (gSS ad) 145)), (1, .int (iv (f : Int))), (2, .int (iv (i : Int))), (3, .int (iv (q : Int)))]) dX10_measureOf_159 2 rfl rfl (by decide) rfl ?_
          refine gg_goto (tgt := 122) dX10_measureOf_162 (by decide) ?_
          refine gg_iload dX10_measureOf_122 0 rfl ?_
          refine gg_iload dX10_measureOf_124 4 rfl ?_
          refine gg_callSi (own := RX10) (yt := gm_X10_parts) rfl gl_RX10_98 gk_X10_parts gr_X10_parts dX10_measureOf_126 (c_X10_parts (d := d - 1) (k := 5) (by omega)) rfl rfl (Nat.le_of_ble_eq_true rfl) (by show _ ≤ d; omega) ⟨Nat.le_refl _, Nat.le_refl _⟩ (fun e104 μ' hc => ?_)
          obtain ⟨rfl, rfl⟩ := hc
          refine gg_toI (b := 1) rfl ?_
          refine gg_icmp_ge_t (tgt := 165) dX10_measureOf_129 (by decide) (by decide) (by decide) ?_
          refine gg_sipush dX10_measureOf_165 (by decide) ?_
          refine gg_iload dX10_measureOf_168 2 rfl ?_
          refine gg_iload dX10_measureOf_170 3 rfl ?_
          refine gg_iadd dX10_measureOf_172 ?_
          refine gg_mmin rfl gl_RX10_299 dX10_measureOf_173 (by first | omega | (have := @gJn_rng q 0 (gDc n q K N Z (i + 1)) 0 9999 (by omega) (by omega); have := @gJn_rng q (gJn q 0 (gDc n q K N Z (i + 1))) (gDc n q K N Z (gPt Z i 1)) 9999 9999 (by omega) (by omega); have := @gJn_rng q (gJn q (gJn q 0 (gDc n q K N Z (i + 1))) (gDc n q K N Z (gPt Z i 1))) (gDc n q K N Z (gPt Z i 2)) 19998 9999 (by omega) (by omega); omega) | (have := @gJn_rng q 0 (gDc n q K N Z (i + 1)) 0 9999 (by omega) (by omega); have := @gJn_rng q (gJn q 0 (gDc n q K N Z (i + 1))) (gDc n q K N Z (gPt Z i 1)) 9999 9999 (by omega) (by omega); omega) | (have := @gJn_rng q 0 (gDc n q K N Z (i + 1)) 0 9999 (by omega) (by omega); omega) | (split <;> omega) | (have := @gJn_rng q 0 (gDc n q K N Z (i + 1)) 0 9999 (by omega) (by omega); split <;> omega)) (Nat.le_of_ble_eq_true rfl) (by omega) ⟨Nat.le_refl _, Nat.le_refl _⟩ ?_
          refine gg_ireti dX10_measureOf_176 rfl ⟨rfl, rfl⟩ ?_
          refine ⟨rfl, ?_⟩
          rw [gDc_is n q K N Z i hi]
          unfold gdF
          rw [hk]
          unfold gDj
          rw [if_neg (show ¬ (q = 4 ∧ 5 = 6) by omega), if_neg (show ¬ (q = 5 ∧ 5 = 7) by omega)]
          exact rfl
        · refine gg_iload dX10_measureOf_89 2 rfl ?_
          refine gg_bipush dX10_measureOf_91 (by decide) ?_
          refine gg_icmp_ne_t (tgt := 114) dX10_measureOf_93 (by decide) (by decide) (by decide) ?_
          refine gg_iload_n dX10_measureOf_114 5 rfl ?_
          refine gg_iconst dX10_measureOf_115 ?_
          refine gg_iadd dX10_measureOf_116 ?_
          refine gg_toI (b := ((i + 1 : Nat) : Int)) (by omega) ?_
          refine gg_istore (ls' := [(7, .int (iv ((i + 1 : Nat) : Int))), (6, .int (iv 0)), (5, .int (iv (gDo q 5 (gl2i (N i))))), (4, .int (iv 5)), (0, .ref (gad (gSS ad) 145)), (1, .int (iv (f : Int))), (2, .int (iv (i : Int))), (3, .int (iv (q : Int)))]) dX10_measureOf_117 (by decide) rfl ?_
          refine gg_iconst dX10_measureOf_119 ?_
          refine gg_istore (ls' := [(8, .int (iv 0)), (7, .int (iv ((i + 1 : Nat) : Int))), (6, .int (iv 0)), (5, .int (iv (gDo q 5 (gl2i (N i))))), (4, .int (iv 5)), (0, .ref (gad (gSS ad) 145)), (1, .int (iv (f : Int))), (2, .int (iv (i : Int))), (3, .int (iv (q : Int)))]) dX10_measureOf_120 (by decide) rfl ?_
          refine gg_iload dX10_measureOf_122 0 rfl ?_
          refine gg_iload dX10_measureOf_124 4 rfl ?_
          refine gg_callSi (own := RX10) (yt := gm_X10_parts) rfl gl_RX10_98 gk_X10_parts gr_X10_parts dX10_measureOf_126 (c_X10_parts (d := d - 1) (k := 5) (by omega)) rfl rfl (Nat.le_of_ble_eq_true rfl) (by show _ ≤ d; omega) ⟨Nat.le_refl _, Nat.le_refl _⟩ (fun e105 μ' hc => ?_)
          obtain ⟨rfl, rfl⟩ := hc
          refine gg_toI (b := 1) rfl ?_
          refine gg_icmp_ge_f (tgt := 165) dX10_measureOf_129 (by decide) (by decide) (by decide) ?_
          refine gg_iload_n dX10_measureOf_132 8 rfl ?_
          refine gg_iload dX10_measureOf_133 2 rfl ?_
          refine gg_aload_n dX10_measureOf_135 5 rfl ?_
          refine gg_iload_n dX10_measureOf_136 6 rfl ?_
          refine gg_iload dX10_measureOf_137 1 rfl ?_
          refine gg_iload_n dX10_measureOf_139 8 rfl ?_
          refine gg_callVi (own := RX10) (yt := gm_X10_measureOf) rfl gl_RX10_293 gk_X10_measureOf gr_X10_measureOf dX10_measureOf_140 (ih (i + 1) (hc1 (by rw [hk]; decide)) (by have := he1 (by rw [hk]; decide); omega) (d - 1) (by omega)) sh_145 pl_145 (by decide) rfl rfl rfl (Nat.le_of_ble_eq_true rfl) (by show _ ≤ d; omega) ⟨Nat.le_refl _, Nat.le_refl _⟩ (fun e106 μ' hc => ?_)
          obtain ⟨rfl, rfl⟩ := hc
          refine gg_callSi (own := RX10) (yt := gm_X10_join) rfl gl_RX10_296 gk_X10_join gr_X10_join dX10_measureOf_143 (c_X10_join (d := d - 1) (q := q) hq (by first | omega | (have := @gJn_rng q 0 (gDc n q K N Z (i + 1)) 0 9999 (by omega) (by omega); have := @gJn_rng q (gJn q 0 (gDc n q K N Z (i + 1))) (gDc n q K N Z (gPt Z i 1)) 9999 9999 (by omega) (by omega); omega) | (have := @gJn_rng q 0 (gDc n q K N Z (i + 1)) 0 9999 (by omega) (by omega); omega)) (by omega) (by omega)) rfl rfl (Nat.le_of_ble_eq_true rfl) (by show _ ≤ d; omega) ⟨Nat.le_refl _, Nat.le_refl _⟩ (fun e107 μ' hc => ?_)
          obtain ⟨rfl, rfl⟩ := hc
          refine gg_istore (ls' := [(6, .int (iv (gJn q 0 (gDc n q K N Z (i + 1))))), (8, .int (iv 0)), (7, .int (iv ((i + 1 : Nat) : Int))), (5, .int (iv (gDo q 5 (gl2i (N i))))), (4, .int (iv 5)), (0, .ref (gad (gSS ad) 145)), (1, .int (iv (f : Int))), (2, .int (iv (i : Int))), (3, .int (iv (q : Int)))]) dX10_measureOf_146 (by decide) rfl ?_
          refine gg_aload_n dX10_measureOf_148 5 rfl ?_
          refine gg_getR (k' := 173) rfl gf_RX10_23 dX10_measureOf_149 sh_145 pl_145 (by decide) (by decide) rr_145_3 ?_
          refine gg_iload_n dX10_measureOf_152 6 rfl ?_
          refine gg_aaldj (t := 6) f (k' := (174 + f)) dX10_measureOf_153 sh_173 (by decide) pl_173 (by decide) rfl hf (rr_173 hf) ?_
          refine gg_iload dX10_measureOf_154 2 rfl ?_
          refine gg_ialdj (i + 1) dX10_measureOf_156 (rs_173 hf) (rl_173 hf) (by decide) rfl (by have := hc1 (by rw [hk]; decide); omega) ?_
          refine gg_istore (ls' := [(7, .int (iv (I (174 + f) (i + 1)))), (6, .int (iv (gJn q 0 (gDc n q K N Z (i + 1))))), (8, .int (iv 0)), (5, .int (iv (gDo q 5 (gl2i (N i))))), (4, .int (iv 5)), (0, .ref (gad (gSS ad) 145)), (1, .int (iv (f : Int))), (2, .int (iv (i : Int))), (3, .int (iv (q : Int)))]) dX10_measureOf_157 (by decide) rfl ?_
          refine gg_iincv (ls' := [(8, .int (iv 1)), (7, .int (iv (I (174 + f) (i + 1)))), (6, .int (iv (gJn q 0 (gDc n q K N Z (i + 1))))), (5, .int (iv (gDo q 5 (gl2i (N i))))), (4, .int (iv 5)), (0, .ref (gad (gSS ad) 145)), (1, .int (iv (f : Int))), (2, .int (iv (i : Int))), (3, .int (iv (q : Int)))]) dX10_measureOf_159 2 rfl rfl (by decide) rfl ?_
          refine gg_goto (tgt := 122) dX10_measureOf_162 (by decide) ?_
          refine gg_iload dX10_measureOf_122 0 rfl ?_
          refine gg_iload dX10_measureOf_124 4 rfl ?_
          refine gg_callSi (own := RX10) (yt := gm_X10_parts) rfl gl_RX10_98 gk_X10_parts gr_X10_parts dX10_measureOf_126 (c_X10_parts (d := d - 1) (k := 5) (by omega)) rfl rfl (Nat.le_of_ble_eq_true rfl) (by show _ ≤ d; omega) ⟨Nat.le_refl _, Nat.le_refl _⟩ (fun e108 μ' hc => ?_)
          obtain ⟨rfl, rfl⟩ := hc
          refine gg_toI (b := 1) rfl ?_
          refine gg_icmp_ge_t (tgt := 165) dX10_measureOf_129 (by decide) (by decide) (by decide) ?_
          refine gg_sipush dX10_measureOf_165 (by decide) ?_
          refine gg_iload dX10_measureOf_168 2 rfl ?_
          refine gg_iload dX10_measureOf_170 3 rfl ?_
          refine gg_iadd dX10_measureOf_172 ?_
          refine gg_mmin rfl gl_RX10_299 dX10_measureOf_173 (by first | omega | (have := @gJn_rng q 0 (gDc n q K N Z (i + 1)) 0 9999 (by omega) (by omega); have := @gJn_rng q (gJn q 0 (gDc n q K N Z (i + 1))) (gDc n q K N Z (gPt Z i 1)) 9999 9999 (by omega) (by omega); have := @gJn_rng q (gJn q (gJn q 0 (gDc n q K N Z (i + 1))) (gDc n q K N Z (gPt Z i 1))) (gDc n q K N Z (gPt Z i 2)) 19998 9999 (by omega) (by omega); omega) | (have := @gJn_rng q 0 (gDc n q K N Z (i + 1)) 0 9999 (by omega) (by omega); have := @gJn_rng q (gJn q 0 (gDc n q K N Z (i + 1))) (gDc n q K N Z (gPt Z i 1)) 9999 9999 (by omega) (by omega); omega) | (have := @gJn_rng q 0 (gDc n q K N Z (i + 1)) 0 9999 (by omega) (by omega); omega) | (split <;> omega) | (have := @gJn_rng q 0 (gDc n q K N Z (i + 1)) 0 9999 (by omega) (by omega); split <;> omega)) (Nat.le_of_ble_eq_true rfl) (by omega) ⟨Nat.le_refl _, Nat.le_refl _⟩ ?_
          refine gg_ireti dX10_measureOf_176 rfl ⟨rfl, rfl⟩ ?_
          refine ⟨rfl, ?_⟩
          rw [gDc_is n q K N Z i hi]
          unfold gdF
          rw [hk]
          unfold gDj
          rw [if_neg (show ¬ (q = 4 ∧ 5 = 6) by omega), if_neg (show ¬ (q = 5 ∧ 5 = 7) by omega)]
          exact rfl
    · refine gg_toI (b := 6) (by omega) ?_
      refine gg_istore (ls' := [(4, .int (iv 6)), (0, .ref (gad (gSS ad) 145)), (1, .int (iv (f : Int))), (2, .int (iv (i : Int))), (3, .int (iv (q : Int)))]) dX10_measureOf_8 (by decide) rfl ?_
      have g1 := gD_rng (q := q) hW _ (hc1 (by rw [hk]; decide))
      have g2 := gD_rng (q := q) hW _ (hc2 (by rw [hk]; decide))
      have g3 := gD_rng (q := q) hW _ (hc3 (by rw [hk]; decide))
      have hor := gDo_rng hW hi q
      rw [hk] at hor
      refine gg_iload_n dX10_measureOf_10 4 rfl ?_
      refine gg_iload dX10_measureOf_11 0 rfl ?_
      refine gg_aload_n dX10_measureOf_13 1 rfl ?_
      refine gg_getR (k' := 160) rfl gf_RX10_20 dX10_measureOf_14 sh_145 pl_145 (by decide) (by decide) rr_145_2 ?_
      refine gg_iload_n dX10_measureOf_17 2 rfl ?_
      refine gg_aaldj (t := 7) f (k' := (161 + f)) dX10_measureOf_18 sh_160 (by decide) pl_160 (by decide) rfl hf (rr_160 hf) ?_
      refine gg_iload_n dX10_measureOf_19 3 rfl ?_
      refine gg_laldj i dX10_measureOf_20 (rs_160 hf) (rl_160 hf) (by decide) rfl (by omega) ?_
      refine gg_toL (b := N i) (hM.2 i hi).2.1 ?_
      refine gg_l2i dX10_measureOf_21 ?_
      refine gg_callSi (own := RX10) (yt := gm_X10_own) rfl gl_RX10_289 gk_X10_own gr_X10_own dX10_measureOf_22 (c_X10_own (d := d - 1) (q := q) (k := 6) hq (by omega)) rfl rfl (Nat.le_of_ble_eq_true rfl) (by show _ ≤ d; omega) ⟨Nat.le_refl _, Nat.le_refl _⟩ (fun e109 μ' hc => ?_)
      obtain ⟨rfl, rfl⟩ := hc
      refine gg_toI (b := gDo q 6 (gl2i (N i))) (if_neg (by omega)) ?_
      refine gg_istore (ls' := [(5, .int (iv (gDo q 6 (gl2i (N i))))), (4, .int (iv 6)), (0, .ref (gad (gSS ad) 145)), (1, .int (iv (f : Int))), (2, .int (iv (i : Int))), (3, .int (iv (q : Int)))]) dX10_measureOf_25 (by decide) rfl ?_
      refine gg_iconst dX10_measureOf_27 ?_
      refine gg_istore (ls' := [(6, .int (iv 0)), (5, .int (iv (gDo q 6 (gl2i (N i))))), (4, .int (iv 6)), (0, .ref (gad (gSS ad) 145)), (1, .int (iv (f : Int))), (2, .int (iv (i : Int))), (3, .int (iv (q : Int)))]) dX10_measureOf_28 (by decide) rfl ?_
      refine gg_iload_n dX10_measureOf_30 6 rfl ?_
      refine gg_iconst dX10_measureOf_31 ?_
      refine gg_icmp_ne (tgt := 84) dX10_measureOf_32 (by decide) (by omega) (fun hb110 => ?_) (fun hb110 => ?_)
      · refine gg_iload_n dX10_measureOf_84 6 rfl ?_
        refine gg_iconst dX10_measureOf_85 ?_
        refine gg_icmp_ne (tgt := 114) dX10_measureOf_86 (by decide) (by omega) (fun hq5 => ?_) (fun hq5 => ?_)
        · refine gg_iload_n dX10_measureOf_114 5 rfl ?_
          refine gg_iconst dX10_measureOf_115 ?_
          refine gg_iadd dX10_measureOf_116 ?_
          refine gg_toI (b := ((i + 1 : Nat) : Int)) (by omega) ?_
          refine gg_istore (ls' := [(7, .int (iv ((i + 1 : Nat) : Int))), (6, .int (iv 0)), (5, .int (iv (gDo q 6 (gl2i (N i))))), (4, .int (iv 6)), (0, .ref (gad (gSS ad) 145)), (1, .int (iv (f : Int))), (2, .int (iv (i : Int))), (3, .int (iv (q : Int)))]) dX10_measureOf_117 (by decide) rfl ?_
          refine gg_iconst dX10_measureOf_119 ?_
          refine gg_istore (ls' := [(8, .int (iv 0)), (7, .int (iv ((i + 1 : Nat) : Int))), (6, .int (iv 0)), (5, .int (iv (gDo q 6 (gl2i (N i))))), (4, .int (iv 6)), (0, .ref (gad (gSS ad) 145)), (1, .int (iv (f : Int))), (2, .int (iv (i : Int))), (3, .int (iv (q : Int)))]) dX10_measureOf_120 (by decide) rfl ?_
          refine gg_iload dX10_measureOf_122 0 rfl ?_
          refine gg_iload dX10_measureOf_124 4 rfl ?_
          refine gg_callSi (own := RX10) (yt := gm_X10_parts) rfl gl_RX10_98 gk_X10_parts gr_X10_parts dX10_measureOf_126 (c_X10_parts (d := d - 1) (k := 6) (by omega)) rfl rfl (Nat.le_of_ble_eq_true rfl) (by show _ ≤ d; omega) ⟨Nat.le_refl _, Nat.le_refl _⟩ (fun e111 μ' hc => ?_)
          obtain ⟨rfl, rfl⟩ := hc
          refine gg_toI (b := 3) rfl ?_
          refine gg_icmp_ge_f (tgt := 165) dX10_measureOf_129 (by decide) (by decide) (by decide) ?_
          refine gg_iload_n dX10_measureOf_132 8 rfl ?_
          refine gg_iload dX10_measureOf_133 2 rfl ?_
          refine gg_aload_n dX10_measureOf_135 5 rfl ?_
          refine gg_iload_n dX10_measureOf_136 6 rfl ?_
          refine gg_iload dX10_measureOf_137 1 rfl ?_
          refine gg_iload_n dX10_measureOf_139 8 rfl ?_
          refine gg_callVi (own := RX10) (yt := gm_X10_measureOf) rfl gl_RX10_293 gk_X10_measureOf gr_X10_measureOf dX10_measureOf_140 (ih (i + 1) (hc1 (by rw [hk]; decide)) (by have := he3 (by rw [hk]; decide); omega) (d - 1) (by omega)) sh_145 pl_145 (by decide) rfl rfl rfl (Nat.le_of_ble_eq_true rfl) (by show _ ≤ d; omega) ⟨Nat.le_refl _, Nat.le_refl _⟩ (fun e112 μ' hc => ?_)
          obtain ⟨rfl, rfl⟩ := hc
          refine gg_callSi (own := RX10) (yt := gm_X10_join) rfl gl_RX10_296 gk_X10_join gr_X10_join dX10_measureOf_143 (c_X10_join (d := d - 1) (q := q) hq (by first | omega | (have := @gJn_rng q 0 (gDc n q K N Z (i + 1)) 0 9999 (by omega) (by omega); have := @gJn_rng q (gJn q 0 (gDc n q K N Z (i + 1))) (gDc n q K N Z (gPt Z i 1)) 9999 9999 (by omega) (by omega); omega) | (have := @gJn_rng q 0 (gDc n q K N Z (i + 1)) 0 9999 (by omega) (by omega); omega)) (by omega) (by omega)) rfl rfl (Nat.le_of_ble_eq_true rfl) (by show _ ≤ d; omega) ⟨Nat.le_refl _, Nat.le_refl _⟩ (fun e113 μ' hc => ?_)
          obtain ⟨rfl, rfl⟩ := hc
          refine gg_istore (ls' := [(6, .int (iv (gJn q 0 (gDc n q K N Z (i + 1))))), (8, .int (iv 0)), (7, .int (iv ((i + 1 : Nat) : Int))), (5, .int (iv (gDo q 6 (gl2i (N i))))), (4, .int (iv 6)), (0, .ref (gad (gSS ad) 145)), (1, .int (iv (f : Int))), (2, .int (iv (i : Int))), (3, .int (iv (q : Int)))]) dX10_measureOf_146 (by decide) rfl ?_
          refine gg_aload_n dX10_measureOf_148 5 rfl ?_
          refine gg_getR (k' := 173) rfl gf_RX10_23 dX10_measureOf_149 sh_145 pl_145 (by decide) (by decide) rr_145_3 ?_
          refine gg_iload_n dX10_measureOf_152 6 rfl ?_
          refine gg_aaldj (t := 6) f (k' := (174 + f)) dX10_measureOf_153 sh_173 (by decide) pl_173 (by decide) rfl hf (rr_173 hf) ?_
          refine gg_iload dX10_measureOf_154 2 rfl ?_
          refine gg_ialdj (i + 1) dX10_measureOf_156 (rs_173 hf) (rl_173 hf) (by decide) rfl (by have := hc1 (by rw [hk]; decide); omega) ?_
          refine gg_toI (b := (gPt Z i 1 : Int)) (by have := (hM.2 (i + 1) (hc1 (by rw [hk]; decide))).2.2; simp only [gPt] at this ⊢; omega) ?_
          refine gg_istore (ls' := [(7, .int (iv (gPt Z i 1 : Int))), (6, .int (iv (gJn q 0 (gDc n q K N Z (i + 1))))), (8, .int (iv 0)), (5, .int (iv (gDo q 6 (gl2i (N i))))), (4, .int (iv 6)), (0, .ref (gad (gSS ad) 145)), (1, .int (iv (f : Int))), (2, .int (iv (i : Int))), (3, .int (iv (q : Int)))]) dX10_measureOf_157 (by decide) rfl ?_
          refine gg_iincv (ls' := [(8, .int (iv 1)), (7, .int (iv (gPt Z i 1 : Int))), (6, .int (iv (gJn q 0 (gDc n q K N Z (i + 1))))), (5, .int (iv (gDo q 6 (gl2i (N i))))), (4, .int (iv 6)), (0, .ref (gad (gSS ad) 145)), (1, .int (iv (f : Int))), (2, .int (iv (i : Int))), (3, .int (iv (q : Int)))]) dX10_measureOf_159 2 rfl rfl (by decide) rfl ?_
          refine gg_goto (tgt := 122) dX10_measureOf_162 (by decide) ?_
          refine gg_iload dX10_measureOf_122 0 rfl ?_
          refine gg_iload dX10_measureOf_124 4 rfl ?_
          refine gg_callSi (own := RX10) (yt := gm_X10_parts) rfl gl_RX10_98 gk_X10_parts gr_X10_parts dX10_measureOf_126 (c_X10_parts (d := d - 1) (k := 6) (by omega)) rfl rfl (Nat.le_of_ble_eq_true rfl) (by show _ ≤ d; omega) ⟨Nat.le_refl _, Nat.le_refl _⟩ (fun e114 μ' hc => ?_)
          obtain ⟨rfl, rfl⟩ := hc
          refine gg_toI (b := 3) rfl ?_
          refine gg_icmp_ge_f (tgt := 165) dX10_measureOf_129 (by decide) (by decide) (by decide) ?_
          refine gg_iload_n dX10_measureOf_132 8 rfl ?_
          refine gg_iload dX10_measureOf_133 2 rfl ?_
          refine gg_aload_n dX10_measureOf_135 5 rfl ?_
          refine gg_iload_n dX10_measureOf_136 6 rfl ?_
          refine gg_iload dX10_measureOf_137 1 rfl ?_
          refine gg_iload_n dX10_measureOf_139 8 rfl ?_
          refine gg_callVi (own := RX10) (yt := gm_X10_measureOf) rfl gl_RX10_293 gk_X10_measureOf gr_X10_measureOf dX10_measureOf_140 (ih (gPt Z i 1) (hc2 (by rw [hk]; decide)) (by have := he3 (by rw [hk]; decide); omega) (d - 1) (by omega)) sh_145 pl_145 (by decide) rfl rfl rfl (Nat.le_of_ble_eq_true rfl) (by show _ ≤ d; omega) ⟨Nat.le_refl _, Nat.le_refl _⟩ (fun e115 μ' hc => ?_)
          obtain ⟨rfl, rfl⟩ := hc
          refine gg_callSi (own := RX10) (yt := gm_X10_join) rfl gl_RX10_296 gk_X10_join gr_X10_join dX10_measureOf_143 (c_X10_join (d := d - 1) (q := q) hq (by first | omega | (have := @gJn_rng q 0 (gDc n q K N Z (i + 1)) 0 9999 (by omega) (by omega); have := @gJn_rng q (gJn q 0 (gDc n q K N Z (i + 1))) (gDc n q K N Z (gPt Z i 1)) 9999 9999 (by omega) (by omega); omega) | (have := @gJn_rng q 0 (gDc n q K N Z (i + 1)) 0 9999 (by omega) (by omega); omega)) (by omega) (by omega)) rfl rfl (Nat.le_of_ble_eq_true rfl) (by show _ ≤ d; omega) ⟨Nat.le_refl _, Nat.le_refl _⟩ (fun e116 μ' hc => ?_)
          obtain ⟨rfl, rfl⟩ := hc
          refine gg_istore (ls' := [(6, .int (iv (gJn q (gJn q 0 (gDc n q K N Z (i + 1))) (gDc n q K N Z (gPt Z i 1))))), (8, .int (iv 1)), (7, .int (iv (gPt Z i 1 : Int))), (5, .int (iv (gDo q 6 (gl2i (N i))))), (4, .int (iv 6)), (0, .ref (gad (gSS ad) 145)), (1, .int (iv (f : Int))), (2, .int (iv (i : Int))), (3, .int (iv (q : Int)))]) dX10_measureOf_146 (by decide) rfl ?_
          refine gg_aload_n dX10_measureOf_148 5 rfl ?_
          refine gg_getR (k' := 173) rfl gf_RX10_23 dX10_measureOf_149 sh_145 pl_145 (by decide) (by decide) rr_145_3 ?_
          refine gg_iload_n dX10_measureOf_152 6 rfl ?_
          refine gg_aaldj (t := 6) f (k' := (174 + f)) dX10_measureOf_153 sh_173 (by decide) pl_173 (by decide) rfl hf (rr_173 hf) ?_
          refine gg_iload dX10_measureOf_154 2 rfl ?_
          refine gg_ialdj (gPt Z i 1) dX10_measureOf_156 (rs_173 hf) (rl_173 hf) (by decide) rfl (by have := hc2 (by rw [hk]; decide); omega) ?_
          refine gg_toI (b := (gPt Z i 2 : Int)) (by have := (hM.2 (gPt Z i 1) (hc2 (by rw [hk]; decide))).2.2; simp only [gPt] at this ⊢; omega) ?_
          refine gg_istore (ls' := [(7, .int (iv (gPt Z i 2 : Int))), (6, .int (iv (gJn q (gJn q 0 (gDc n q K N Z (i + 1))) (gDc n q K N Z (gPt Z i 1))))), (8, .int (iv 1)), (5, .int (iv (gDo q 6 (gl2i (N i))))), (4, .int (iv 6)), (0, .ref (gad (gSS ad) 145)), (1, .int (iv (f : Int))), (2, .int (iv (i : Int))), (3, .int (iv (q : Int)))]) dX10_measureOf_157 (by decide) rfl ?_
          refine gg_iincv (ls' := [(8, .int (iv 2)), (7, .int (iv (gPt Z i 2 : Int))), (6, .int (iv (gJn q (gJn q 0 (gDc n q K N Z (i + 1))) (gDc n q K N Z (gPt Z i 1))))), (5, .int (iv (gDo q 6 (gl2i (N i))))), (4, .int (iv 6)), (0, .ref (gad (gSS ad) 145)), (1, .int (iv (f : Int))), (2, .int (iv (i : Int))), (3, .int (iv (q : Int)))]) dX10_measureOf_159 2 rfl rfl (by decide) rfl ?_
          refine gg_goto (tgt := 122) dX10_measureOf_162 (by decide) ?_
          refine gg_iload dX10_measureOf_122 0 rfl ?_
          refine gg_iload dX10_measureOf_124 4 rfl ?_
          refine gg_callSi (own := RX10) (yt := gm_X10_parts) rfl gl_RX10_98 gk_X10_parts gr_X10_parts dX10_measureOf_126 (c_X10_parts (d := d - 1) (k := 6) (by omega)) rfl rfl (Nat.le_of_ble_eq_true rfl) (by show _ ≤ d; omega) ⟨Nat.le_refl _, Nat.le_refl _⟩ (fun e117 μ' hc => ?_)
          obtain ⟨rfl, rfl⟩ := hc
          refine gg_toI (b := 3) rfl ?_
          refine gg_icmp_ge_f (tgt := 165) dX10_measureOf_129 (by decide) (by decide) (by decide) ?_
          refine gg_iload_n dX10_measureOf_132 8 rfl ?_
          refine gg_iload dX10_measureOf_133 2 rfl ?_
          refine gg_aload_n dX10_measureOf_135 5 rfl ?_
          refine gg_iload_n dX10_measureOf_136 6 rfl ?_
          refine gg_iload dX10_measureOf_137 1 rfl ?_
          refine gg_iload_n dX10_measureOf_139 8 rfl ?_
          refine gg_callVi (own := RX10) (yt := gm_X10_measureOf) rfl gl_RX10_293 gk_X10_measureOf gr_X10_measureOf dX10_measureOf_140 (ih (gPt Z i 2) (hc3 (by rw [hk]; decide)) (by have := he3 (by rw [hk]; decide); omega) (d - 1) (by omega)) sh_145 pl_145 (by decide) rfl rfl rfl (Nat.le_of_ble_eq_true rfl) (by show _ ≤ d; omega) ⟨Nat.le_refl _, Nat.le_refl _⟩ (fun e118 μ' hc => ?_)
          obtain ⟨rfl, rfl⟩ := hc
          refine gg_callSi (own := RX10) (yt := gm_X10_join) rfl gl_RX10_296 gk_X10_join gr_X10_join dX10_measureOf_143 (c_X10_join (d := d - 1) (q := q) hq (by first | omega | (have := @gJn_rng q 0 (gDc n q K N Z (i + 1)) 0 9999 (by omega) (by omega); have := @gJn_rng q (gJn q 0 (gDc n q K N Z (i + 1))) (gDc n q K N Z (gPt Z i 1)) 9999 9999 (by omega) (by omega); omega) | (have := @gJn_rng q 0 (gDc n q K N Z (i + 1)) 0 9999 (by omega) (by omega); omega)) (by omega) (by omega)) rfl rfl (Nat.le_of_ble_eq_true rfl) (by show _ ≤ d; omega) ⟨Nat.le_refl _, Nat.le_refl _⟩ (fun e119 μ' hc => ?_)
          obtain ⟨rfl, rfl⟩ := hc
          refine gg_istore (ls' := [(6, .int (iv (gJn q (gJn q (gJn q 0 (gDc n q K N Z (i + 1))) (gDc n q K N Z (gPt Z i 1))) (gDc n q K N Z (gPt Z i 2))))), (8, .int (iv 2)), (7, .int (iv (gPt Z i 2 : Int))), (5, .int (iv (gDo q 6 (gl2i (N i))))), (4, .int (iv 6)), (0, .ref (gad (gSS ad) 145)), (1, .int (iv (f : Int))), (2, .int (iv (i : Int))), (3, .int (iv (q : Int)))]) dX10_measureOf_146 (by decide) rfl ?_
          refine gg_aload_n dX10_measureOf_148 5 rfl ?_
          refine gg_getR (k' := 173) rfl gf_RX10_23 dX10_measureOf_149 sh_145 pl_145 (by decide) (by decide) rr_145_3 ?_
          refine gg_iload_n dX10_measureOf_152 6 rfl ?_
          refine gg_aaldj (t := 6) f (k' := (174 + f)) dX10_measureOf_153 sh_173 (by decide) pl_173 (by decide) rfl hf (rr_173 hf) ?_
          refine gg_iload dX10_measureOf_154 2 rfl ?_
          refine gg_ialdj (gPt Z i 2) dX10_measureOf_156 (rs_173 hf) (rl_173 hf) (by decide) rfl (by have := hc3 (by rw [hk]; decide); omega) ?_
          refine gg_istore (ls' := [(7, .int (iv (I (174 + f) (gPt Z i 2)))), (6, .int (iv (gJn q (gJn q (gJn q 0 (gDc n q K N Z (i + 1))) (gDc n q K N Z (gPt Z i 1))) (gDc n q K N Z (gPt Z i 2))))), (8, .int (iv 2)), (5, .int (iv (gDo q 6 (gl2i (N i))))), (4, .int (iv 6)), (0, .ref (gad (gSS ad) 145)), (1, .int (iv (f : Int))), (2, .int (iv (i : Int))), (3, .int (iv (q : Int)))]) dX10_measureOf_157 (by decide) rfl ?_
          refine gg_iincv (ls' := [(8, .int (iv 3)), (7, .int (iv (I (174 + f) (gPt Z i 2)))), (6, .int (iv (gJn q (gJn q (gJn q 0 (gDc n q K N Z (i + 1))) (gDc n q K N Z (gPt Z i 1))) (gDc n q K N Z (gPt Z i 2))))), (5, .int (iv (gDo q 6 (gl2i (N i))))), (4, .int (iv 6)), (0, .ref (gad (gSS ad) 145)), (1, .int (iv (f : Int))), (2, .int (iv (i : Int))), (3, .int (iv (q : Int)))]) dX10_measureOf_159 2 rfl rfl (by decide) rfl ?_
          refine gg_goto (tgt := 122) dX10_measureOf_162 (by decide) ?_
          refine gg_iload dX10_measureOf_122 0 rfl ?_
          refine gg_iload dX10_measureOf_124 4 rfl ?_
          refine gg_callSi (own := RX10) (yt := gm_X10_parts) rfl gl_RX10_98 gk_X10_parts gr_X10_parts dX10_measureOf_126 (c_X10_parts (d := d - 1) (k := 6) (by omega)) rfl rfl (Nat.le_of_ble_eq_true rfl) (by show _ ≤ d; omega) ⟨Nat.le_refl _, Nat.le_refl _⟩ (fun e120 μ' hc => ?_)
          obtain ⟨rfl, rfl⟩ := hc
          refine gg_toI (b := 3) rfl ?_
          refine gg_icmp_ge_t (tgt := 165) dX10_measureOf_129 (by decide) (by decide) (by decide) ?_
          refine gg_sipush dX10_measureOf_165 (by decide) ?_
          refine gg_iload dX10_measureOf_168 2 rfl ?_
          refine gg_iload dX10_measureOf_170 3 rfl ?_
          refine gg_iadd dX10_measureOf_172 ?_
          refine gg_mmin rfl gl_RX10_299 dX10_measureOf_173 (by first | omega | (have := @gJn_rng q 0 (gDc n q K N Z (i + 1)) 0 9999 (by omega) (by omega); have := @gJn_rng q (gJn q 0 (gDc n q K N Z (i + 1))) (gDc n q K N Z (gPt Z i 1)) 9999 9999 (by omega) (by omega); have := @gJn_rng q (gJn q (gJn q 0 (gDc n q K N Z (i + 1))) (gDc n q K N Z (gPt Z i 1))) (gDc n q K N Z (gPt Z i 2)) 19998 9999 (by omega) (by omega); omega) | (have := @gJn_rng q 0 (gDc n q K N Z (i + 1)) 0 9999 (by omega) (by omega); have := @gJn_rng q (gJn q 0 (gDc n q K N Z (i + 1))) (gDc n q K N Z (gPt Z i 1)) 9999 9999 (by omega) (by omega); omega) | (have := @gJn_rng q 0 (gDc n q K N Z (i + 1)) 0 9999 (by omega) (by omega); omega) | (split <;> omega) | (have := @gJn_rng q 0 (gDc n q K N Z (i + 1)) 0 9999 (by omega) (by omega); split <;> omega)) (Nat.le_of_ble_eq_true rfl) (by omega) ⟨Nat.le_refl _, Nat.le_refl _⟩ ?_
          refine gg_ireti dX10_measureOf_176 rfl ⟨rfl, rfl⟩ ?_
          refine ⟨rfl, ?_⟩
          rw [gDc_is n q K N Z i hi]
          unfold gdF
          rw [hk]
          unfold gDj
          rw [if_neg (show ¬ (q = 4 ∧ 6 = 6) by omega), if_neg (show ¬ (q = 5 ∧ 6 = 7) by omega)]
          exact rfl
        · refine gg_iload dX10_measureOf_89 2 rfl ?_
          refine gg_bipush dX10_measureOf_91 (by decide) ?_
          refine gg_icmp_ne_t (tgt := 114) dX10_measureOf_93 (by decide) (by decide) (by decide) ?_
          refine gg_iload_n dX10_measureOf_114 5 rfl ?_
          refine gg_iconst dX10_measureOf_115 ?_
          refine gg_iadd dX10_measureOf_116 ?_
          refine gg_toI (b := ((i + 1 : Nat) : Int)) (by omega) ?_
          refine gg_istore (ls' := [(7, .int (iv ((i + 1 : Nat) : Int))), (6, .int (iv 0)), (5, .int (iv (gDo q 6 (gl2i (N i))))), (4, .int (iv 6)), (0, .ref (gad (gSS ad) 145)), (1, .int (iv (f : Int))), (2, .int (iv (i : Int))), (3, .int (iv (q : Int)))]) dX10_measureOf_117 (by decide) rfl ?_
          refine gg_iconst dX10_measureOf_119 ?_
          refine gg_istore (ls' := [(8, .int (iv 0)), (7, .int (iv ((i + 1 : Nat) : Int))), (6, .int (iv 0)), (5, .int (iv (gDo q 6 (gl2i (N i))))), (4, .int (iv 6)), (0, .ref (gad (gSS ad) 145)), (1, .int (iv (f : Int))), (2, .int (iv (i : Int))), (3, .int (iv (q : Int)))]) dX10_measureOf_120 (by decide) rfl ?_
          refine gg_iload dX10_measureOf_122 0 rfl ?_
          refine gg_iload dX10_measureOf_124 4 rfl ?_
          refine gg_callSi (own := RX10) (yt := gm_X10_parts) rfl gl_RX10_98 gk_X10_parts gr_X10_parts dX10_measureOf_126 (c_X10_parts (d := d - 1) (k := 6) (by omega)) rfl rfl (Nat.le_of_ble_eq_true rfl) (by show _ ≤ d; omega) ⟨Nat.le_refl _, Nat.le_refl _⟩ (fun e121 μ' hc => ?_)
          obtain ⟨rfl, rfl⟩ := hc
          refine gg_toI (b := 3) rfl ?_
          refine gg_icmp_ge_f (tgt := 165) dX10_measureOf_129 (by decide) (by decide) (by decide) ?_
          refine gg_iload_n dX10_measureOf_132 8 rfl ?_
          refine gg_iload dX10_measureOf_133 2 rfl ?_
          refine gg_aload_n dX10_measureOf_135 5 rfl ?_
          refine gg_iload_n dX10_measureOf_136 6 rfl ?_
          refine gg_iload dX10_measureOf_137 1 rfl ?_
          refine gg_iload_n dX10_measureOf_139 8 rfl ?_
          refine gg_callVi (own := RX10) (yt := gm_X10_measureOf) rfl gl_RX10_293 gk_X10_measureOf gr_X10_measureOf dX10_measureOf_140 (ih (i + 1) (hc1 (by rw [hk]; decide)) (by have := he3 (by rw [hk]; decide); omega) (d - 1) (by omega)) sh_145 pl_145 (by decide) rfl rfl rfl (Nat.le_of_ble_eq_true rfl) (by show _ ≤ d; omega) ⟨Nat.le_refl _, Nat.le_refl _⟩ (fun e122 μ' hc => ?_)
          obtain ⟨rfl, rfl⟩ := hc
          refine gg_callSi (own := RX10) (yt := gm_X10_join) rfl gl_RX10_296 gk_X10_join gr_X10_join dX10_measureOf_143 (c_X10_join (d := d - 1) (q := q) hq (by first | omega | (have := @gJn_rng q 0 (gDc n q K N Z (i + 1)) 0 9999 (by omega) (by omega); have := @gJn_rng q (gJn q 0 (gDc n q K N Z (i + 1))) (gDc n q K N Z (gPt Z i 1)) 9999 9999 (by omega) (by omega); omega) | (have := @gJn_rng q 0 (gDc n q K N Z (i + 1)) 0 9999 (by omega) (by omega); omega)) (by omega) (by omega)) rfl rfl (Nat.le_of_ble_eq_true rfl) (by show _ ≤ d; omega) ⟨Nat.le_refl _, Nat.le_refl _⟩ (fun e123 μ' hc => ?_)
          obtain ⟨rfl, rfl⟩ := hc
          refine gg_istore (ls' := [(6, .int (iv (gJn q 0 (gDc n q K N Z (i + 1))))), (8, .int (iv 0)), (7, .int (iv ((i + 1 : Nat) : Int))), (5, .int (iv (gDo q 6 (gl2i (N i))))), (4, .int (iv 6)), (0, .ref (gad (gSS ad) 145)), (1, .int (iv (f : Int))), (2, .int (iv (i : Int))), (3, .int (iv (q : Int)))]) dX10_measureOf_146 (by decide) rfl ?_
          refine gg_aload_n dX10_measureOf_148 5 rfl ?_
          refine gg_getR (k' := 173) rfl gf_RX10_23 dX10_measureOf_149 sh_145 pl_145 (by decide) (by decide) rr_145_3 ?_
          refine gg_iload_n dX10_measureOf_152 6 rfl ?_
          refine gg_aaldj (t := 6) f (k' := (174 + f)) dX10_measureOf_153 sh_173 (by decide) pl_173 (by decide) rfl hf (rr_173 hf) ?_
          refine gg_iload dX10_measureOf_154 2 rfl ?_
          refine gg_ialdj (i + 1) dX10_measureOf_156 (rs_173 hf) (rl_173 hf) (by decide) rfl (by have := hc1 (by rw [hk]; decide); omega) ?_
          refine gg_toI (b := (gPt Z i 1 : Int)) (by have := (hM.2 (i + 1) (hc1 (by rw [hk]; decide))).2.2; simp only [gPt] at this ⊢; omega) ?_
          refine gg_istore (ls' := [(7, .int (iv (gPt Z i 1 : Int))), (6, .int (iv (gJn q 0 (gDc n q K N Z (i + 1))))), (8, .int (iv 0)), (5, .int (iv (gDo q 6 (gl2i (N i))))), (4, .int (iv 6)), (0, .ref (gad (gSS ad) 145)), (1, .int (iv (f : Int))), (2, .int (iv (i : Int))), (3, .int (iv (q : Int)))]) dX10_measureOf_157 (by decide) rfl ?_
          refine gg_iincv (ls' := [(8, .int (iv 1)), (7, .int (iv (gPt Z i 1 : Int))), (6, .int (iv (gJn q 0 (gDc n q K N Z (i + 1))))), (5, .int (iv (gDo q 6 (gl2i (N i))))), (4, .int (iv 6)), (0, .ref (gad (gSS ad) 145)), (1, .int (iv (f : Int))), (2, .int (iv (i : Int))), (3, .int (iv (q : Int)))]) dX10_measureOf_159 2 rfl rfl (by decide) rfl ?_
          refine gg_goto (tgt := 122) dX10_measureOf_162 (by decide) ?_
          refine gg_iload dX10_measureOf_122 0 rfl ?_
          refine gg_iload dX10_measureOf_124 4 rfl ?_
          refine gg_callSi (own := RX10) (yt := gm_X10_parts) rfl gl_RX10_98 gk_X10_parts gr_X10_parts dX10_measureOf_126 (c_X10_parts (d := d - 1) (k := 6) (by omega)) rfl rfl (Nat.le_of_ble_eq_true rfl) (by show _ ≤ d; omega) ⟨Nat.le_refl _, Nat.le_refl _⟩ (fun e124 μ' hc => ?_)
          obtain ⟨rfl, rfl⟩ := hc
          refine gg_toI (b := 3) rfl ?_
          refine gg_icmp_ge_f (tgt := 165) dX10_measureOf_129 (by decide) (by decide) (by decide) ?_
          refine gg_iload_n dX10_measureOf_132 8 rfl ?_
          refine gg_iload dX10_measureOf_133 2 rfl ?_
          refine gg_aload_n dX10_measureOf_135 5 rfl ?_
          refine gg_iload_n dX10_measureOf_136 6 rfl ?_
          refine gg_iload dX10_measureOf_137 1 rfl ?_
          refine gg_iload_n dX10_measureOf_139 8 rfl ?_
          refine gg_callVi (own := RX10) (yt := gm_X10_measureOf) rfl gl_RX10_293 gk_X10_measureOf gr_X10_measureOf dX10_measureOf_140 (ih (gPt Z i 1) (hc2 (by rw [hk]; decide)) (by have := he3 (by rw [hk]; decide); omega) (d - 1) (by omega)) sh_145 pl_145 (by decide) rfl rfl rfl (Nat.le_of_ble_eq_true rfl) (by show _ ≤ d; omega) ⟨Nat.le_refl _, Nat.le_refl _⟩ (fun e125 μ' hc => ?_)
          obtain ⟨rfl, rfl⟩ := hc
          refine gg_callSi (own := RX10) (yt := gm_X10_join) rfl gl_RX10_296 gk_X10_join gr_X10_join dX10_measureOf_143 (c_X10_join (d := d - 1) (q := q) hq (by first | omega | (have := @gJn_rng q 0 (gDc n q K N Z (i + 1)) 0 9999 (by omega) (by omega); have := @gJn_rng q (gJn q 0 (gDc n q K N Z (i + 1))) (gDc n q K N Z (gPt Z i 1)) 9999 9999 (by omega) (by omega); omega) | (have := @gJn_rng q 0 (gDc n q K N Z (i + 1)) 0 9999 (by omega) (by omega); omega)) (by omega) (by omega)) rfl rfl (Nat.le_of_ble_eq_true rfl) (by show _ ≤ d; omega) ⟨Nat.le_refl _, Nat.le_refl _⟩ (fun e126 μ' hc => ?_)
          obtain ⟨rfl, rfl⟩ := hc
          refine gg_istore (ls' := [(6, .int (iv (gJn q (gJn q 0 (gDc n q K N Z (i + 1))) (gDc n q K N Z (gPt Z i 1))))), (8, .int (iv 1)), (7, .int (iv (gPt Z i 1 : Int))), (5, .int (iv (gDo q 6 (gl2i (N i))))), (4, .int (iv 6)), (0, .ref (gad (gSS ad) 145)), (1, .int (iv (f : Int))), (2, .int (iv (i : Int))), (3, .int (iv (q : Int)))]) dX10_measureOf_146 (by decide) rfl ?_
          refine gg_aload_n dX10_measureOf_148 5 rfl ?_
          refine gg_getR (k' := 173) rfl gf_RX10_23 dX10_measureOf_149 sh_145 pl_145 (by decide) (by decide) rr_145_3 ?_
          refine gg_iload_n dX10_measureOf_152 6 rfl ?_
          refine gg_aaldj (t := 6) f (k' := (174 + f)) dX10_measureOf_153 sh_173 (by decide) pl_173 (by decide) rfl hf (rr_173 hf) ?_
          refine gg_iload dX10_measureOf_154 2 rfl ?_
          refine gg_ialdj (gPt Z i 1) dX10_measureOf_156 (rs_173 hf) (rl_173 hf) (by decide) rfl (by have := hc2 (by rw [hk]; decide); omega) ?_
          refine gg_toI (b := (gPt Z i 2 : Int)) (by have := (hM.2 (gPt Z i 1) (hc2 (by rw [hk]; decide))).2.2; simp only [gPt] at this ⊢; omega) ?_
          refine gg_istore (ls' := [(7, .int (iv (gPt Z i 2 : Int))), (6, .int (iv (gJn q (gJn q 0 (gDc n q K N Z (i + 1))) (gDc n q K N Z (gPt Z i 1))))), (8, .int (iv 1)), (5, .int (iv (gDo q 6 (gl2i (N i))))), (4, .int (iv 6)), (0, .ref (gad (gSS ad) 145)), (1, .int (iv (f : Int))), (2, .int (iv (i : Int))), (3, .int (iv (q : Int)))]) dX10_measureOf_157 (by decide) rfl ?_
          refine gg_iincv (ls' := [(8, .int (iv 2)), (7, .int (iv (gPt Z i 2 : Int))), (6, .int (iv (gJn q (gJn q 0 (gDc n q K N Z (i + 1))) (gDc n q K N Z (gPt Z i 1))))), (5, .int (iv (gDo q 6 (gl2i (N i))))), (4, .int (iv 6)), (0, .ref (gad (gSS ad) 145)), (1, .int (iv (f : Int))), (2, .int (iv (i : Int))), (3, .int (iv (q : Int)))]) dX10_measureOf_159 2 rfl rfl (by decide) rfl ?_
          refine gg_goto (tgt := 122) dX10_measureOf_162 (by decide) ?_
          refine gg_iload dX10_measureOf_122 0 rfl ?_
          refine gg_iload dX10_measureOf_124 4 rfl ?_
          refine gg_callSi (own := RX10) (yt := gm_X10_parts) rfl gl_RX10_98 gk_X10_parts gr_X10_parts dX10_measureOf_126 (c_X10_parts (d := d - 1) (k := 6) (by omega)) rfl rfl (Nat.le_of_ble_eq_true rfl) (by show _ ≤ d; omega) ⟨Nat.le_refl _, Nat.le_refl _⟩ (fun e127 μ' hc => ?_)
          obtain ⟨rfl, rfl⟩ := hc
          refine gg_toI (b := 3) rfl ?_
          refine gg_icmp_ge_f (tgt := 165) dX10_measureOf_129 (by decide) (by decide) (by decide) ?_
          refine gg_iload_n dX10_measureOf_132 8 rfl ?_
          refine gg_iload dX10_measureOf_133 2 rfl ?_
          refine gg_aload_n dX10_measureOf_135 5 rfl ?_
          refine gg_iload_n dX10_measureOf_136 6 rfl ?_
          refine gg_iload dX10_measureOf_137 1 rfl ?_
          refine gg_iload_n dX10_measureOf_139 8 rfl ?_
          refine gg_callVi (own := RX10) (yt := gm_X10_measureOf) rfl gl_RX10_293 gk_X10_measureOf gr_X10_measureOf dX10_measureOf_140 (ih (gPt Z i 2) (hc3 (by rw [hk]; decide)) (by have := he3 (by rw [hk]; decide); omega) (d - 1) (by omega)) sh_145 pl_145 (by decide) rfl rfl rfl (Nat.le_of_ble_eq_true rfl) (by show _ ≤ d; omega) ⟨Nat.le_refl _, Nat.le_refl _⟩ (fun e128 μ' hc => ?_)
          obtain ⟨rfl, rfl⟩ := hc
          refine gg_callSi (own := RX10) (yt := gm_X10_join) rfl gl_RX10_296 gk_X10_join gr_X10_join dX10_measureOf_143 (c_X10_join (d := d - 1) (q := q) hq (by first | omega | (have := @gJn_rng q 0 (gDc n q K N Z (i + 1)) 0 9999 (by omega) (by omega); have := @gJn_rng q (gJn q 0 (gDc n q K N Z (i + 1))) (gDc n q K N Z (gPt Z i 1)) 9999 9999 (by omega) (by omega); omega) | (have := @gJn_rng q 0 (gDc n q K N Z (i + 1)) 0 9999 (by omega) (by omega); omega)) (by omega) (by omega)) rfl rfl (Nat.le_of_ble_eq_true rfl) (by show _ ≤ d; omega) ⟨Nat.le_refl _, Nat.le_refl _⟩ (fun e129 μ' hc => ?_)
          obtain ⟨rfl, rfl⟩ := hc
          refine gg_istore (ls' := [(6, .int (iv (gJn q (gJn q (gJn q 0 (gDc n q K N Z (i + 1))) (gDc n q K N Z (gPt Z i 1))) (gDc n q K N Z (gPt Z i 2))))), (8, .int (iv 2)), (7, .int (iv (gPt Z i 2 : Int))), (5, .int (iv (gDo q 6 (gl2i (N i))))), (4, .int (iv 6)), (0, .ref (gad (gSS ad) 145)), (1, .int (iv (f : Int))), (2, .int (iv (i : Int))), (3, .int (iv (q : Int)))]) dX10_measureOf_146 (by decide) rfl ?_
          refine gg_aload_n dX10_measureOf_148 5 rfl ?_
          refine gg_getR (k' := 173) rfl gf_RX10_23 dX10_measureOf_149 sh_145 pl_145 (by decide) (by decide) rr_145_3 ?_
          refine gg_iload_n dX10_measureOf_152 6 rfl ?_
          refine gg_aaldj (t := 6) f (k' := (174 + f)) dX10_measureOf_153 sh_173 (by decide) pl_173 (by decide) rfl hf (rr_173 hf) ?_
          refine gg_iload dX10_measureOf_154 2 rfl ?_
          refine gg_ialdj (gPt Z i 2) dX10_measureOf_156 (rs_173 hf) (rl_173 hf) (by decide) rfl (by have := hc3 (by rw [hk]; decide); omega) ?_
          refine gg_istore (ls' := [(7, .int (iv (I (174 + f) (gPt Z i 2)))), (6, .int (iv (gJn q (gJn q (gJn q 0 (gDc n q K N Z (i + 1))) (gDc n q K N Z (gPt Z i 1))) (gDc n q K N Z (gPt Z i 2))))), (8, .int (iv 2)), (5, .int (iv (gDo q 6 (gl2i (N i))))), (4, .int (iv 6)), (0, .ref (gad (gSS ad) 145)), (1, .int (iv (f : Int))), (2, .int (iv (i : Int))), (3, .int (iv (q : Int)))]) dX10_measureOf_157 (by decide) rfl ?_
          refine gg_iincv (ls' := [(8, .int (iv 3)), (7, .int (iv (I (174 + f) (gPt Z i 2)))), (6, .int (iv (gJn q (gJn q (gJn q 0 (gDc n q K N Z (i + 1))) (gDc n q K N Z (gPt Z i 1))) (gDc n q K N Z (gPt Z i 2))))), (5, .int (iv (gDo q 6 (gl2i (N i))))), (4, .int (iv 6)), (0, .ref (gad (gSS ad) 145)), (1, .int (iv (f : Int))), (2, .int (iv (i : Int))), (3, .int (iv (q : Int)))]) dX10_measureOf_159 2 rfl rfl (by decide) rfl ?_
          refine gg_goto (tgt := 122) dX10_measureOf_162 (by decide) ?_
          refine gg_iload dX10_measureOf_122 0 rfl ?_
          refine gg_iload dX10_measureOf_124 4 rfl ?_
          refine gg_callSi (own := RX10) (yt := gm_X10_parts) rfl gl_RX10_98 gk_X10_parts gr_X10_parts dX10_measureOf_126 (c_X10_parts (d := d - 1) (k := 6) (by omega)) rfl rfl (Nat.le_of_ble_eq_true rfl) (by show _ ≤ d; omega) ⟨Nat.le_refl _, Nat.le_refl _⟩ (fun e130 μ' hc => ?_)
          obtain ⟨rfl, rfl⟩ := hc
          refine gg_toI (b := 3) rfl ?_
          refine gg_icmp_ge_t (tgt := 165) dX10_measureOf_129 (by decide) (by decide) (by decide) ?_
          refine gg_sipush dX10_measureOf_165 (by decide) ?_
          refine gg_iload dX10_measureOf_168 2 rfl ?_
          refine gg_iload dX10_measureOf_170 3 rfl ?_
          refine gg_iadd dX10_measureOf_172 ?_
          refine gg_mmin rfl gl_RX10_299 dX10_measureOf_173 (by first | omega | (have := @gJn_rng q 0 (gDc n q K N Z (i + 1)) 0 9999 (by omega) (by omega); have := @gJn_rng q (gJn q 0 (gDc n q K N Z (i + 1))) (gDc n q K N Z (gPt Z i 1)) 9999 9999 (by omega) (by omega); have := @gJn_rng q (gJn q (gJn q 0 (gDc n q K N Z (i + 1))) (gDc n q K N Z (gPt Z i 1))) (gDc n q K N Z (gPt Z i 2)) 19998 9999 (by omega) (by omega); omega) | (have := @gJn_rng q 0 (gDc n q K N Z (i + 1)) 0 9999 (by omega) (by omega); have := @gJn_rng q (gJn q 0 (gDc n q K N Z (i + 1))) (gDc n q K N Z (gPt Z i 1)) 9999 9999 (by omega) (by omega); omega) | (have := @gJn_rng q 0 (gDc n q K N Z (i + 1)) 0 9999 (by omega) (by omega); omega) | (split <;> omega) | (have := @gJn_rng q 0 (gDc n q K N Z (i + 1)) 0 9999 (by omega) (by omega); split <;> omega)) (Nat.le_of_ble_eq_true rfl) (by omega) ⟨Nat.le_refl _, Nat.le_refl _⟩ ?_
          refine gg_ireti dX10_measureOf_176 rfl ⟨rfl, rfl⟩ ?_
          refine ⟨rfl, ?_⟩
          rw [gDc_is n q K N Z i hi]
          unfold gdF
          rw [hk]
          unfold gDj
          rw [if_neg (show ¬ (q = 4 ∧ 6 = 6) by omega), if_neg (show ¬ (q = 5 ∧ 6 = 7) by omega)]
          exact rfl
      · refine gg_iload dX10_measureOf_35 2 rfl ?_
        refine gg_bipush dX10_measureOf_37 (by decide) ?_
        refine gg_icmp_ne_f (tgt := 84) dX10_measureOf_39 (by decide) (by decide) (by decide) ?_
        refine gg_aload_n dX10_measureOf_42 3 rfl ?_
        refine gg_iload_n dX10_measureOf_43 4 rfl ?_
        refine gg_iload_n dX10_measureOf_44 5 rfl ?_
        refine gg_iconst dX10_measureOf_45 ?_
        refine gg_iadd dX10_measureOf_46 ?_
        refine gg_iload_n dX10_measureOf_47 6 rfl ?_
        refine gg_callVi (own := RX10) (yt := gm_X10_measureOf) rfl gl_RX10_293 gk_X10_measureOf gr_X10_measureOf dX10_measureOf_48 (ih (i + 1) (hc1 (by rw [hk]; decide)) (by have := he3 (by rw [hk]; decide); omega) (d - 1) (by omega)) sh_145 pl_145 (by decide) rfl rfl rfl (Nat.le_of_ble_eq_true rfl) (by show _ ≤ d; omega) ⟨Nat.le_refl _, Nat.le_refl _⟩ (fun e131 μ' hc => ?_)
        obtain ⟨rfl, rfl⟩ := hc
        refine gg_aload_n dX10_measureOf_51 3 rfl ?_
        refine gg_iload_n dX10_measureOf_52 4 rfl ?_
        refine gg_aload_n dX10_measureOf_53 3 rfl ?_
        refine gg_iload_n dX10_measureOf_54 4 rfl ?_
        refine gg_iload_n dX10_measureOf_55 5 rfl ?_
        refine gg_callVi (own := RX10) (yt := gm_X10_second) rfl gl_RX10_109 gk_X10_second gr_X10_second dX10_measureOf_56 (c_X10_second (d := d - 1) hf hM hW (i := i) (hc1 (by rw [hk]; decide))) sh_145 pl_145 (by decide) rfl rfl rfl (Nat.le_of_ble_eq_true rfl) (by show _ ≤ d; omega) ⟨Nat.le_refl _, Nat.le_refl _⟩ (fun e132 μ' hc => ?_)
        obtain ⟨rfl, rfl⟩ := hc
        refine gg_iload_n dX10_measureOf_59 6 rfl ?_
        refine gg_callVi (own := RX10) (yt := gm_X10_measureOf) rfl gl_RX10_293 gk_X10_measureOf gr_X10_measureOf dX10_measureOf_60 (ih (gPt Z i 1) (hc2 (by rw [hk]; decide)) (by have := he3 (by rw [hk]; decide); omega) (d - 1) (by omega)) sh_145 pl_145 (by decide) rfl rfl rfl (Nat.le_of_ble_eq_true rfl) (by show _ ≤ d; omega) ⟨Nat.le_refl _, Nat.le_refl _⟩ (fun e133 μ' hc => ?_)
        obtain ⟨rfl, rfl⟩ := hc
        refine gg_aload_n dX10_measureOf_63 3 rfl ?_
        refine gg_iload_n dX10_measureOf_64 4 rfl ?_
        refine gg_aload_n dX10_measureOf_65 3 rfl ?_
        refine gg_iload_n dX10_measureOf_66 4 rfl ?_
        refine gg_iload_n dX10_measureOf_67 5 rfl ?_
        refine gg_callVi (own := RX10) (yt := gm_X10_third) rfl gl_RX10_233 gk_X10_third gr_X10_third dX10_measureOf_68 (c_X10_third (d := d - 1) hf hM hW (i := i) (hc1 (by rw [hk]; decide)) (hc2 (by rw [hk]; decide)) (by omega)) sh_145 pl_145 (by decide) rfl rfl rfl (Nat.le_of_ble_eq_true rfl) (by show _ ≤ d; omega) ⟨Nat.le_refl _, Nat.le_refl _⟩ (fun e134 μ' hc => ?_)
        obtain ⟨rfl, rfl⟩ := hc
        refine gg_iload_n dX10_measureOf_71 6 rfl ?_
        refine gg_callVi (own := RX10) (yt := gm_X10_measureOf) rfl gl_RX10_293 gk_X10_measureOf gr_X10_measureOf dX10_measureOf_72 (ih (gPt Z i 2) (hc3 (by rw [hk]; decide)) (by have := he3 (by rw [hk]; decide); omega) (d - 1) (by omega)) sh_145 pl_145 (by decide) rfl rfl rfl (Nat.le_of_ble_eq_true rfl) (by show _ ≤ d; omega) ⟨Nat.le_refl _, Nat.le_refl _⟩ (fun e135 μ' hc => ?_)
        obtain ⟨rfl, rfl⟩ := hc
        refine gg_mmax rfl gl_RX10_284 dX10_measureOf_75 (by omega) (Nat.le_of_ble_eq_true rfl) (by omega) ⟨Nat.le_refl _, Nat.le_refl _⟩ ?_
        refine gg_iadd dX10_measureOf_78 ?_
        refine gg_istore (ls' := [(6, .int (iv ((gDc n q K N Z (i + 1)) + (max (gDc n q K N Z (gPt Z i 1)) (gDc n q K N Z (gPt Z i 2)))))), (5, .int (iv (gDo q 6 (gl2i (N i))))), (4, .int (iv 6)), (0, .ref (gad (gSS ad) 145)), (1, .int (iv (f : Int))), (2, .int (iv (i : Int))), (3, .int (iv (q : Int)))]) dX10_measureOf_79 (by decide) rfl ?_
        refine gg_goto (tgt := 165) dX10_measureOf_81 (by decide) ?_
        refine gg_sipush dX10_measureOf_165 (by decide) ?_
        refine gg_iload dX10_measureOf_168 0 rfl ?_
        refine gg_iload dX10_measureOf_170 1 rfl ?_
        refine gg_iadd dX10_measureOf_172 ?_
        refine gg_mmin rfl gl_RX10_299 dX10_measureOf_173 (by first | omega | (have := @gJn_rng q 0 (gDc n q K N Z (i + 1)) 0 9999 (by omega) (by omega); have := @gJn_rng q (gJn q 0 (gDc n q K N Z (i + 1))) (gDc n q K N Z (gPt Z i 1)) 9999 9999 (by omega) (by omega); have := @gJn_rng q (gJn q (gJn q 0 (gDc n q K N Z (i + 1))) (gDc n q K N Z (gPt Z i 1))) (gDc n q K N Z (gPt Z i 2)) 19998 9999 (by omega) (by omega); omega) | (have := @gJn_rng q 0 (gDc n q K N Z (i + 1)) 0 9999 (by omega) (by omega); have := @gJn_rng q (gJn q 0 (gDc n q K N Z (i + 1))) (gDc n q K N Z (gPt Z i 1)) 9999 9999 (by omega) (by omega); omega) | (have := @gJn_rng q 0 (gDc n q K N Z (i + 1)) 0 9999 (by omega) (by omega); omega) | (split <;> omega) | (have := @gJn_rng q 0 (gDc n q K N Z (i + 1)) 0 9999 (by omega) (by omega); split <;> omega)) (Nat.le_of_ble_eq_true rfl) (by omega) ⟨Nat.le_refl _, Nat.le_refl _⟩ ?_
        refine gg_ireti dX10_measureOf_176 rfl ⟨rfl, rfl⟩ ?_
        refine ⟨rfl, ?_⟩
        rw [gDc_is n q K N Z i hi]
        unfold gdF
        rw [hk]
        unfold gDj gJn
        rw [if_pos (show q = 4 ∧ 6 = 6 by omega), if_neg (show ¬ (q = 1 ∨ q = 3) by omega)]
    · refine gg_toI (b := 7) (by omega) ?_
      refine gg_istore (ls' := [(4, .int (iv 7)), (0, .ref (gad (gSS ad) 145)), (1, .int (iv (f : Int))), (2, .int (iv (i : Int))), (3, .int (iv (q : Int)))]) dX10_measureOf_8 (by decide) rfl ?_
      have g1 := gD_rng (q := q) hW _ (hc1 (by rw [hk]; decide))
      have hor := gDo_rng hW hi q
      rw [hk] at hor
      refine gg_iload_n dX10_measureOf_10 4 rfl ?_
      refine gg_iload dX10_measureOf_11 0 rfl ?_
      refine gg_aload_n dX10_measureOf_13 1 rfl ?_
      refine gg_getR (k' := 160) rfl gf_RX10_20 dX10_measureOf_14 sh_145 pl_145 (by decide) (by decide) rr_145_2 ?_
      refine gg_iload_n dX10_measureOf_17 2 rfl ?_
      refine gg_aaldj (t := 7) f (k' := (161 + f)) dX10_measureOf_18 sh_160 (by decide) pl_160 (by decide) rfl hf (rr_160 hf) ?_
      refine gg_iload_n dX10_measureOf_19 3 rfl ?_
      refine gg_laldj i dX10_measureOf_20 (rs_160 hf) (rl_160 hf) (by decide) rfl (by omega) ?_
      refine gg_toL (b := N i) (hM.2 i hi).2.1 ?_
      refine gg_l2i dX10_measureOf_21 ?_
      refine gg_callSi (own := RX10) (yt := gm_X10_own) rfl gl_RX10_289 gk_X10_own gr_X10_own dX10_measureOf_22 (c_X10_own (d := d - 1) (q := q) (k := 7) hq (by omega)) rfl rfl (Nat.le_of_ble_eq_true rfl) (by show _ ≤ d; omega) ⟨Nat.le_refl _, Nat.le_refl _⟩ (fun e136 μ' hc => ?_)
      obtain ⟨rfl, rfl⟩ := hc
      refine gg_istore (ls' := [(5, .int (iv (if q = 5 ∧ 7 = 7 then 1 else gDo q 7 (gl2i (N i))))), (4, .int (iv 7)), (0, .ref (gad (gSS ad) 145)), (1, .int (iv (f : Int))), (2, .int (iv (i : Int))), (3, .int (iv (q : Int)))]) dX10_measureOf_25 (by decide) rfl ?_
      refine gg_iconst dX10_measureOf_27 ?_
      refine gg_istore (ls' := [(6, .int (iv 0)), (5, .int (iv (if q = 5 ∧ 7 = 7 then 1 else gDo q 7 (gl2i (N i))))), (4, .int (iv 7)), (0, .ref (gad (gSS ad) 145)), (1, .int (iv (f : Int))), (2, .int (iv (i : Int))), (3, .int (iv (q : Int)))]) dX10_measureOf_28 (by decide) rfl ?_
      refine gg_iload_n dX10_measureOf_30 6 rfl ?_
      refine gg_iconst dX10_measureOf_31 ?_
      refine gg_icmp_ne (tgt := 84) dX10_measureOf_32 (by decide) (by omega) (fun hb137 => ?_) (fun hb137 => ?_)
      · refine gg_iload_n dX10_measureOf_84 6 rfl ?_
        refine gg_iconst dX10_measureOf_85 ?_
        refine gg_icmp_ne (tgt := 114) dX10_measureOf_86 (by decide) (by omega) (fun hq5 => ?_) (fun hq5 => ?_)
        · refine gg_iload_n dX10_measureOf_114 5 rfl ?_
          refine gg_iconst dX10_measureOf_115 ?_
          refine gg_iadd dX10_measureOf_116 ?_
          refine gg_toI (b := ((i + 1 : Nat) : Int)) (by omega) ?_
          refine gg_istore (ls' := [(7, .int (iv ((i + 1 : Nat) : Int))), (6, .int (iv 0)), (5, .int (iv (if q = 5 ∧ 7 = 7 then 1 else gDo q 7 (gl2i (N i))))), (4, .int (iv 7)), (0, .ref (gad (gSS ad) 145)), (1, .int (iv (f : Int))), (2, .int (iv (i : Int))), (3, .int (iv (q : Int)))]) dX10_measureOf_117 (by decide) rfl ?_
          refine gg_iconst dX10_measureOf_119 ?_
          refine gg_istore (ls' := [(8, .int (iv 0)), (7, .int (iv ((i + 1 : Nat) : Int))), (6, .int (iv 0)), (5, .int (iv (if q = 5 ∧ 7 = 7 then 1 else gDo q 7 (gl2i (N i))))), (4, .int (iv 7)), (0, .ref (gad (gSS ad) 145)), (1, .int (iv (f : Int))), (2, .int (iv (i : Int))), (3, .int (iv (q : Int)))]) dX10_measureOf_120 (by decide) rfl ?_
          refine gg_iload dX10_measureOf_122 0 rfl ?_
          refine gg_iload dX10_measureOf_124 4 rfl ?_
          refine gg_callSi (own := RX10) (yt := gm_X10_parts) rfl gl_RX10_98 gk_X10_parts gr_X10_parts dX10_measureOf_126 (c_X10_parts (d := d - 1) (k := 7) (by omega)) rfl rfl (Nat.le_of_ble_eq_true rfl) (by show _ ≤ d; omega) ⟨Nat.le_refl _, Nat.le_refl _⟩ (fun e138 μ' hc => ?_)
          obtain ⟨rfl, rfl⟩ := hc
          refine gg_toI (b := 1) rfl ?_
          refine gg_icmp_ge_f (tgt := 165) dX10_measureOf_129 (by decide) (by decide) (by decide) ?_
          refine gg_iload_n dX10_measureOf_132 8 rfl ?_
          refine gg_iload dX10_measureOf_133 2 rfl ?_
          refine gg_aload_n dX10_measureOf_135 5 rfl ?_
          refine gg_iload_n dX10_measureOf_136 6 rfl ?_
          refine gg_iload dX10_measureOf_137 1 rfl ?_
          refine gg_iload_n dX10_measureOf_139 8 rfl ?_
          refine gg_callVi (own := RX10) (yt := gm_X10_measureOf) rfl gl_RX10_293 gk_X10_measureOf gr_X10_measureOf dX10_measureOf_140 (ih (i + 1) (hc1 (by rw [hk]; decide)) (by have := he1 (by rw [hk]; decide); omega) (d - 1) (by omega)) sh_145 pl_145 (by decide) rfl rfl rfl (Nat.le_of_ble_eq_true rfl) (by show _ ≤ d; omega) ⟨Nat.le_refl _, Nat.le_refl _⟩ (fun e139 μ' hc => ?_)
          obtain ⟨rfl, rfl⟩ := hc
          refine gg_callSi (own := RX10) (yt := gm_X10_join) rfl gl_RX10_296 gk_X10_join gr_X10_join dX10_measureOf_143 (c_X10_join (d := d - 1) (q := q) hq (by first | omega | (have := @gJn_rng q 0 (gDc n q K N Z (i + 1)) 0 9999 (by omega) (by omega); have := @gJn_rng q (gJn q 0 (gDc n q K N Z (i + 1))) (gDc n q K N Z (gPt Z i 1)) 9999 9999 (by omega) (by omega); omega) | (have := @gJn_rng q 0 (gDc n q K N Z (i + 1)) 0 9999 (by omega) (by omega); omega)) (by omega) (by omega)) rfl rfl (Nat.le_of_ble_eq_true rfl) (by show _ ≤ d; omega) ⟨Nat.le_refl _, Nat.le_refl _⟩ (fun e140 μ' hc => ?_)
          obtain ⟨rfl, rfl⟩ := hc
          refine gg_istore (ls' := [(6, .int (iv (gJn q 0 (gDc n q K N Z (i + 1))))), (8, .int (iv 0)), (7, .int (iv ((i + 1 : Nat) : Int))), (5, .int (iv (if q = 5 ∧ 7 = 7 then 1 else gDo q 7 (gl2i (N i))))), (4, .int (iv 7)), (0, .ref (gad (gSS ad) 145)), (1, .int (iv (f : Int))), (2, .int (iv (i : Int))), (3, .int (iv (q : Int)))]) dX10_measureOf_146 (by decide) rfl ?_
          refine gg_aload_n dX10_measureOf_148 5 rfl ?_
          refine gg_getR (k' := 173) rfl gf_RX10_23 dX10_measureOf_149 sh_145 pl_145 (by decide) (by decide) rr_145_3 ?_
          refine gg_iload_n dX10_measureOf_152 6 rfl ?_
          refine gg_aaldj (t := 6) f (k' := (174 + f)) dX10_measureOf_153 sh_173 (by decide) pl_173 (by decide) rfl hf (rr_173 hf) ?_
          refine gg_iload dX10_measureOf_154 2 rfl ?_
          refine gg_ialdj (i + 1) dX10_measureOf_156 (rs_173 hf) (rl_173 hf) (by decide) rfl (by have := hc1 (by rw [hk]; decide); omega) ?_
          refine gg_istore (ls' := [(7, .int (iv (I (174 + f) (i + 1)))), (6, .int (iv (gJn q 0 (gDc n q K N Z (i + 1))))), (8, .int (iv 0)), (5, .int (iv (if q = 5 ∧ 7 = 7 then 1 else gDo q 7 (gl2i (N i))))), (4, .int (iv 7)), (0, .ref (gad (gSS ad) 145)), (1, .int (iv (f : Int))), (2, .int (iv (i : Int))), (3, .int (iv (q : Int)))]) dX10_measureOf_157 (by decide) rfl ?_
          refine gg_iincv (ls' := [(8, .int (iv 1)), (7, .int (iv (I (174 + f) (i + 1)))), (6, .int (iv (gJn q 0 (gDc n q K N Z (i + 1))))), (5, .int (iv (if q = 5 ∧ 7 = 7 then 1 else gDo q 7 (gl2i (N i))))), (4, .int (iv 7)), (0, .ref (gad (gSS ad) 145)), (1, .int (iv (f : Int))), (2, .int (iv (i : Int))), (3, .int (iv (q : Int)))]) dX10_measureOf_159 2 rfl rfl (by decide) rfl ?_
          refine gg_goto (tgt := 122) dX10_measureOf_162 (by decide) ?_
          refine gg_iload dX10_measureOf_122 0 rfl ?_
          refine gg_iload dX10_measureOf_124 4 rfl ?_
          refine gg_callSi (own := RX10) (yt := gm_X10_parts) rfl gl_RX10_98 gk_X10_parts gr_X10_parts dX10_measureOf_126 (c_X10_parts (d := d - 1) (k := 7) (by omega)) rfl rfl (Nat.le_of_ble_eq_true rfl) (by show _ ≤ d; omega) ⟨Nat.le_refl _, Nat.le_refl _⟩ (fun e141 μ' hc => ?_)
          obtain ⟨rfl, rfl⟩ := hc
          refine gg_toI (b := 1) rfl ?_
          refine gg_icmp_ge_t (tgt := 165) dX10_measureOf_129 (by decide) (by decide) (by decide) ?_
          refine gg_sipush dX10_measureOf_165 (by decide) ?_
          refine gg_iload dX10_measureOf_168 2 rfl ?_
          refine gg_iload dX10_measureOf_170 3 rfl ?_
          refine gg_iadd dX10_measureOf_172 ?_
          refine gg_mmin rfl gl_RX10_299 dX10_measureOf_173 (by first | omega | (have := @gJn_rng q 0 (gDc n q K N Z (i + 1)) 0 9999 (by omega) (by omega); have := @gJn_rng q (gJn q 0 (gDc n q K N Z (i + 1))) (gDc n q K N Z (gPt Z i 1)) 9999 9999 (by omega) (by omega); have := @gJn_rng q (gJn q (gJn q 0 (gDc n q K N Z (i + 1))) (gDc n q K N Z (gPt Z i 1))) (gDc n q K N Z (gPt Z i 2)) 19998 9999 (by omega) (by omega); omega) | (have := @gJn_rng q 0 (gDc n q K N Z (i + 1)) 0 9999 (by omega) (by omega); have := @gJn_rng q (gJn q 0 (gDc n q K N Z (i + 1))) (gDc n q K N Z (gPt Z i 1)) 9999 9999 (by omega) (by omega); omega) | (have := @gJn_rng q 0 (gDc n q K N Z (i + 1)) 0 9999 (by omega) (by omega); omega) | (split <;> omega) | (have := @gJn_rng q 0 (gDc n q K N Z (i + 1)) 0 9999 (by omega) (by omega); split <;> omega)) (Nat.le_of_ble_eq_true rfl) (by omega) ⟨Nat.le_refl _, Nat.le_refl _⟩ ?_
          refine gg_ireti dX10_measureOf_176 rfl ⟨rfl, rfl⟩ ?_
          refine ⟨rfl, ?_⟩
          rw [gDc_is n q K N Z i hi]
          unfold gdF
          rw [hk]
          unfold gDj
          rw [if_neg (show ¬ (q = 4 ∧ 7 = 6) by omega), if_neg (show ¬ (q = 5 ∧ 7 = 7) by omega), if_neg (show ¬ (q = 5 ∧ 7 = 7) by omega)]
          exact rfl
        · refine gg_iload dX10_measureOf_89 2 rfl ?_
          refine gg_bipush dX10_measureOf_91 (by decide) ?_
          refine gg_icmp_ne_f (tgt := 114) dX10_measureOf_93 (by decide) (by decide) (by decide) ?_
          refine gg_iconst dX10_measureOf_96 ?_
          refine gg_aload_n dX10_measureOf_97 3 rfl ?_
          refine gg_iload_n dX10_measureOf_98 4 rfl ?_
          refine gg_iload_n dX10_measureOf_99 5 rfl ?_
          refine gg_iconst dX10_measureOf_100 ?_
          refine gg_iadd dX10_measureOf_101 ?_
          refine gg_iload_n dX10_measureOf_102 6 rfl ?_
          refine gg_callVi (own := RX10) (yt := gm_X10_measureOf) rfl gl_RX10_293 gk_X10_measureOf gr_X10_measureOf dX10_measureOf_103 (ih (i + 1) (hc1 (by rw [hk]; decide)) (by have := he1 (by rw [hk]; decide); omega) (d - 1) (by omega)) sh_145 pl_145 (by decide) rfl rfl rfl (Nat.le_of_ble_eq_true rfl) (by show _ ≤ d; omega) ⟨Nat.le_refl _, Nat.le_refl _⟩ (fun e142 μ' hc => ?_)
          obtain ⟨rfl, rfl⟩ := hc
          refine gg_imul dX10_measureOf_106 ?_
          refine gg_iconst dX10_measureOf_107 ?_
          refine gg_iadd dX10_measureOf_108 ?_
          refine gg_istore (ls' := [(6, .int (iv ((2 * (gDc n q K N Z (i + 1))) + 1))), (5, .int (iv (if q = 5 ∧ 7 = 7 then 1 else gDo q 7 (gl2i (N i))))), (4, .int (iv 7)), (0, .ref (gad (gSS ad) 145)), (1, .int (iv (f : Int))), (2, .int (iv (i : Int))), (3, .int (iv (q : Int)))]) dX10_measureOf_109 (by decide) rfl ?_
          refine gg_goto (tgt := 165) dX10_measureOf_111 (by decide) ?_
          refine gg_sipush dX10_measureOf_165 (by decide) ?_
          refine gg_iload dX10_measureOf_168 0 rfl ?_
          refine gg_iload dX10_measureOf_170 1 rfl ?_
          refine gg_iadd dX10_measureOf_172 ?_
          refine gg_mmin rfl gl_RX10_299 dX10_measureOf_173 (by first | omega | (have := @gJn_rng q 0 (gDc n q K N Z (i + 1)) 0 9999 (by omega) (by omega); have := @gJn_rng q (gJn q 0 (gDc n q K N Z (i + 1))) (gDc n q K N Z (gPt Z i 1)) 9999 9999 (by omega) (by omega); have := @gJn_rng q (gJn q (gJn q 0 (gDc n q K N Z (i + 1))) (gDc n q K N Z (gPt Z i 1))) (gDc n q K N Z (gPt Z i 2)) 19998 9999 (by omega) (by omega); omega) | (have := @gJn_rng q 0 (gDc n q K N Z (i + 1)) 0 9999 (by omega) (by omega); have := @gJn_rng q (gJn q 0 (gDc n q K N Z (i + 1))) (gDc n q K N Z (gPt Z i 1)) 9999 9999 (by omega) (by omega); omega) | (have := @gJn_rng q 0 (gDc n q K N Z (i + 1)) 0 9999 (by omega) (by omega); omega) | (split <;> omega) | (have := @gJn_rng q 0 (gDc n q K N Z (i + 1)) 0 9999 (by omega) (by omega); split <;> omega)) (Nat.le_of_ble_eq_true rfl) (by omega) ⟨Nat.le_refl _, Nat.le_refl _⟩ ?_
          refine gg_ireti dX10_measureOf_176 rfl ⟨rfl, rfl⟩ ?_
          refine ⟨rfl, ?_⟩
          rw [gDc_is n q K N Z i hi]
          unfold gdF
          rw [hk]
          unfold gDj
          rw [if_neg (show ¬ (q = 4 ∧ 7 = 6) by omega), if_pos (show q = 5 ∧ 7 = 7 by omega), if_pos (show q = 5 ∧ 7 = 7 by omega)]
          have h5 : q = 5 := by omega
          subst h5
          have h2 : gDo 5 7 (gl2i (N i)) = 2 := rfl
          rw [h2]
          omega
      · refine gg_iload dX10_measureOf_35 2 rfl ?_
        refine gg_bipush dX10_measureOf_37 (by decide) ?_
        refine gg_icmp_ne_t (tgt := 84) dX10_measureOf_39 (by decide) (by decide) (by decide) ?_
        refine gg_iload_n dX10_measureOf_84 6 rfl ?_
        refine gg_iconst dX10_measureOf_85 ?_
        refine gg_icmp_ne (tgt := 114) dX10_measureOf_86 (by decide) (by omega) (fun hq5 => ?_) (fun hq5 => ?_)
        · refine gg_iload_n dX10_measureOf_114 5 rfl ?_
          refine gg_iconst dX10_measureOf_115 ?_
          refine gg_iadd dX10_measureOf_116 ?_
          refine gg_toI (b := ((i + 1 : Nat) : Int)) (by omega) ?_
          refine gg_istore (ls' := [(7, .int (iv ((i + 1 : Nat) : Int))), (6, .int (iv 0)), (5, .int (iv (if q = 5 ∧ 7 = 7 then 1 else gDo q 7 (gl2i (N i))))), (4, .int (iv 7)), (0, .ref (gad (gSS ad) 145)), (1, .int (iv (f : Int))), (2, .int (iv (i : Int))), (3, .int (iv (q : Int)))]) dX10_measureOf_117 (by decide) rfl ?_
          refine gg_iconst dX10_measureOf_119 ?_
          refine gg_istore (ls' := [(8, .int (iv 0)), (7, .int (iv ((i + 1 : Nat) : Int))), (6, .int (iv 0)), (5, .int (iv (if q = 5 ∧ 7 = 7 then 1 else gDo q 7 (gl2i (N i))))), (4, .int (iv 7)), (0, .ref (gad (gSS ad) 145)), (1, .int (iv (f : Int))), (2, .int (iv (i : Int))), (3, .int (iv (q : Int)))]) dX10_measureOf_120 (by decide) rfl ?_
          refine gg_iload dX10_measureOf_122 0 rfl ?_
          refine gg_iload dX10_measureOf_124 4 rfl ?_
          refine gg_callSi (own := RX10) (yt := gm_X10_parts) rfl gl_RX10_98 gk_X10_parts gr_X10_parts dX10_measureOf_126 (c_X10_parts (d := d - 1) (k := 7) (by omega)) rfl rfl (Nat.le_of_ble_eq_true rfl) (by show _ ≤ d; omega) ⟨Nat.le_refl _, Nat.le_refl _⟩ (fun e143 μ' hc => ?_)
          obtain ⟨rfl, rfl⟩ := hc
          refine gg_toI (b := 1) rfl ?_
          refine gg_icmp_ge_f (tgt := 165) dX10_measureOf_129 (by decide) (by decide) (by decide) ?_
          refine gg_iload_n dX10_measureOf_132 8 rfl ?_
          refine gg_iload dX10_measureOf_133 2 rfl ?_
          refine gg_aload_n dX10_measureOf_135 5 rfl ?_
          refine gg_iload_n dX10_measureOf_136 6 rfl ?_
          refine gg_iload dX10_measureOf_137 1 rfl ?_
          refine gg_iload_n dX10_measureOf_139 8 rfl ?_
          refine gg_callVi (own := RX10) (yt := gm_X10_measureOf) rfl gl_RX10_293 gk_X10_measureOf gr_X10_measureOf dX10_measureOf_140 (ih (i + 1) (hc1 (by rw [hk]; decide)) (by have := he1 (by rw [hk]; decide); omega) (d - 1) (by omega)) sh_145 pl_145 (by decide) rfl rfl rfl (Nat.le_of_ble_eq_true rfl) (by show _ ≤ d; omega) ⟨Nat.le_refl _, Nat.le_refl _⟩ (fun e144 μ' hc => ?_)
          obtain ⟨rfl, rfl⟩ := hc
          refine gg_callSi (own := RX10) (yt := gm_X10_join) rfl gl_RX10_296 gk_X10_join gr_X10_join dX10_measureOf_143 (c_X10_join (d := d - 1) (q := q) hq (by first | omega | (have := @gJn_rng q 0 (gDc n q K N Z (i + 1)) 0 9999 (by omega) (by omega); have := @gJn_rng q (gJn q 0 (gDc n q K N Z (i + 1))) (gDc n q K N Z (gPt Z i 1)) 9999 9999 (by omega) (by omega); omega) | (have := @gJn_rng q 0 (gDc n q K N Z (i + 1)) 0 9999 (by omega) (by omega); omega)) (by omega) (by omega)) rfl rfl (Nat.le_of_ble_eq_true rfl) (by show _ ≤ d; omega) ⟨Nat.le_refl _, Nat.le_refl _⟩ (fun e145 μ' hc => ?_)
          obtain ⟨rfl, rfl⟩ := hc
          refine gg_istore (ls' := [(6, .int (iv (gJn q 0 (gDc n q K N Z (i + 1))))), (8, .int (iv 0)), (7, .int (iv ((i + 1 : Nat) : Int))), (5, .int (iv (if q = 5 ∧ 7 = 7 then 1 else gDo q 7 (gl2i (N i))))), (4, .int (iv 7)), (0, .ref (gad (gSS ad) 145)), (1, .int (iv (f : Int))), (2, .int (iv (i : Int))), (3, .int (iv (q : Int)))]) dX10_measureOf_146 (by decide) rfl ?_
          refine gg_aload_n dX10_measureOf_148 5 rfl ?_
          refine gg_getR (k' := 173) rfl gf_RX10_23 dX10_measureOf_149 sh_145 pl_145 (by decide) (by decide) rr_145_3 ?_
          refine gg_iload_n dX10_measureOf_152 6 rfl ?_
          refine gg_aaldj (t := 6) f (k' := (174 + f)) dX10_measureOf_153 sh_173 (by decide) pl_173 (by decide) rfl hf (rr_173 hf) ?_
          refine gg_iload dX10_measureOf_154 2 rfl ?_
          refine gg_ialdj (i + 1) dX10_measureOf_156 (rs_173 hf) (rl_173 hf) (by decide) rfl (by have := hc1 (by rw [hk]; decide); omega) ?_
          refine gg_istore (ls' := [(7, .int (iv (I (174 + f) (i + 1)))), (6, .int (iv (gJn q 0 (gDc n q K N Z (i + 1))))), (8, .int (iv 0)), (5, .int (iv (if q = 5 ∧ 7 = 7 then 1 else gDo q 7 (gl2i (N i))))), (4, .int (iv 7)), (0, .ref (gad (gSS ad) 145)), (1, .int (iv (f : Int))), (2, .int (iv (i : Int))), (3, .int (iv (q : Int)))]) dX10_measureOf_157 (by decide) rfl ?_
          refine gg_iincv (ls' := [(8, .int (iv 1)), (7, .int (iv (I (174 + f) (i + 1)))), (6, .int (iv (gJn q 0 (gDc n q K N Z (i + 1))))), (5, .int (iv (if q = 5 ∧ 7 = 7 then 1 else gDo q 7 (gl2i (N i))))), (4, .int (iv 7)), (0, .ref (gad (gSS ad) 145)), (1, .int (iv (f : Int))), (2, .int (iv (i : Int))), (3, .int (iv (q : Int)))]) dX10_measureOf_159 2 rfl rfl (by decide) rfl ?_
          refine gg_goto (tgt := 122) dX10_measureOf_162 (by decide) ?_
          refine gg_iload dX10_measureOf_122 0 rfl ?_
          refine gg_iload dX10_measureOf_124 4 rfl ?_
          refine gg_callSi (own := RX10) (yt := gm_X10_parts) rfl gl_RX10_98 gk_X10_parts gr_X10_parts dX10_measureOf_126 (c_X10_parts (d := d - 1) (k := 7) (by omega)) rfl rfl (Nat.le_of_ble_eq_true rfl) (by show _ ≤ d; omega) ⟨Nat.le_refl _, Nat.le_refl _⟩ (fun e146 μ' hc => ?_)
          obtain ⟨rfl, rfl⟩ := hc
          refine gg_toI (b := 1) rfl ?_
          refine gg_icmp_ge_t (tgt := 165) dX10_measureOf_129 (by decide) (by decide) (by decide) ?_
          refine gg_sipush dX10_measureOf_165 (by decide) ?_
          refine gg_iload dX10_measureOf_168 2 rfl ?_
          refine gg_iload dX10_measureOf_170 3 rfl ?_
          refine gg_iadd dX10_measureOf_172 ?_
          refine gg_mmin rfl gl_RX10_299 dX10_measureOf_173 (by first | omega | (have := @gJn_rng q 0 (gDc n q K N Z (i + 1)) 0 9999 (by omega) (by omega); have := @gJn_rng q (gJn q 0 (gDc n q K N Z (i + 1))) (gDc n q K N Z (gPt Z i 1)) 9999 9999 (by omega) (by omega); have := @gJn_rng q (gJn q (gJn q 0 (gDc n q K N Z (i + 1))) (gDc n q K N Z (gPt Z i 1))) (gDc n q K N Z (gPt Z i 2)) 19998 9999 (by omega) (by omega); omega) | (have := @gJn_rng q 0 (gDc n q K N Z (i + 1)) 0 9999 (by omega) (by omega); have := @gJn_rng q (gJn q 0 (gDc n q K N Z (i + 1))) (gDc n q K N Z (gPt Z i 1)) 9999 9999 (by omega) (by omega); omega) | (have := @gJn_rng q 0 (gDc n q K N Z (i + 1)) 0 9999 (by omega) (by omega); omega) | (split <;> omega) | (have := @gJn_rng q 0 (gDc n q K N Z (i + 1)) 0 9999 (by omega) (by omega); split <;> omega)) (Nat.le_of_ble_eq_true rfl) (by omega) ⟨Nat.le_refl _, Nat.le_refl _⟩ ?_
          refine gg_ireti dX10_measureOf_176 rfl ⟨rfl, rfl⟩ ?_
          refine ⟨rfl, ?_⟩
          rw [gDc_is n q K N Z i hi]
          unfold gdF
          rw [hk]
          unfold gDj
          rw [if_neg (show ¬ (q = 4 ∧ 7 = 6) by omega), if_neg (show ¬ (q = 5 ∧ 7 = 7) by omega), if_neg (show ¬ (q = 5 ∧ 7 = 7) by omega)]
          exact rfl
        · refine gg_iload dX10_measureOf_89 2 rfl ?_
          refine gg_bipush dX10_measureOf_91 (by decide) ?_
          refine gg_icmp_ne_f (tgt := 114) dX10_measureOf_93 (by decide) (by decide) (by decide) ?_
          refine gg_iconst dX10_measureOf_96 ?_
          refine gg_aload_n dX10_measureOf_97 3 rfl ?_
          refine gg_iload_n dX10_measureOf_98 4 rfl ?_
          refine gg_iload_n dX10_measureOf_99 5 rfl ?_
          refine gg_iconst dX10_measureOf_100 ?_
          refine gg_iadd dX10_measureOf_101 ?_
          refine gg_iload_n dX10_measureOf_102 6 rfl ?_
          refine gg_callVi (own := RX10) (yt := gm_X10_measureOf) rfl gl_RX10_293 gk_X10_measureOf gr_X10_measureOf dX10_measureOf_103 (ih (i + 1) (hc1 (by rw [hk]; decide)) (by have := he1 (by rw [hk]; decide); omega) (d - 1) (by omega)) sh_145 pl_145 (by decide) rfl rfl rfl (Nat.le_of_ble_eq_true rfl) (by show _ ≤ d; omega) ⟨Nat.le_refl _, Nat.le_refl _⟩ (fun e147 μ' hc => ?_)
          obtain ⟨rfl, rfl⟩ := hc
          refine gg_imul dX10_measureOf_106 ?_
          refine gg_iconst dX10_measureOf_107 ?_
          refine gg_iadd dX10_measureOf_108 ?_
          refine gg_istore (ls' := [(6, .int (iv ((2 * (gDc n q K N Z (i + 1))) + 1))), (5, .int (iv (if q = 5 ∧ 7 = 7 then 1 else gDo q 7 (gl2i (N i))))), (4, .int (iv 7)), (0, .ref (gad (gSS ad) 145)), (1, .int (iv (f : Int))), (2, .int (iv (i : Int))), (3, .int (iv (q : Int)))]) dX10_measureOf_109 (by decide) rfl ?_
          refine gg_goto (tgt := 165) dX10_measureOf_111 (by decide) ?_
          refine gg_sipush dX10_measureOf_165 (by decide) ?_
          refine gg_iload dX10_measureOf_168 0 rfl ?_
          refine gg_iload dX10_measureOf_170 1 rfl ?_
          refine gg_iadd dX10_measureOf_172 ?_
          refine gg_mmin rfl gl_RX10_299 dX10_measureOf_173 (by first | omega | (have := @gJn_rng q 0 (gDc n q K N Z (i + 1)) 0 9999 (by omega) (by omega); have := @gJn_rng q (gJn q 0 (gDc n q K N Z (i + 1))) (gDc n q K N Z (gPt Z i 1)) 9999 9999 (by omega) (by omega); have := @gJn_rng q (gJn q (gJn q 0 (gDc n q K N Z (i + 1))) (gDc n q K N Z (gPt Z i 1))) (gDc n q K N Z (gPt Z i 2)) 19998 9999 (by omega) (by omega); omega) | (have := @gJn_rng q 0 (gDc n q K N Z (i + 1)) 0 9999 (by omega) (by omega); have := @gJn_rng q (gJn q 0 (gDc n q K N Z (i + 1))) (gDc n q K N Z (gPt Z i 1)) 9999 9999 (by omega) (by omega); omega) | (have := @gJn_rng q 0 (gDc n q K N Z (i + 1)) 0 9999 (by omega) (by omega); omega) | (split <;> omega) | (have := @gJn_rng q 0 (gDc n q K N Z (i + 1)) 0 9999 (by omega) (by omega); split <;> omega)) (Nat.le_of_ble_eq_true rfl) (by omega) ⟨Nat.le_refl _, Nat.le_refl _⟩ ?_
          refine gg_ireti dX10_measureOf_176 rfl ⟨rfl, rfl⟩ ?_
          refine ⟨rfl, ?_⟩
          rw [gDc_is n q K N Z i hi]
          unfold gdF
          rw [hk]
          unfold gDj
          rw [if_neg (show ¬ (q = 4 ∧ 7 = 6) by omega), if_pos (show q = 5 ∧ 7 = 7 by omega), if_pos (show q = 5 ∧ 7 = 7 by omega)]
          have h5 : q = 5 := by omega
          subst h5
          have h2 : gDo 5 7 (gl2i (N i)) = 2 := rfl
          rw [h2]
          omega

set_option maxRecDepth 10000 in
theorem c_X10_measure {l : Launch} {Γ : gC} {ad : Nat → Nat} {I : Nat → Nat → Int} {J : Nat → Nat → Int64} {d : Nat} {f n : Nat} {K : Nat → Nat} {N : Nat → Int64} {Z : Nat → Nat} (hf : f < 12) (hM : gMt I J f n K N Z) (hW : gWf n K N Z) {q : Nat} (hq : q ≤ 5) (hd : n + 4 ≤ d) : gKi l Γ gm_X10_measure d [.ref (gad (gSS ad) 145), .int (iv (f : Int)), .int (iv (q : Int))] (gSS ad, I, J) (fun e μ => μ = (gSS ad, I, J) ∧ e = (if n = 0 then -3 else gDc n q K N Z 0)) := by
  refine gKi_of gk_X10_measure.1 (Nat.le_of_ble_eq_true rfl) ?_
  show gG l Γ gm_X10_measure (d, 0, 0, 0, 0) 0 [(0, .ref (gad (gSS ad) 145)), (1, .int (iv (f : Int))), (2, .int (iv (q : Int)))] [] _ _
  refine gg_iload_n dX10_measure_0 1 rfl ?_
  refine gg_callSi (own := RX10) (yt := gm_X10_isFormula) rfl gl_RX10_181 gk_X10_isFormula gr_X10_isFormula dX10_measure_1 (c_X10_isFormula (d := d - 1) (by omega) (by omega)) rfl rfl (Nat.le_of_ble_eq_true rfl) (by show _ ≤ d; omega) ⟨Nat.le_refl _, Nat.le_refl _⟩ (fun e1 μ' hc => ?_)
  obtain ⟨rfl, ⟨rfl, hb2⟩ | ⟨rfl, hb2⟩⟩ := hc
  rotate_left
  · omega
  refine gg_if_eq_f (tgt := 16) dX10_measure_4 (by decide) (by decide) (by decide) ?_
  refine gg_iload_n dX10_measure_7 2 rfl ?_
  refine gg_iconst dX10_measure_8 ?_
  refine gg_iconst dX10_measure_9 ?_
  refine gg_callSi (own := RX10) (yt := gm_X10_in) rfl gl_RX10_84 gk_X10_in gr_X10_in dX10_measure_10 (c_X10_in (d := d - 1) (by omega)) rfl rfl (Nat.le_of_ble_eq_true rfl) (by show _ ≤ d; omega) ⟨Nat.le_refl _, Nat.le_refl _⟩ (fun e3 μ' hc => ?_)
  obtain ⟨rfl, ⟨rfl, hb4⟩ | ⟨rfl, hb4⟩⟩ := hc
  rotate_left
  · omega
  refine gg_if_ne_t (tgt := 19) dX10_measure_13 (by decide) (by decide) (by decide) ?_
  refine gg_aload_n dX10_measure_19 0 rfl ?_
  refine gg_getR (k' := 146) rfl gf_RX10_9 dX10_measure_20 sh_145 pl_145 (by decide) (by decide) rr_145_0 ?_
  refine gg_iload_n dX10_measure_23 1 rfl ?_
  refine gg_ialdj f dX10_measure_24 sh_146 pl_146 (by decide) rfl hf ?_
  refine gg_toI (b := (n : Int)) hM.1 ?_
  refine gg_if_ne (tgt := 33) dX10_measure_25 (by decide) (by have := hW.1; omega) (fun hn0 => ?_) (fun hn0 => ?_)
  · refine gg_aload_n dX10_measure_33 0 rfl ?_
    refine gg_iload_n dX10_measure_34 1 rfl ?_
    refine gg_iconst dX10_measure_35 ?_
    refine gg_iload_n dX10_measure_36 2 rfl ?_
    refine gg_callVi (own := RX10) (yt := gm_X10_measureOf) rfl gl_RX10_293 gk_X10_measureOf gr_X10_measureOf dX10_measure_37 (r_X10_measureOf hf hM hW hq n 0 (by omega) (by have := hW.2.1 (by omega); omega) (d - 1) (by omega)) sh_145 pl_145 (by decide) rfl rfl rfl (Nat.le_of_ble_eq_true rfl) (by show _ ≤ d; omega) ⟨Nat.le_refl _, Nat.le_refl _⟩ (fun e5 μ' hc => ?_)
    obtain ⟨rfl, rfl⟩ := hc
    refine gg_ireti dX10_measure_40 rfl ⟨rfl, rfl⟩ ?_
    exact ⟨rfl, by rw [if_neg (by omega)]⟩
  · refine gg_bipush dX10_measure_28 (by decide) ?_
    refine gg_goto (tgt := 40) dX10_measure_30 (by decide) ?_
    refine gg_ireti dX10_measure_40 rfl ⟨rfl, rfl⟩ ?_
    exact ⟨rfl, by rw [if_pos (by omega)]⟩

set_option maxRecDepth 10000 in
theorem c_X10_measure_out {l : Launch} {Γ : gC} {ad : Nat → Nat} {I : Nat → Nat → Int} {J : Nat → Nat → Int64} {d : Nat} {i q : Int} (hi : -2147483648 ≤ i ∧ i ≤ 2147483647) (hq : -2147483648 ≤ q ∧ q ≤ 2147483647) (ho : ¬ (0 ≤ i ∧ i ≤ 11 ∧ 0 ≤ q ∧ q ≤ 5)) (hd : 3 ≤ d) : gKi l Γ gm_X10_measure d [.ref (gad (gSS ad) 145), .int (iv i), .int (iv q)] (gSS ad, I, J) (fun e μ => μ = (gSS ad, I, J) ∧ e = -2) := by
  refine gKi_of gk_X10_measure.1 (Nat.le_of_ble_eq_true rfl) ?_
  show gG l Γ gm_X10_measure (d, 0, 0, 0, 0) 0 [(0, .ref (gad (gSS ad) 145)), (1, .int (iv i)), (2, .int (iv q))] [] _ _
  refine gg_iload_n dX10_measure_0 1 rfl ?_
  refine gg_callSi (own := RX10) (yt := gm_X10_isFormula) rfl gl_RX10_181 gk_X10_isFormula gr_X10_isFormula dX10_measure_1 (c_X10_isFormula (d := d - 1) (by omega) (by omega)) rfl rfl (Nat.le_of_ble_eq_true rfl) (by show _ ≤ d; omega) ⟨Nat.le_refl _, Nat.le_refl _⟩ (fun e1 μ' hc => ?_)
  obtain ⟨rfl, ⟨rfl, hb2⟩ | ⟨rfl, hb2⟩⟩ := hc
  · refine gg_if_eq_f (tgt := 16) dX10_measure_4 (by decide) (by decide) (by decide) ?_
    refine gg_iload_n dX10_measure_7 2 rfl ?_
    refine gg_iconst dX10_measure_8 ?_
    refine gg_iconst dX10_measure_9 ?_
    refine gg_callSi (own := RX10) (yt := gm_X10_in) rfl gl_RX10_84 gk_X10_in gr_X10_in dX10_measure_10 (c_X10_in (d := d - 1) (by omega)) rfl rfl (Nat.le_of_ble_eq_true rfl) (by show _ ≤ d; omega) ⟨Nat.le_refl _, Nat.le_refl _⟩ (fun e3 μ' hc => ?_)
    obtain ⟨rfl, ⟨rfl, hb4⟩ | ⟨rfl, hb4⟩⟩ := hc
    · refine gg_if_ne_t (tgt := 19) dX10_measure_13 (by decide) (by decide) (by decide) ?_
      exfalso
      omega
    · refine gg_if_ne_f (tgt := 19) dX10_measure_13 (by decide) (by decide) (by decide) ?_
      refine gg_bipush dX10_measure_16 (by decide) ?_
      refine gg_ireti dX10_measure_18 rfl ⟨rfl, rfl⟩ ?_
      exact ⟨rfl, rfl⟩
  · refine gg_if_eq_t (tgt := 16) dX10_measure_4 (by decide) (by decide) (by decide) ?_
    refine gg_bipush dX10_measure_16 (by decide) ?_
    refine gg_ireti dX10_measure_18 rfl ⟨rfl, rfl⟩ ?_
    exact ⟨rfl, rfl⟩

