/-! alike, shared, unlike -/
/-- mo is the greatest size of a node ahead of i that has one alike in the other row -/
def gShv (n n' : Nat) (K : Nat → Nat) (N : Nat → Int64) (Z : Nat → Nat) (K' : Nat → Nat) (N' : Nat → Int64) (Z' : Nat → Nat) (i mo : Nat) : Prop := (∀ i' j', i' < i → j' < n' → gAl K N Z i' K' N' Z' j' → Z i' ≤ mo) ∧ (mo = 0 ∨ ∃ i' j', i' < n ∧ j' < n' ∧ gAl K N Z i' K' N' Z' j' ∧ Z i' = mo)
theorem gShv_uni {n n' : Nat} {K : Nat → Nat} {N : Nat → Int64} {Z : Nat → Nat} {K' : Nat → Nat} {N' : Nat → Int64} {Z' : Nat → Nat} {x y : Nat} (hx : gShv n n' K N Z K' N' Z' n x) (hy : gShv n n' K N Z K' N' Z' n y) : x = y := by
  obtain ⟨h1, h2⟩ := hx
  obtain ⟨g1, g2⟩ := hy
  have a : x ≤ y := by
    rcases h2 with h | ⟨i, j, hi, hj, hal, hz⟩
    · omega
    · have := g1 i j hi hj hal
      omega
  have b : y ≤ x := by
    rcases g2 with h | ⟨i, j, hi, hj, hal, hz⟩
    · omega
    · have := h1 i j hi hj hal
      omega
  omega
noncomputable def gUnl (K : Nat → Nat) (N : Nat → Int64) (Z : Nat → Nat) : Nat → Nat
  | 0 => 0
  | i + 1 => gUnl K N Z i + @ite Nat (∀ j, j < i → ¬ gAl K N Z i K N Z j) (Classical.propDecidable _) 1 0
theorem gUnl_1 {K : Nat → Nat} {N : Nat → Int64} {Z : Nat → Nat} {i : Nat} (h : ∀ j, j < i → ¬ gAl K N Z i K N Z j) : gUnl K N Z (i + 1) = gUnl K N Z i + 1 := by
  simp only [gUnl]
  rw [if_pos h]
theorem gUnl_0 {K : Nat → Nat} {N : Nat → Int64} {Z : Nat → Nat} {i : Nat} (h : ¬ ∀ j, j < i → ¬ gAl K N Z i K N Z j) : gUnl K N Z (i + 1) = gUnl K N Z i := by
  simp only [gUnl]
  rw [if_neg h]
  rfl
theorem gUnl_le (K : Nat → Nat) (N : Nat → Int64) (Z : Nat → Nat) : ∀ i, gUnl K N Z i ≤ i
  | 0 => Nat.le_refl _
  | i + 1 => by
    have := gUnl_le K N Z i
    by_cases h : ∀ j, j < i → ¬ gAl K N Z i K N Z j
    · rw [gUnl_1 h]
      omega
    · rw [gUnl_0 h]
      omega
set_option maxRecDepth 10000 in
theorem w_X9_sharedBy_15 {l : Launch} {Γ : gC} {ad : Nat → Nat} {I : Nat → Nat → Int} {J : Nat → Nat → Int64} {d : Nat} {a n b n' : Nat} {K K' : Nat → Nat} {N N' : Nat → Int64} {Z Z' : Nat → Nat} (hF : gF a) (hA : gAt I J a n K N Z) (hW : gWf n K N Z) (hG : gF b) (hA' : gAt I J b n' K' N' Z') (hW' : gWf n' K' N' Z') {i : Nat} (hi : i < n) (hd : 4 ≤ d) {Q : Option Value → gM → Prop} (hk : ∀ mo : Nat, mo ≤ 200 → gShv n n' K N Z K' N' Z' (i + 1) mo → gG l Γ gm_X9_sharedBy (d, 0, 0, 0, 0) 56 [(3, .int (iv (i : Int))), (2, .int (iv (mo : Int))), (0, .ref (gad (gSS ad) a)), (1, .ref (gad (gSS ad) b))] [] (gSS ad, I, J) Q) : ∀ (m : Nat) (j mo : Nat), n' - j < m → (j ≤ n') → (mo ≤ 200) → (gShv n n' K N Z K' N' Z' i mo) → (∀ j', j' < j → gAl K N Z i K' N' Z' j' → Z i ≤ mo) → gG l Γ gm_X9_sharedBy (d, 0, 0, 0, 0) 15 [(4, .int (iv (j : Int))), (3, .int (iv (i : Int))), (2, .int (iv (mo : Int))), (0, .ref (gad (gSS ad) a)), (1, .ref (gad (gSS ad) b))] [] (gSS ad, I, J) Q := by
  intro m
  induction m with
  | zero => intros; omega
  | succ m ih =>
    intro j mo hm hj hmo h1 h2
    have hw1 := hW.1
    have hw2 := hW'.1
    have hzi := (hW.2.2 i hi).2.2.1
    refine gg_iload dX9_sharedBy_15 0 rfl ?_
    refine gg_aload_n dX9_sharedBy_17 4 rfl ?_
    refine gg_callVi (own := RX9) (yt := gm_X1_size) rfl gl_RX9_119 gk_X1_size gr_X1_size dX9_sharedBy_18 (c_X1_size (d := d - 1) hG hA') (gFsh hG) (gFlt hG) (by decide) rfl rfl rfl (Nat.le_of_ble_eq_true rfl) (by show _ ≤ d; omega) ⟨Nat.le_refl _, Nat.le_refl _⟩ (fun e1 μ' hc => ?_)
    obtain ⟨rfl, rfl⟩ := hc
    refine gg_icmp_ge (tgt := 56) dX9_sharedBy_21 (by decide) (by omega) (fun hb => ?_) (fun hb => ?_)
    · refine gg_sub [1, 2, 3, 4] rfl ?_
      exact hk mo hmo ⟨fun i' j' hi' hj' hg => by
        rcases Nat.lt_succ_iff_lt_or_eq.mp hi' with h | h
        · exact h1.1 i' j' h hj' hg
        · subst h
          first | omega | exact h2 j' (by omega) hg, h1.2⟩
    · refine gg_aload_n dX9_sharedBy_24 3 rfl ?_
      refine gg_iload_n dX9_sharedBy_25 1 rfl ?_
      refine gg_callVi (own := RX9) (yt := gm_X1_nodes) rfl gl_RX9_158 gk_X1_nodes gr_X1_nodes dX9_sharedBy_26 (c_X1_nodes (d := d - 1) hF hA hW.1 (j := i) hi) (gFsh hF) (gFlt hF) (by decide) rfl rfl rfl (Nat.le_of_ble_eq_true rfl) (by show _ ≤ d; omega) ⟨Nat.le_refl _, Nat.le_refl _⟩ (fun e2 μ' hc => ?_)
      obtain ⟨rfl, rfl⟩ := hc
      refine gg_iload_n dX9_sharedBy_29 2 rfl ?_
      refine gg_icmp_le (tgt := 56) dX9_sharedBy_30 (by decide) (by omega) (fun hc => ?_) (fun hc => ?_)
      · refine gg_sub [1, 2, 3, 4] rfl ?_
        exact hk mo hmo ⟨fun i' j' hi' hj' hg => by
          rcases Nat.lt_succ_iff_lt_or_eq.mp hi' with h | h
          · exact h1.1 i' j' h hj' hg
          · subst h
            first | omega | exact h2 j' (by omega) hg, h1.2⟩
      · refine gg_aload_n dX9_sharedBy_33 3 rfl ?_
        refine gg_iload_n dX9_sharedBy_34 1 rfl ?_
        refine gg_aload_n dX9_sharedBy_35 4 rfl ?_
        refine gg_iload dX9_sharedBy_36 0 rfl ?_
        refine gg_callVi (own := RX9) (yt := gm_X1_isAlike) rfl gl_RX9_212 gk_X1_isAlike gr_X1_isAlike dX9_sharedBy_38 (c_X1_isAlike (d := d - 1) hF hA hW hG hA' hW' (i := i) (j := j) hi (by omega) (by omega)) (gFsh hF) (gFlt hF) (by decide) rfl rfl rfl (Nat.le_of_ble_eq_true rfl) (by show _ ≤ d; omega) ⟨Nat.le_refl _, Nat.le_refl _⟩ (fun e3 μ' hc => ?_)
        obtain ⟨rfl, ⟨rfl, hal⟩ | ⟨rfl, hal⟩⟩ := hc
        · refine gg_if_eq_f (tgt := 50) dX9_sharedBy_41 (by decide) (by decide) (by decide) ?_
          refine gg_aload_n dX9_sharedBy_44 3 rfl ?_
          refine gg_iload_n dX9_sharedBy_45 1 rfl ?_
          refine gg_callVi (own := RX9) (yt := gm_X1_nodes) rfl gl_RX9_158 gk_X1_nodes gr_X1_nodes dX9_sharedBy_46 (c_X1_nodes (d := d - 1) hF hA hW.1 (j := i) hi) (gFsh hF) (gFlt hF) (by decide) rfl rfl rfl (Nat.le_of_ble_eq_true rfl) (by show _ ≤ d; omega) ⟨Nat.le_refl _, Nat.le_refl _⟩ (fun e4 μ' hc => ?_)
          obtain ⟨rfl, rfl⟩ := hc
          refine gg_istore_n (ls' := [(2, .int (iv (Z i : Int))), (4, .int (iv (j : Int))), (3, .int (iv (i : Int))), (0, .ref (gad (gSS ad) a)), (1, .ref (gad (gSS ad) b))]) dX9_sharedBy_49 rfl (by decide) rfl ?_
          refine gg_iincv (ls' := [(4, .int (iv ((j + 1 : Nat) : Int))), (2, .int (iv (Z i : Int))), (3, .int (iv (i : Int))), (0, .ref (gad (gSS ad) a)), (1, .ref (gad (gSS ad) b))]) dX9_sharedBy_50 1 rfl (by omega) (by decide) rfl ?_
          refine gg_goto (tgt := 15) dX9_sharedBy_53 (by decide) ?_
          refine gg_sub [0, 2, 1, 3, 4] rfl ?_
          refine ih (j + 1) (Z i) (by omega) (by omega) (by omega) ⟨fun i' j' hi' hj' hg => ?_, Or.inr ⟨i, j, hi, by omega, hal, rfl⟩⟩ (fun j' hj' hg => Nat.le_refl _)
          have := h1.1 i' j' hi' hj' hg
          omega
        · refine gg_if_eq_t (tgt := 50) dX9_sharedBy_41 (by decide) (by decide) (by decide) ?_
          refine gg_iincv (ls' := [(4, .int (iv ((j + 1 : Nat) : Int))), (3, .int (iv (i : Int))), (2, .int (iv (mo : Int))), (0, .ref (gad (gSS ad) a)), (1, .ref (gad (gSS ad) b))]) dX9_sharedBy_50 0 rfl (by omega) (by decide) rfl ?_
          refine gg_goto (tgt := 15) dX9_sharedBy_53 (by decide) ?_
          exact ih (j + 1) mo (by omega) (by omega) hmo h1 (fun j' hj' hg => by
            rcases Nat.lt_succ_iff_lt_or_eq.mp hj' with h | h
            · exact h2 j' h hg
            · subst h
              exact absurd hg hal)

set_option maxRecDepth 10000 in
theorem w_X9_sharedBy_4 {l : Launch} {Γ : gC} {ad : Nat → Nat} {I : Nat → Nat → Int} {J : Nat → Nat → Int64} {d : Nat} {a n b n' : Nat} {K K' : Nat → Nat} {N N' : Nat → Int64} {Z Z' : Nat → Nat} (hF : gF a) (hA : gAt I J a n K N Z) (hW : gWf n K N Z) (hG : gF b) (hA' : gAt I J b n' K' N' Z') (hW' : gWf n' K' N' Z') (hd : 4 ≤ d) : ∀ (m : Nat) (i mo : Nat), n - i < m → (i ≤ n) → (mo ≤ 200) → (gShv n n' K N Z K' N' Z' i mo) → gG l Γ gm_X9_sharedBy (d, 0, 0, 0, 0) 4 [(3, .int (iv (i : Int))), (2, .int (iv (mo : Int))), (0, .ref (gad (gSS ad) a)), (1, .ref (gad (gSS ad) b))] [] (gSS ad, I, J) (gDi (fun e μ => μ = (gSS ad, I, J) ∧ ∃ mo : Nat, e = (mo : Int) ∧ mo ≤ 200 ∧ gShv n n' K N Z K' N' Z' n mo)) := by
  intro m
  induction m with
  | zero => intros; omega
  | succ m ih =>
    intro i mo hm hi hmo h1
    have hw1 := hW.1
    have hw2 := hW'.1
    refine gg_iload_n dX9_sharedBy_4 0 rfl ?_
    refine gg_aload_n dX9_sharedBy_5 2 rfl ?_
    refine gg_callVi (own := RX9) (yt := gm_X1_size) rfl gl_RX9_119 gk_X1_size gr_X1_size dX9_sharedBy_6 (c_X1_size (d := d - 1) hF hA) (gFsh hF) (gFlt hF) (by decide) rfl rfl rfl (Nat.le_of_ble_eq_true rfl) (by show _ ≤ d; omega) ⟨Nat.le_refl _, Nat.le_refl _⟩ (fun e1 μ' hc => ?_)
    obtain ⟨rfl, rfl⟩ := hc
    refine gg_icmp_ge (tgt := 62) dX9_sharedBy_9 (by decide) (by omega) (fun hb => ?_) (fun hb => ?_)
    · have he : i = n := by omega
      subst he
      refine gg_iload_n dX9_sharedBy_62 1 rfl ?_
      refine gg_ireti dX9_sharedBy_63 rfl ⟨rfl, rfl⟩ ?_
      exact ⟨rfl, mo, rfl, hmo, h1⟩
    · have hi2 : i < n := by omega
      refine gg_iconst dX9_sharedBy_12 ?_
      refine gg_istore (ls' := [(4, .int (iv 0)), (3, .int (iv (i : Int))), (2, .int (iv (mo : Int))), (0, .ref (gad (gSS ad) a)), (1, .ref (gad (gSS ad) b))]) dX9_sharedBy_13 (by decide) rfl ?_
      refine gg_sub [0, 1, 2, 3, 4] rfl ?_
      refine w_X9_sharedBy_15 hF hA hW hG hA' hW' hi2 hd (fun mo2 hmo2 hi3 => ?_) (n' + 1) 0 mo (by omega) (by omega) hmo h1 (fun j' hj' => absurd hj' (Nat.not_lt_zero _))
      refine gg_iinc (ls' := [(3, .int (iv ((i : Int) + 1))), (2, .int (iv (mo2 : Int))), (0, .ref (gad (gSS ad) a)), (1, .ref (gad (gSS ad) b))]) dX9_sharedBy_56 0 rfl (by decide) rfl ?_
      refine gg_goto (tgt := 4) dX9_sharedBy_59 (by decide) ?_
      exact ih (i + 1) mo2 (by omega) (by omega) hmo2 hi3

set_option maxRecDepth 10000 in
theorem c_X9_sharedBy {l : Launch} {Γ : gC} {ad : Nat → Nat} {I : Nat → Nat → Int} {J : Nat → Nat → Int64} {d : Nat} {a n b n' : Nat} {K K' : Nat → Nat} {N N' : Nat → Int64} {Z Z' : Nat → Nat} (hF : gF a) (hA : gAt I J a n K N Z) (hW : gWf n K N Z) (hG : gF b) (hA' : gAt I J b n' K' N' Z') (hW' : gWf n' K' N' Z') (hd : 4 ≤ d) : gKi l Γ gm_X9_sharedBy d [.ref (gad (gSS ad) a), .ref (gad (gSS ad) b)] (gSS ad, I, J) (fun e μ => μ = (gSS ad, I, J) ∧ ∃ mo : Nat, e = (mo : Int) ∧ mo ≤ 200 ∧ gShv n n' K N Z K' N' Z' n mo) := by
  refine gKi_of gk_X9_sharedBy.1 (Nat.le_of_ble_eq_true rfl) ?_
  show gG l Γ gm_X9_sharedBy (d, 0, 0, 0, 0) 0 [(0, .ref (gad (gSS ad) a)), (1, .ref (gad (gSS ad) b))] [] _ _
  refine gg_iconst dX9_sharedBy_0 ?_
  refine gg_istore_n (ls' := [(2, .int (iv 0)), (0, .ref (gad (gSS ad) a)), (1, .ref (gad (gSS ad) b))]) dX9_sharedBy_1 rfl (by decide) rfl ?_
  refine gg_iconst dX9_sharedBy_2 ?_
  refine gg_istore_n (ls' := [(3, .int (iv 0)), (2, .int (iv 0)), (0, .ref (gad (gSS ad) a)), (1, .ref (gad (gSS ad) b))]) dX9_sharedBy_3 rfl (by decide) rfl ?_
  refine gg_sub [0, 1, 2, 3] rfl ?_
  exact w_X9_sharedBy_4 hF hA hW hG hA' hW' hd (n + 1) 0 0 (by omega) (by omega) (by omega) ⟨fun i' j' hi' => absurd hi' (Nat.not_lt_zero _), Or.inl rfl⟩

set_option maxRecDepth 10000 in
theorem w_X9_unlikeOf_17 {l : Launch} {Γ : gC} {ad : Nat → Nat} {I : Nat → Nat → Int} {J : Nat → Nat → Int64} {d : Nat} {a n : Nat} {K : Nat → Nat} {N : Nat → Int64} {Z : Nat → Nat} (hF : gF a) (hA : gAt I J a n K N Z) (hW : gWf n K N Z) {i c : Nat} (hi : i < n) (hc : c ≤ i) (hd : 4 ≤ d) {Q : Option Value → gM → Prop} (hk : ∀ c2 : Nat, c2 = c + @ite Nat (∀ j, j < i → ¬ gAl K N Z i K N Z j) (Classical.propDecidable _) 1 0 → gG l Γ gm_X9_unlikeOf (d, 0, 0, 0, 0) 57 [(2, .int (iv (i : Int))), (1, .int (iv (c2 : Int))), (0, .ref (gad (gSS ad) a))] [] (gSS ad, I, J) Q) : ∀ (m : Nat) (j : Nat) (nw : Int), i - j < m → (j ≤ i) → ((nw = 0 ∧ ¬ ∀ j', j' < i → ¬ gAl K N Z i K N Z j') ∨ (nw = 1 ∧ ∀ j', j' < j → ¬ gAl K N Z i K N Z j')) → gG l Γ gm_X9_unlikeOf (d, 0, 0, 0, 0) 17 [(4, .int (iv (j : Int))), (3, .int (iv nw)), (2, .int (iv (i : Int))), (1, .int (iv (c : Int))), (0, .ref (gad (gSS ad) a))] [] (gSS ad, I, J) Q := by
  intro m
  induction m with
  | zero => intros; omega
  | succ m ih =>
    intro j nw hm hj hnw
    have hw1 := hW.1
    refine gg_iload dX9_unlikeOf_17 0 rfl ?_
    refine gg_iload_n dX9_unlikeOf_19 2 rfl ?_
    refine gg_icmp_ge (tgt := 50) dX9_unlikeOf_20 (by decide) (by omega) (fun hb => ?_) (fun hb => ?_)
    · have he : j = i := by omega
      refine gg_iload_n dX9_unlikeOf_50 1 rfl ?_
      refine gg_if_eq (tgt := 57) dX9_unlikeOf_51 (by decide) (by omega) (fun hy => ?_) (fun hy => ?_)
      · refine gg_sub [2, 3, 4] rfl ?_
        refine hk c ?_
        rw [if_neg]
        · rfl
        rcases hnw with h | h
        · exact h.2
        · omega
      · refine gg_iincv (ls' := [(1, .int (iv ((c + 1 : Nat) : Int))), (4, .int (iv (j : Int))), (3, .int (iv nw)), (2, .int (iv (i : Int))), (0, .ref (gad (gSS ad) a))]) dX9_unlikeOf_54 3 rfl (by omega) (by decide) rfl ?_
        refine gg_sub [3, 0, 4] rfl ?_
        refine hk (c + 1) ?_
        rw [if_pos]
        rcases hnw with h | h
        · omega
        · exact fun j' hj' => h.2 j' (by omega)
    · have hji : j < i := by omega
      refine gg_iload_n dX9_unlikeOf_23 1 rfl ?_
      refine gg_if_eq (tgt := 50) dX9_unlikeOf_24 (by decide) (by omega) (fun hx => ?_) (fun hx => ?_)
      · refine gg_iload_n dX9_unlikeOf_50 1 rfl ?_
        refine gg_if_eq (tgt := 57) dX9_unlikeOf_51 (by decide) (by omega) (fun hy => ?_) (fun hy => ?_)
        · refine gg_sub [2, 3, 4] rfl ?_
          refine hk c ?_
          rw [if_neg]
          · rfl
          rcases hnw with h | h
          · exact h.2
          · omega
        · refine gg_iincv (ls' := [(1, .int (iv ((c + 1 : Nat) : Int))), (4, .int (iv (j : Int))), (3, .int (iv nw)), (2, .int (iv (i : Int))), (0, .ref (gad (gSS ad) a))]) dX9_unlikeOf_54 3 rfl (by omega) (by decide) rfl ?_
          refine gg_sub [3, 0, 4] rfl ?_
          refine hk (c + 1) ?_
          rw [if_pos]
          rcases hnw with h | h
          · omega
          · exact fun j' hj' => h.2 j' (by omega)
      · have hn2 : ∀ j', j' < j → ¬ gAl K N Z i K N Z j' := by
          rcases hnw with h | h
          · omega
          · exact h.2
        refine gg_aload_n dX9_unlikeOf_27 4 rfl ?_
        refine gg_iload_n dX9_unlikeOf_28 2 rfl ?_
        refine gg_aload_n dX9_unlikeOf_29 4 rfl ?_
        refine gg_iload dX9_unlikeOf_30 0 rfl ?_
        refine gg_callVi (own := RX9) (yt := gm_X1_isAlike) rfl gl_RX9_212 gk_X1_isAlike gr_X1_isAlike dX9_unlikeOf_32 (c_X1_isAlike (d := d - 1) hF hA hW hF hA hW (i := i) (j := j) hi (by omega) (by omega)) (gFsh hF) (gFlt hF) (by decide) rfl rfl rfl (Nat.le_of_ble_eq_true rfl) (by show _ ≤ d; omega) ⟨Nat.le_refl _, Nat.le_refl _⟩ (fun e1 μ' hc => ?_)
        obtain ⟨rfl, ⟨rfl, hal⟩ | ⟨rfl, hal⟩⟩ := hc
        · refine gg_if_ne_t (tgt := 42) dX9_unlikeOf_35 (by decide) (by decide) (by decide) ?_
          refine gg_iconst dX9_unlikeOf_42 ?_
          refine gg_istore_n (ls' := [(3, .int (iv 0)), (4, .int (iv (j : Int))), (2, .int (iv (i : Int))), (1, .int (iv (c : Int))), (0, .ref (gad (gSS ad) a))]) dX9_unlikeOf_43 rfl (by decide) rfl ?_
          refine gg_iincv (ls' := [(4, .int (iv ((j + 1 : Nat) : Int))), (3, .int (iv 0)), (2, .int (iv (i : Int))), (1, .int (iv (c : Int))), (0, .ref (gad (gSS ad) a))]) dX9_unlikeOf_44 1 rfl (by omega) (by decide) rfl ?_
          refine gg_goto (tgt := 17) dX9_unlikeOf_47 (by decide) ?_
          exact ih (j + 1) 0 (by omega) (by omega) (Or.inl ⟨rfl, fun h => absurd hal (h j (by omega))⟩)
        · refine gg_if_ne_f (tgt := 42) dX9_unlikeOf_35 (by decide) (by decide) (by decide) ?_
          refine gg_iconst dX9_unlikeOf_38 ?_
          refine gg_goto (tgt := 43) dX9_unlikeOf_39 (by decide) ?_
          refine gg_istore_n (ls' := [(3, .int (iv 1)), (4, .int (iv (j : Int))), (2, .int (iv (i : Int))), (1, .int (iv (c : Int))), (0, .ref (gad (gSS ad) a))]) dX9_unlikeOf_43 rfl (by decide) rfl ?_
          refine gg_iincv (ls' := [(4, .int (iv ((j + 1 : Nat) : Int))), (3, .int (iv 1)), (2, .int (iv (i : Int))), (1, .int (iv (c : Int))), (0, .ref (gad (gSS ad) a))]) dX9_unlikeOf_44 1 rfl (by omega) (by decide) rfl ?_
          refine gg_goto (tgt := 17) dX9_unlikeOf_47 (by decide) ?_
          exact ih (j + 1) 1 (by omega) (by omega) (Or.inr ⟨rfl, fun j' hj' => by
            rcases Nat.lt_succ_iff_lt_or_eq.mp hj' with h | h
            · exact hn2 j' h
            · subst h
              exact hal⟩)

set_option maxRecDepth 10000 in
theorem w_X9_unlikeOf_4 {l : Launch} {Γ : gC} {ad : Nat → Nat} {I : Nat → Nat → Int} {J : Nat → Nat → Int64} {d : Nat} {a n : Nat} {K : Nat → Nat} {N : Nat → Int64} {Z : Nat → Nat} (hF : gF a) (hA : gAt I J a n K N Z) (hW : gWf n K N Z) (hd : 4 ≤ d) : ∀ (m : Nat) (i : Nat), n - i < m → (i ≤ n) → gG l Γ gm_X9_unlikeOf (d, 0, 0, 0, 0) 4 [(2, .int (iv (i : Int))), (1, .int (iv (gUnl K N Z i : Int))), (0, .ref (gad (gSS ad) a))] [] (gSS ad, I, J) (gDi (fun e μ => μ = (gSS ad, I, J) ∧ e = (gUnl K N Z n : Int))) := by
  intro m
  induction m with
  | zero => intros; omega
  | succ m ih =>
    intro i hm hi
    have hw1 := hW.1
    refine gg_iload_n dX9_unlikeOf_4 0 rfl ?_
    refine gg_aload_n dX9_unlikeOf_5 2 rfl ?_
    refine gg_callVi (own := RX9) (yt := gm_X1_size) rfl gl_RX9_119 gk_X1_size gr_X1_size dX9_unlikeOf_6 (c_X1_size (d := d - 1) hF hA) (gFsh hF) (gFlt hF) (by decide) rfl rfl rfl (Nat.le_of_ble_eq_true rfl) (by show _ ≤ d; omega) ⟨Nat.le_refl _, Nat.le_refl _⟩ (fun e1 μ' hc => ?_)
    obtain ⟨rfl, rfl⟩ := hc
    refine gg_icmp_ge (tgt := 63) dX9_unlikeOf_9 (by decide) (by omega) (fun hb => ?_) (fun hb => ?_)
    · have he : i = n := by omega
      subst he
      refine gg_iload_n dX9_unlikeOf_63 1 rfl ?_
      refine gg_ireti dX9_unlikeOf_64 rfl ⟨rfl, rfl⟩ ?_
      exact ⟨rfl, rfl⟩
    · have hi2 : i < n := by omega
      have hle := gUnl_le K N Z i
      refine gg_iconst dX9_unlikeOf_12 ?_
      refine gg_istore_n (ls' := [(3, .int (iv 1)), (2, .int (iv (i : Int))), (1, .int (iv (gUnl K N Z i : Int))), (0, .ref (gad (gSS ad) a))]) dX9_unlikeOf_13 rfl (by decide) rfl ?_
      refine gg_iconst dX9_unlikeOf_14 ?_
      refine gg_istore (ls' := [(4, .int (iv 0)), (3, .int (iv 1)), (2, .int (iv (i : Int))), (1, .int (iv (gUnl K N Z i : Int))), (0, .ref (gad (gSS ad) a))]) dX9_unlikeOf_15 (by decide) rfl ?_
      refine gg_sub [0, 1, 2, 3, 4] rfl ?_
      refine w_X9_unlikeOf_17 hF hA hW hi2 hle hd (fun c2 hc2 => ?_) (i + 1) 0 1 (by omega) (by omega) (Or.inr ⟨rfl, fun j' hj' => absurd hj' (Nat.not_lt_zero _)⟩)
      subst hc2
      refine gg_iinc (ls' := [(2, .int (iv ((i : Int) + 1))), (1, .int (iv (gUnl K N Z (i + 1) : Int))), (0, .ref (gad (gSS ad) a))]) dX9_unlikeOf_57 0 rfl (by decide) rfl ?_
      refine gg_goto (tgt := 4) dX9_unlikeOf_60 (by decide) ?_
      exact ih (i + 1) (by omega) (by omega)

set_option maxRecDepth 10000 in
theorem c_X9_unlikeOf {l : Launch} {Γ : gC} {ad : Nat → Nat} {I : Nat → Nat → Int} {J : Nat → Nat → Int64} {d : Nat} {a n : Nat} {K : Nat → Nat} {N : Nat → Int64} {Z : Nat → Nat} (hF : gF a) (hA : gAt I J a n K N Z) (hW : gWf n K N Z) (hd : 4 ≤ d) : gKi l Γ gm_X9_unlikeOf d [.ref (gad (gSS ad) a)] (gSS ad, I, J) (fun e μ => μ = (gSS ad, I, J) ∧ e = (gUnl K N Z n : Int)) := by
  refine gKi_of gk_X9_unlikeOf.1 (Nat.le_of_ble_eq_true rfl) ?_
  show gG l Γ gm_X9_unlikeOf (d, 0, 0, 0, 0) 0 [(0, .ref (gad (gSS ad) a))] [] _ _
  refine gg_iconst dX9_unlikeOf_0 ?_
  refine gg_istore_n (ls' := [(1, .int (iv 0)), (0, .ref (gad (gSS ad) a))]) dX9_unlikeOf_1 rfl (by decide) rfl ?_
  refine gg_iconst dX9_unlikeOf_2 ?_
  refine gg_istore_n (ls' := [(2, .int (iv 0)), (1, .int (iv 0)), (0, .ref (gad (gSS ad) a))]) dX9_unlikeOf_3 rfl (by decide) rfl ?_
  refine gg_sub [0, 1, 2] rfl ?_
  exact w_X9_unlikeOf_4 hF hA hW hd (n + 1) 0 (by omega) (by omega)

