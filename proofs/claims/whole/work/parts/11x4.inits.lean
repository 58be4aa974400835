/-! what the constructors of the nested classes make (by program) -/
theorem go_RX9 : Cond.methodLink RX9 1 Lib.objectInit ∈ WT := gmem 140 (by decide +kernel) (by decide +kernel)
theorem go_RX1 : Cond.methodLink RX1 3 Lib.objectInit ∈ WT := gmem 151 (by decide +kernel) (by decide +kernel)
theorem go_RX0 : Cond.methodLink RX0 3 Lib.objectInit ∈ WT := gmem 172 (by decide +kernel) (by decide +kernel)
theorem go_RX5 : Cond.methodLink RX5 3 Lib.objectInit ∈ WT := gmem 206 (by decide +kernel) (by decide +kernel)
theorem go_RX7 : Cond.methodLink RX7 3 Lib.objectInit ∈ WT := gmem 237 (by decide +kernel) (by decide +kernel)
theorem go_RX8 : Cond.methodLink RX8 3 Lib.objectInit ∈ WT := gmem 253 (by decide +kernel) (by decide +kernel)
theorem go_RX4 : Cond.methodLink RX4 3 Lib.objectInit ∈ WT := gmem 267 (by decide +kernel) (by decide +kernel)
theorem go_RX3 : Cond.methodLink RX3 3 Lib.objectInit ∈ WT := gmem 290 (by decide +kernel) (by decide +kernel)
theorem go_RX2 : Cond.methodLink RX2 3 Lib.objectInit ∈ WT := gmem 324 (by decide +kernel) (by decide +kernel)
theorem go_RX6 : Cond.methodLink RX6 3 Lib.objectInit ∈ WT := gmem 336 (by decide +kernel) (by decide +kernel)
theorem go_RX10 : Cond.methodLink RX10 1 Lib.objectInit ∈ WT := gmem 1107 (by decide +kernel) (by decide +kernel)
set_option maxRecDepth 10000 in
theorem c_X1_init {l : Launch} {Γ : gC} {d : Nat} {rf : Nat → Nat → Option Nat} {ad : Nat → Nat} {I : Nat → Nat → Int} {J : Nat → Nat → Int64} {a n : Nat} (han : a < n) (ha : gSh a = (1, 4)) (s0 : gSh n = (100, 200)) (s1 : gSh (n + 1) = (101, 200)) (s2 : gSh (n + 2) = (100, 200)) (hg : gNew n rf I J) (hd : 1 ≤ d) : gK l Γ gm_X1_init d 3 600 [.ref (ad a)] ((n, gSh, rf, ad), I, J) (fun r μ' => r = none ∧ ∃ ad' : Nat → Nat, (∀ k, k < n → ad' k = ad k) ∧ gNew (n + 3) (gnr (gnr (gnr rf a 0 n) a 1 (n + 1)) a 2 (n + 2)) I J ∧ μ' = ((n + 3, gSh, (gnr (gnr (gnr rf a 0 n) a 1 (n + 1)) a 2 (n + 2)), ad'), I, J)) := by
  refine gK_of gk_X1_init.1 (Nat.le_of_ble_eq_true rfl) ?_
  show gG l Γ gm_X1_init (d, 3, 600, 0, 0) 0 [(0, .ref (ad a))] [] _ _
  refine gg_aload_n dX1_init_0 0 rfl ?_
  refine gg_obj rfl go_RX1 dX1_init_1 (by show 1 ≤ d; omega) ?_
  refine gg_aload_n dX1_init_4 0 rfl ?_
  refine gg_sipush dX1_init_5 (by decide) ?_
  refine gg_nI (n' := n + 1) (u' := 1) (v' := 200) (len := 200) s0 rfl ⟨rfl, rfl, rfl⟩ dX1_init_8 hg ⟨by omega, by decide, by decide, by decide⟩ (fun ad1 h1 g1 => ?_)
  rw [← h1 a (by omega)]
  refine gg_pR (k := a) (w := n) rfl gf_RX1_9 dX1_init_10 ha ⟨by omega, by omega, by decide, by decide⟩ (by decide) rfl rfl rfl g1 (fun g2 => ?_)
  refine gg_aload_n dX1_init_13 0 rfl ?_
  refine gg_sipush dX1_init_14 (by decide) ?_
  refine gg_nJ (n' := n + 2) (u' := 2) (v' := 400) (len := 200) s1 rfl ⟨rfl, rfl, rfl⟩ dX1_init_17 g2 ⟨by omega, by decide, by decide, by decide⟩ (fun ad3 h3 g3 => ?_)
  rw [← h3 a (by omega)]
  refine gg_pR (k := a) (w := n + 1) rfl gf_RX1_15 dX1_init_19 ha ⟨by omega, by omega, by decide, by decide⟩ (by decide) rfl rfl rfl g3 (fun g4 => ?_)
  refine gg_aload_n dX1_init_22 0 rfl ?_
  refine gg_sipush dX1_init_23 (by decide) ?_
  refine gg_nI (n' := n + 3) (u' := 3) (v' := 600) (len := 200) s2 rfl ⟨rfl, rfl, rfl⟩ dX1_init_26 g4 ⟨by omega, by decide, by decide, by decide⟩ (fun ad5 h5 g5 => ?_)
  rw [← h5 a (by omega)]
  refine gg_pR (k := a) (w := n + 2) rfl gf_RX1_19 dX1_init_28 ha ⟨by omega, by omega, by decide, by decide⟩ (by decide) rfl rfl rfl g5 (fun g6 => ?_)
  refine gg_vret dX1_init_31 rfl ⟨rfl, rfl⟩ ?_
  exact ⟨rfl, ad5, fun k hk => (h5 k (by omega)).trans ((h3 k (by omega)).trans (h1 k (by omega))), g6, rfl⟩
set_option maxRecDepth 10000 in
theorem c_X6_init {l : Launch} {Γ : gC} {d : Nat} {rf : Nat → Nat → Option Nat} {ad : Nat → Nat} {I : Nat → Nat → Int} {J : Nat → Nat → Int64} {a n : Nat} (han : a < n) (ha : gSh a = (6, 3)) (s0 : gSh n = (100, 40)) (hg : gNew n rf I J) (hd : 1 ≤ d) : gK l Γ gm_X6_init d 1 40 [.ref (ad a)] ((n, gSh, rf, ad), I, J) (fun r μ' => r = none ∧ ∃ ad' : Nat → Nat, (∀ k, k < n → ad' k = ad k) ∧ gNew (n + 1) (gnr rf a 0 n) (gu I a 1 (-1)) J ∧ μ' = ((n + 1, gSh, (gnr rf a 0 n), ad'), (gu I a 1 (-1)), J)) := by
  refine gK_of gk_X6_init.1 (Nat.le_of_ble_eq_true rfl) ?_
  show gG l Γ gm_X6_init (d, 1, 40, 0, 0) 0 [(0, .ref (ad a))] [] _ _
  refine gg_aload_n dX6_init_0 0 rfl ?_
  refine gg_obj rfl go_RX6 dX6_init_1 (by show 1 ≤ d; omega) ?_
  refine gg_aload_n dX6_init_4 0 rfl ?_
  refine gg_bipush dX6_init_5 (by decide) ?_
  refine gg_nI (n' := n + 1) (u' := 1) (v' := 40) (len := 40) s0 rfl ⟨rfl, rfl, rfl⟩ dX6_init_7 hg ⟨by omega, by decide, by decide, by decide⟩ (fun ad1 h1 g1 => ?_)
  rw [← h1 a (by omega)]
  refine gg_pR (k := a) (w := n) rfl gf_RX6_9 dX6_init_9 ha ⟨by omega, by omega, by decide, by decide⟩ (by decide) rfl rfl rfl g1 (fun g2 => ?_)
  refine gg_aload_n dX6_init_12 0 rfl ?_
  refine gg_iconst dX6_init_13 ?_
  refine gg_putI (S := (n + 1, gSh, (gnr rf a 0 n), ad1)) (k := a) rfl gf_RX6_15 dX6_init_14 ha (by show _ < _; omega) (by decide) (by decide) rfl (gfit_i _) ?_
  have g3 := gNew_int (k := a) (j := 1) (x := (-1)) g2 (by omega)
  refine gg_vret dX6_init_17 rfl ⟨rfl, rfl⟩ ?_
  exact ⟨rfl, ad1, fun k hk => h1 k (by omega), g3, rfl⟩
set_option maxRecDepth 10000 in
theorem c_X0_init {l : Launch} {Γ : gC} {d : Nat} {rf : Nat → Nat → Option Nat} {ad : Nat → Nat} {I : Nat → Nat → Int} {J : Nat → Nat → Int64} (hg : gNew 13 rf I J) (hd : 1 ≤ d) : gK l Γ gm_X0_init d 7 7800 [.ref (ad 12)] ((13, gSh, rf, ad), I, J) (fun r μ' => r = none ∧ ∃ ad' : Nat → Nat, (∀ k, k < 13 → ad' k = ad k) ∧ gNew (20) (gnr (gnr (gnr (gnr (gnr (gnr (gnr rf 12 0 13) 12 1 14) 12 2 15) 12 3 16) 12 4 17) 12 5 18) 12 7 19) I J ∧ μ' = ((20, gSh, (gnr (gnr (gnr (gnr (gnr (gnr (gnr rf 12 0 13) 12 1 14) 12 2 15) 12 3 16) 12 4 17) 12 5 18) 12 7 19), ad'), I, J)) := by
  refine gK_of gk_X0_init.1 (Nat.le_of_ble_eq_true rfl) ?_
  show gG l Γ gm_X0_init (d, 7, 7800, 0, 0) 0 [(0, .ref (ad 12))] [] _ _
  refine gg_aload_n dX0_init_0 0 rfl ?_
  refine gg_obj rfl go_RX0 dX0_init_1 (by show 1 ≤ d; omega) ?_
  refine gg_aload_n dX0_init_4 0 rfl ?_
  refine gg_sipush dX0_init_5 (by decide) ?_
  refine gg_nI (n' := 14) (u' := 1) (v' := 1200) (len := 1200) rfl rfl ⟨rfl, rfl, rfl⟩ dX0_init_8 hg ⟨by omega, by decide, by decide, by decide⟩ (fun ad1 h1 g1 => ?_)
  rw [← h1 12 (by omega)]
  refine gg_pR (k := 12) (w := 13) rfl gf_RX0_11 dX0_init_10 rfl ⟨by omega, by omega, by decide, by decide⟩ (by decide) rfl rfl rfl g1 (fun g2 => ?_)
  refine gg_aload_n dX0_init_13 0 rfl ?_
  refine gg_sipush dX0_init_14 (by decide) ?_
  refine gg_nJ (n' := 15) (u' := 2) (v' := 2400) (len := 1200) rfl rfl ⟨rfl, rfl, rfl⟩ dX0_init_17 g2 ⟨by omega, by decide, by decide, by decide⟩ (fun ad3 h3 g3 => ?_)
  rw [← h3 12 (by omega)]
  refine gg_pR (k := 12) (w := 14) rfl gf_RX0_15 dX0_init_19 rfl ⟨by omega, by omega, by decide, by decide⟩ (by decide) rfl rfl rfl g3 (fun g4 => ?_)
  refine gg_aload_n dX0_init_22 0 rfl ?_
  refine gg_sipush dX0_init_23 (by decide) ?_
  refine gg_nI (n' := 16) (u' := 3) (v' := 3600) (len := 1200) rfl rfl ⟨rfl, rfl, rfl⟩ dX0_init_26 g4 ⟨by omega, by decide, by decide, by decide⟩ (fun ad5 h5 g5 => ?_)
  rw [← h5 12 (by omega)]
  refine gg_pR (k := 12) (w := 15) rfl gf_RX0_19 dX0_init_28 rfl ⟨by omega, by omega, by decide, by decide⟩ (by decide) rfl rfl rfl g5 (fun g6 => ?_)
  refine gg_aload_n dX0_init_31 0 rfl ?_
  refine gg_sipush dX0_init_32 (by decide) ?_
  refine gg_nI (n' := 17) (u' := 4) (v' := 4800) (len := 1200) rfl rfl ⟨rfl, rfl, rfl⟩ dX0_init_35 g6 ⟨by omega, by decide, by decide, by decide⟩ (fun ad7 h7 g7 => ?_)
  rw [← h7 12 (by omega)]
  refine gg_pR (k := 12) (w := 16) rfl gf_RX0_22 dX0_init_37 rfl ⟨by omega, by omega, by decide, by decide⟩ (by decide) rfl rfl rfl g7 (fun g8 => ?_)
  refine gg_aload_n dX0_init_40 0 rfl ?_
  refine gg_sipush dX0_init_41 (by decide) ?_
  refine gg_nI (n' := 18) (u' := 5) (v' := 6000) (len := 1200) rfl rfl ⟨rfl, rfl, rfl⟩ dX0_init_44 g8 ⟨by omega, by decide, by decide, by decide⟩ (fun ad9 h9 g9 => ?_)
  rw [← h9 12 (by omega)]
  refine gg_pR (k := 12) (w := 17) rfl gf_RX0_25 dX0_init_46 rfl ⟨by omega, by omega, by decide, by decide⟩ (by decide) rfl rfl rfl g9 (fun g10 => ?_)
  refine gg_aload_n dX0_init_49 0 rfl ?_
  refine gg_sipush dX0_init_50 (by decide) ?_
  refine gg_nI (n' := 19) (u' := 6) (v' := 7200) (len := 1200) rfl rfl ⟨rfl, rfl, rfl⟩ dX0_init_53 g10 ⟨by omega, by decide, by decide, by decide⟩ (fun ad11 h11 g11 => ?_)
  rw [← h11 12 (by omega)]
  refine gg_pR (k := 12) (w := 18) rfl gf_RX0_28 dX0_init_55 rfl ⟨by omega, by omega, by decide, by decide⟩ (by decide) rfl rfl rfl g11 (fun g12 => ?_)
  refine gg_aload_n dX0_init_58 0 rfl ?_
  refine gg_sipush dX0_init_59 (by decide) ?_
  refine gg_nI (n' := 20) (u' := 7) (v' := 7800) (len := 600) rfl rfl ⟨rfl, rfl, rfl⟩ dX0_init_62 g12 ⟨by omega, by decide, by decide, by decide⟩ (fun ad13 h13 g13 => ?_)
  rw [← h13 12 (by omega)]
  refine gg_pR (k := 12) (w := 19) rfl gf_RX0_31 dX0_init_64 rfl ⟨by omega, by omega, by decide, by decide⟩ (by decide) rfl rfl rfl g13 (fun g14 => ?_)
  refine gg_vret dX0_init_67 rfl ⟨rfl, rfl⟩ ?_
  exact ⟨rfl, ad13, fun k hk => (h13 k (by omega)).trans ((h11 k (by omega)).trans ((h9 k (by omega)).trans ((h7 k (by omega)).trans ((h5 k (by omega)).trans ((h3 k (by omega)).trans (h1 k (by omega))))))), g14, rfl⟩
set_option maxRecDepth 10000 in
theorem c_X5_init {l : Launch} {Γ : gC} {d : Nat} {rf : Nat → Nat → Option Nat} {ad : Nat → Nat} {I : Nat → Nat → Int} {J : Nat → Nat → Int64} (hg : gNew 21 rf I J) (hd : 1 ≤ d) : gK l Γ gm_X5_init d 1 120 [.ref (ad 20), .ref (ad 12)] ((21, gSh, rf, ad), I, J) (fun r μ' => r = none ∧ ∃ ad' : Nat → Nat, (∀ k, k < 21 → ad' k = ad k) ∧ gNew (22) (gnr (gnr rf 20 1 21) 20 0 12) I J ∧ μ' = ((22, gSh, (gnr (gnr rf 20 1 21) 20 0 12), ad'), I, J)) := by
  refine gK_of gk_X5_init.1 (Nat.le_of_ble_eq_true rfl) ?_
  show gG l Γ gm_X5_init (d, 1, 120, 0, 0) 0 [(0, .ref (ad 20)), (1, .ref (ad 12))] [] _ _
  refine gg_aload_n dX5_init_0 0 rfl ?_
  refine gg_obj rfl go_RX5 dX5_init_1 (by show 1 ≤ d; omega) ?_
  refine gg_aload_n dX5_init_4 0 rfl ?_
  refine gg_bipush dX5_init_5 (by decide) ?_
  refine gg_nI (n' := 22) (u' := 1) (v' := 120) (len := 120) rfl rfl ⟨rfl, rfl, rfl⟩ dX5_init_7 hg ⟨by omega, by decide, by decide, by decide⟩ (fun ad1 h1 g1 => ?_)
  rw [← h1 20 (by omega)]
  rw [← h1 12 (by omega)]
  refine gg_pR (k := 20) (w := 21) rfl gf_RX5_9 dX5_init_9 rfl ⟨by omega, by omega, by decide, by decide⟩ (by decide) rfl rfl rfl g1 (fun g2 => ?_)
  refine gg_aload_n dX5_init_12 0 rfl ?_
  refine gg_aload_n dX5_init_13 1 rfl ?_
  refine gg_pR (k := 20) (w := 12) rfl gf_RX5_15 dX5_init_14 rfl ⟨by omega, by omega, by decide, by decide⟩ (by decide) rfl rfl rfl g2 (fun g3 => ?_)
  refine gg_vret dX5_init_17 rfl ⟨rfl, rfl⟩ ?_
  exact ⟨rfl, ad1, fun k hk => h1 k (by omega), g3, rfl⟩
set_option maxRecDepth 10000 in
theorem c_X7_init {l : Launch} {Γ : gC} {d : Nat} {rf : Nat → Nat → Option Nat} {ad : Nat → Nat} {I : Nat → Nat → Int} {J : Nat → Nat → Int64} (hg : gNew 23 rf I J) (hd : 1 ≤ d) : gK l Γ gm_X7_init d 2 400 [.ref (ad 22), .ref (ad 12)] ((23, gSh, rf, ad), I, J) (fun r μ' => r = none ∧ ∃ ad' : Nat → Nat, (∀ k, k < 23 → ad' k = ad k) ∧ gNew (25) (gnr (gnr (gnr rf 22 1 23) 22 2 24) 22 0 12) I J ∧ μ' = ((25, gSh, (gnr (gnr (gnr rf 22 1 23) 22 2 24) 22 0 12), ad'), I, J)) := by
  refine gK_of gk_X7_init.1 (Nat.le_of_ble_eq_true rfl) ?_
  show gG l Γ gm_X7_init (d, 2, 400, 0, 0) 0 [(0, .ref (ad 22)), (1, .ref (ad 12))] [] _ _
  refine gg_aload_n dX7_init_0 0 rfl ?_
  refine gg_obj rfl go_RX7 dX7_init_1 (by show 1 ≤ d; omega) ?_
  refine gg_aload_n dX7_init_4 0 rfl ?_
  refine gg_sipush dX7_init_5 (by decide) ?_
  refine gg_nI (n' := 24) (u' := 1) (v' := 200) (len := 200) rfl rfl ⟨rfl, rfl, rfl⟩ dX7_init_8 hg ⟨by omega, by decide, by decide, by decide⟩ (fun ad1 h1 g1 => ?_)
  rw [← h1 22 (by omega)]
  rw [← h1 12 (by omega)]
  refine gg_pR (k := 22) (w := 23) rfl gf_RX7_9 dX7_init_10 rfl ⟨by omega, by omega, by decide, by decide⟩ (by decide) rfl rfl rfl g1 (fun g2 => ?_)
  refine gg_aload_n dX7_init_13 0 rfl ?_
  refine gg_sipush dX7_init_14 (by decide) ?_
  refine gg_nI (n' := 25) (u' := 2) (v' := 400) (len := 200) rfl rfl ⟨rfl, rfl, rfl⟩ dX7_init_17 g2 ⟨by omega, by decide, by decide, by decide⟩ (fun ad3 h3 g3 => ?_)
  rw [← h3 22 (by omega)]
  rw [← h3 12 (by omega)]
  refine gg_pR (k := 22) (w := 24) rfl gf_RX7_15 dX7_init_19 rfl ⟨by omega, by omega, by decide, by decide⟩ (by decide) rfl rfl rfl g3 (fun g4 => ?_)
  refine gg_aload_n dX7_init_22 0 rfl ?_
  refine gg_aload_n dX7_init_23 1 rfl ?_
  refine gg_pR (k := 22) (w := 12) rfl gf_RX7_18 dX7_init_24 rfl ⟨by omega, by omega, by decide, by decide⟩ (by decide) rfl rfl rfl g4 (fun g5 => ?_)
  refine gg_vret dX7_init_27 rfl ⟨rfl, rfl⟩ ?_
  exact ⟨rfl, ad3, fun k hk => (h3 k (by omega)).trans (h1 k (by omega)), g5, rfl⟩
set_option maxRecDepth 10000 in
theorem c_X8_init {l : Launch} {Γ : gC} {d : Nat} {rf : Nat → Nat → Option Nat} {ad : Nat → Nat} {I : Nat → Nat → Int} {J : Nat → Nat → Int64} (hg : gNew 26 rf I J) (hd : 1 ≤ d) : gK l Γ gm_X8_init d 2 400 [.ref (ad 25)] ((26, gSh, rf, ad), I, J) (fun r μ' => r = none ∧ ∃ ad' : Nat → Nat, (∀ k, k < 26 → ad' k = ad k) ∧ gNew (28) (gnr (gnr rf 25 0 26) 25 1 27) I J ∧ μ' = ((28, gSh, (gnr (gnr rf 25 0 26) 25 1 27), ad'), I, J)) := by
  refine gK_of gk_X8_init.1 (Nat.le_of_ble_eq_true rfl) ?_
  show gG l Γ gm_X8_init (d, 2, 400, 0, 0) 0 [(0, .ref (ad 25))] [] _ _
  refine gg_aload_n dX8_init_0 0 rfl ?_
  refine gg_obj rfl go_RX8 dX8_init_1 (by show 1 ≤ d; omega) ?_
  refine gg_aload_n dX8_init_4 0 rfl ?_
  refine gg_sipush dX8_init_5 (by decide) ?_
  refine gg_nJ (n' := 27) (u' := 1) (v' := 200) (len := 200) rfl rfl ⟨rfl, rfl, rfl⟩ dX8_init_8 hg ⟨by omega, by decide, by decide, by decide⟩ (fun ad1 h1 g1 => ?_)
  rw [← h1 25 (by omega)]
  refine gg_pR (k := 25) (w := 26) rfl gf_RX8_9 dX8_init_10 rfl ⟨by omega, by omega, by decide, by decide⟩ (by decide) rfl rfl rfl g1 (fun g2 => ?_)
  refine gg_aload_n dX8_init_13 0 rfl ?_
  refine gg_sipush dX8_init_14 (by decide) ?_
  refine gg_nZ (n' := 28) (u' := 2) (v' := 400) (len := 200) rfl rfl ⟨rfl, rfl, rfl⟩ dX8_init_17 g2 ⟨by omega, by decide, by decide, by decide⟩ (fun ad3 h3 g3 => ?_)
  rw [← h3 25 (by omega)]
  refine gg_pR (k := 25) (w := 27) rfl gf_RX8_15 dX8_init_19 rfl ⟨by omega, by omega, by decide, by decide⟩ (by decide) rfl rfl rfl g3 (fun g4 => ?_)
  refine gg_vret dX8_init_22 rfl ⟨rfl, rfl⟩ ?_
  exact ⟨rfl, ad3, fun k hk => (h3 k (by omega)).trans (h1 k (by omega)), g4, rfl⟩
set_option maxRecDepth 10000 in
theorem c_X4_init {l : Launch} {Γ : gC} {d : Nat} {rf : Nat → Nat → Option Nat} {ad : Nat → Nat} {I : Nat → Nat → Int} {J : Nat → Nat → Int64} (hg : gNew 29 rf I J) (hd : 1 ≤ d) : gK l Γ gm_X4_init d 3 6420 [.ref (ad 28)] ((29, gSh, rf, ad), I, J) (fun r μ' => r = none ∧ ∃ ad' : Nat → Nat, (∀ k, k < 29 → ad' k = ad k) ∧ gNew (32) (gnr (gnr (gnr rf 28 0 29) 28 2 30) 28 4 31) I J ∧ μ' = ((32, gSh, (gnr (gnr (gnr rf 28 0 29) 28 2 30) 28 4 31), ad'), I, J)) := by
  refine gK_of gk_X4_init.1 (Nat.le_of_ble_eq_true rfl) ?_
  show gG l Γ gm_X4_init (d, 3, 6420, 0, 0) 0 [(0, .ref (ad 28))] [] _ _
  refine gg_aload_n dX4_init_0 0 rfl ?_
  refine gg_obj rfl go_RX4 dX4_init_1 (by show 1 ≤ d; omega) ?_
  refine gg_aload_n dX4_init_4 0 rfl ?_
  refine gg_sipush dX4_init_5 (by decide) ?_
  refine gg_nB (n' := 30) (u' := 1) (v' := 4800) (len := 4800) rfl rfl ⟨rfl, rfl, rfl⟩ dX4_init_8 hg ⟨by omega, by decide, by decide, by decide⟩ (fun ad1 h1 g1 => ?_)
  rw [← h1 28 (by omega)]
  refine gg_pR (k := 28) (w := 29) rfl gf_RX4_11 dX4_init_10 rfl ⟨by omega, by omega, by decide, by decide⟩ (by decide) rfl rfl rfl g1 (fun g2 => ?_)
  refine gg_aload_n dX4_init_13 0 rfl ?_
  refine gg_sipush dX4_init_14 (by decide) ?_
  refine gg_nI (n' := 31) (u' := 2) (v' := 6400) (len := 1600) rfl rfl ⟨rfl, rfl, rfl⟩ dX4_init_17 g2 ⟨by omega, by decide, by decide, by decide⟩ (fun ad3 h3 g3 => ?_)
  rw [← h3 28 (by omega)]
  refine gg_pR (k := 28) (w := 30) rfl gf_RX4_15 dX4_init_19 rfl ⟨by omega, by omega, by decide, by decide⟩ (by decide) rfl rfl rfl g3 (fun g4 => ?_)
  refine gg_aload_n dX4_init_22 0 rfl ?_
  refine gg_bipush dX4_init_23 (by decide) ?_
  refine gg_nI (n' := 32) (u' := 3) (v' := 6420) (len := 20) rfl rfl ⟨rfl, rfl, rfl⟩ dX4_init_25 g4 ⟨by omega, by decide, by decide, by decide⟩ (fun ad5 h5 g5 => ?_)
  rw [← h5 28 (by omega)]
  refine gg_pR (k := 28) (w := 31) rfl gf_RX4_19 dX4_init_27 rfl ⟨by omega, by omega, by decide, by decide⟩ (by decide) rfl rfl rfl g5 (fun g6 => ?_)
  refine gg_vret dX4_init_30 rfl ⟨rfl, rfl⟩ ?_
  exact ⟨rfl, ad5, fun k hk => (h5 k (by omega)).trans ((h3 k (by omega)).trans (h1 k (by omega))), g6, rfl⟩
set_option maxRecDepth 10000 in
theorem c_X3_init {l : Launch} {Γ : gC} {d : Nat} {rf : Nat → Nat → Option Nat} {ad : Nat → Nat} {I : Nat → Nat → Int} {J : Nat → Nat → Int64} (hg : gNew 33 rf I J) (hd : 1 ≤ d) : gK l Γ gm_X3_init d 5 1600 [.ref (ad 32)] ((33, gSh, rf, ad), I, J) (fun r μ' => r = none ∧ ∃ ad' : Nat → Nat, (∀ k, k < 33 → ad' k = ad k) ∧ gNew (38) (gnr (gnr (gnr (gnr (gnr rf 32 0 33) 32 1 34) 32 3 35) 32 4 36) 32 5 37) I J ∧ μ' = ((38, gSh, (gnr (gnr (gnr (gnr (gnr rf 32 0 33) 32 1 34) 32 3 35) 32 4 36) 32 5 37), ad'), I, J)) := by
  refine gK_of gk_X3_init.1 (Nat.le_of_ble_eq_true rfl) ?_
  show gG l Γ gm_X3_init (d, 5, 1600, 0, 0) 0 [(0, .ref (ad 32))] [] _ _
  refine gg_aload_n dX3_init_0 0 rfl ?_
  refine gg_obj rfl go_RX3 dX3_init_1 (by show 1 ≤ d; omega) ?_
  refine gg_aload_n dX3_init_4 0 rfl ?_
  refine gg_sipush dX3_init_5 (by decide) ?_
  refine gg_nI (n' := 34) (u' := 1) (v' := 400) (len := 400) rfl rfl ⟨rfl, rfl, rfl⟩ dX3_init_8 hg ⟨by omega, by decide, by decide, by decide⟩ (fun ad1 h1 g1 => ?_)
  rw [← h1 32 (by omega)]
  refine gg_pR (k := 32) (w := 33) rfl gf_RX3_11 dX3_init_10 rfl ⟨by omega, by omega, by decide, by decide⟩ (by decide) rfl rfl rfl g1 (fun g2 => ?_)
  refine gg_aload_n dX3_init_13 0 rfl ?_
  refine gg_sipush dX3_init_14 (by decide) ?_
  refine gg_nJ (n' := 35) (u' := 2) (v' := 800) (len := 400) rfl rfl ⟨rfl, rfl, rfl⟩ dX3_init_17 g2 ⟨by omega, by decide, by decide, by decide⟩ (fun ad3 h3 g3 => ?_)
  rw [← h3 32 (by omega)]
  refine gg_pR (k := 32) (w := 34) rfl gf_RX3_15 dX3_init_19 rfl ⟨by omega, by omega, by decide, by decide⟩ (by decide) rfl rfl rfl g3 (fun g4 => ?_)
  refine gg_aload_n dX3_init_22 0 rfl ?_
  refine gg_sipush dX3_init_23 (by decide) ?_
  refine gg_nI (n' := 36) (u' := 3) (v' := 1000) (len := 200) rfl rfl ⟨rfl, rfl, rfl⟩ dX3_init_26 g4 ⟨by omega, by decide, by decide, by decide⟩ (fun ad5 h5 g5 => ?_)
  rw [← h5 32 (by omega)]
  refine gg_pR (k := 32) (w := 35) rfl gf_RX3_19 dX3_init_28 rfl ⟨by omega, by omega, by decide, by decide⟩ (by decide) rfl rfl rfl g5 (fun g6 => ?_)
  refine gg_aload_n dX3_init_31 0 rfl ?_
  refine gg_sipush dX3_init_32 (by decide) ?_
  refine gg_nI (n' := 37) (u' := 4) (v' := 1200) (len := 200) rfl rfl ⟨rfl, rfl, rfl⟩ dX3_init_35 g6 ⟨by omega, by decide, by decide, by decide⟩ (fun ad7 h7 g7 => ?_)
  rw [← h7 32 (by omega)]
  refine gg_pR (k := 32) (w := 36) rfl gf_RX3_22 dX3_init_37 rfl ⟨by omega, by omega, by decide, by decide⟩ (by decide) rfl rfl rfl g7 (fun g8 => ?_)
  refine gg_aload_n dX3_init_40 0 rfl ?_
  refine gg_sipush dX3_init_41 (by decide) ?_
  refine gg_nJ (n' := 38) (u' := 5) (v' := 1600) (len := 400) rfl rfl ⟨rfl, rfl, rfl⟩ dX3_init_44 g8 ⟨by omega, by decide, by decide, by decide⟩ (fun ad9 h9 g9 => ?_)
  rw [← h9 32 (by omega)]
  refine gg_pR (k := 32) (w := 37) rfl gf_RX3_25 dX3_init_46 rfl ⟨by omega, by omega, by decide, by decide⟩ (by decide) rfl rfl rfl g9 (fun g10 => ?_)
  refine gg_vret dX3_init_49 rfl ⟨rfl, rfl⟩ ?_
  exact ⟨rfl, ad9, fun k hk => (h9 k (by omega)).trans ((h7 k (by omega)).trans ((h5 k (by omega)).trans ((h3 k (by omega)).trans (h1 k (by omega))))), g10, rfl⟩
set_option maxRecDepth 10000 in
theorem c_X2_init {l : Launch} {Γ : gC} {d : Nat} {rf : Nat → Nat → Option Nat} {ad : Nat → Nat} {I : Nat → Nat → Int} {J : Nat → Nat → Int64} (hg : gNew 39 rf I J) (hd : 1 ≤ d) : gK l Γ gm_X2_init d 2 400 [.ref (ad 38)] ((39, gSh, rf, ad), I, J) (fun r μ' => r = none ∧ ∃ ad' : Nat → Nat, (∀ k, k < 39 → ad' k = ad k) ∧ gNew (41) (gnr (gnr rf 38 0 39) 38 1 40) I J ∧ μ' = ((41, gSh, (gnr (gnr rf 38 0 39) 38 1 40), ad'), I, J)) := by
  refine gK_of gk_X2_init.1 (Nat.le_of_ble_eq_true rfl) ?_
  show gG l Γ gm_X2_init (d, 2, 400, 0, 0) 0 [(0, .ref (ad 38))] [] _ _
  refine gg_aload_n dX2_init_0 0 rfl ?_
  refine gg_obj rfl go_RX2 dX2_init_1 (by show 1 ≤ d; omega) ?_
  refine gg_aload_n dX2_init_4 0 rfl ?_
  refine gg_sipush dX2_init_5 (by decide) ?_
  refine gg_nI (n' := 40) (u' := 1) (v' := 200) (len := 200) rfl rfl ⟨rfl, rfl, rfl⟩ dX2_init_8 hg ⟨by omega, by decide, by decide, by decide⟩ (fun ad1 h1 g1 => ?_)
  rw [← h1 38 (by omega)]
  refine gg_pR (k := 38) (w := 39) rfl gf_RX2_9 dX2_init_10 rfl ⟨by omega, by omega, by decide, by decide⟩ (by decide) rfl rfl rfl g1 (fun g2 => ?_)
  refine gg_aload_n dX2_init_13 0 rfl ?_
  refine gg_sipush dX2_init_14 (by decide) ?_
  refine gg_nZ (n' := 41) (u' := 2) (v' := 400) (len := 200) rfl rfl ⟨rfl, rfl, rfl⟩ dX2_init_17 g2 ⟨by omega, by decide, by decide, by decide⟩ (fun ad3 h3 g3 => ?_)
  rw [← h3 38 (by omega)]
  refine gg_pR (k := 38) (w := 40) rfl gf_RX2_15 dX2_init_19 rfl ⟨by omega, by omega, by decide, by decide⟩ (by decide) rfl rfl rfl g3 (fun g4 => ?_)
  refine gg_vret dX2_init_22 rfl ⟨rfl, rfl⟩ ?_
  exact ⟨rfl, ad3, fun k hk => (h3 k (by omega)).trans (h1 k (by omega)), g4, rfl⟩
