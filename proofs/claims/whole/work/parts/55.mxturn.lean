/-! the reference's turn -/
def gTresM (I : Nat → Nat → Int) (J : Nat → Nat → Int64) (f n : Nat) (K : Nat → Nat) (N : Nat → Int64) (Z : Nat → Nat) (st : Prop) (T : gLn) (e : Int) : Prop := (st ∧ e = -3 ∧ gMt I J f n K N Z) ∨ (¬ st ∧ 200 < T.length ∧ e = -4 ∧ gMt I J f n K N Z) ∨ (¬ st ∧ T.length ≤ 200 ∧ e = (T.length : Int) ∧ gMt I J f T.length (gRk T) (gRn T) (gZl T))
set_option maxRecDepth 10000 in
theorem c_X10_handOver_0 {l : Launch} {Γ : gC} {ad : Nat → Nat} {I : Nat → Nat → Int} {J : Nat → Nat → Int64} {d : Nat} {f : Nat} (K : Nat → Nat) (N : Nat → Int64) (Z : Nat → Nat) (hf : f < 12) (hmd : gMd I J []) : gKi l Γ gm_X10_handOver d [.ref (gad (gSS ad) 145), .int (iv (f : Int))] (gSS ad, I, J) (fun e μ => ∃ I1, μ = (gSS ad, I1, J) ∧ gMt I1 J f 0 K N Z ∧ (∀ p, p ≠ 146 → I1 p = I p) ∧ (∀ q, q ≠ f → I1 146 q = I 146 q) ∧ e = 0) := by
  refine gKi_of gk_X10_handOver.1 (Nat.le_of_ble_eq_true rfl) ?_
  show gG l Γ gm_X10_handOver (d, 0, 0, 0, 0) 0 [(0, .ref (gad (gSS ad) 145)), (1, .int (iv (f : Int)))] [] _ _
  refine gg_aload_n dX10_handOver_0 0 rfl ?_
  refine gg_getR (k' := 146) rfl gf_RX10_9 dX10_handOver_1 sh_145 pl_145 (by decide) (by decide) rr_145_0 ?_
  refine gg_iload_n dX10_handOver_4 1 rfl ?_
  refine gg_aload_n dX10_handOver_5 0 rfl ?_
  refine gg_getI rfl gf_RX10_90 dX10_handOver_6 sh_145 pl_145 (by decide) (by decide) ?_
  refine gg_toI (b := 0) hmd.1 ?_
  refine gg_iastj f dX10_handOver_9 sh_146 pl_146 (by decide) rfl hf ?_
  refine gg_iconst dX10_handOver_10 ?_
  refine gg_istore_n (ls' := [(2, .int (iv 0)), (0, .ref (gad (gSS ad) 145)), (1, .int (iv (f : Int)))]) dX10_handOver_11 rfl (by decide) rfl ?_
  refine gg_iload_n dX10_handOver_12 0 rfl ?_
  refine gg_aload_n dX10_handOver_13 1 rfl ?_
  refine gg_getI rfl gf_RX10_90 dX10_handOver_14 sh_145 pl_145 (by decide) (by decide) ?_
  refine gg_toI (b := 0) ((gu_n (by omega)).trans hmd.1) ?_
  refine gg_icmp_ge_t (tgt := 67) dX10_handOver_17 (by decide) (by decide) (by decide) ?_
  refine gg_aload_n dX10_handOver_67 1 rfl ?_
  refine gg_getI rfl gf_RX10_90 dX10_handOver_68 sh_145 pl_145 (by decide) (by decide) ?_
  refine gg_toI (b := 0) ((gu_n (by omega)).trans hmd.1) ?_
  refine gg_ireti dX10_handOver_71 rfl ⟨rfl, rfl⟩ ?_
  exact ⟨_, rfl, ⟨gu_s, fun j hj => absurd hj (Nat.not_lt_zero _)⟩, fun p h => gu_other h, fun q h => gu_n (by omega), rfl⟩

set_option maxRecDepth 10000 in
theorem c_X10_turn_0 {l : Launch} {Γ : gC} {ad : Nat → Nat} {I : Nat → Nat → Int} {J : Nat → Nat → Int64} {d : Nat} {f n : Nat} {K : Nat → Nat} {N : Nat → Int64} {Z : Nat → Nat} (hf : f < 12) (hM : gMt I J f n K N Z) (hW : gWf n K N Z) {b : Int} (hb : -2147483648 ≤ b ∧ b ≤ 2147483647) (hd : 4 ≤ d) : gKi l Γ gm_X10_turn d [.ref (gad (gSS ad) 145), .int (iv (f : Int)), .int (iv 0), .int (iv b)] (gSS ad, I, J) (fun e μ => ∃ I', μ = (gSS ad, I', J) ∧ (∀ p, p ≠ 145 → p ≠ 146 → I' p = I p) ∧ (∀ q, q ≠ 5 → q ≠ 6 → I' 145 q = I 145 q) ∧ (∀ q, q ≠ f → I' 146 q = I 146 q) ∧ gMt I' J f 0 K N Z ∧ e = 0) := by
  refine gKi_of gk_X10_turn.1 (Nat.le_of_ble_eq_true rfl) ?_
  show gG l Γ gm_X10_turn (d, 0, 0, 0, 0) 0 [(0, .ref (gad (gSS ad) 145)), (1, .int (iv (f : Int))), (2, .int (iv 0)), (3, .int (iv b))] [] _ _
  refine gg_iload_n dX10_turn_0 2 rfl ?_
  refine gg_bipush dX10_turn_1 (by decide) ?_
  refine gg_bipush dX10_turn_3 (by decide) ?_
  refine gg_callSi (own := RX10) (yt := gm_X10_in) rfl gl_RX10_84 gk_X10_in gr_X10_in dX10_turn_5 (c_X10_in (d := d - 1) (by omega)) rfl rfl (Nat.le_of_ble_eq_true rfl) (by show _ ≤ d; omega) ⟨Nat.le_refl _, Nat.le_refl _⟩ (fun e1 μ' hc => ?_)
  obtain ⟨rfl, ⟨rfl, hb2⟩ | ⟨rfl, hb2⟩⟩ := hc
  · omega
  refine gg_if_ne_f (tgt := 17) dX10_turn_8 (by decide) (by decide) (by decide) ?_
  refine gg_iload_n dX10_turn_11 2 rfl ?_
  refine gg_bipush dX10_turn_12 (by decide) ?_
  refine gg_icmp_ne_t (tgt := 21) dX10_turn_14 (by decide) (by decide) (by decide) ?_
  refine gg_iconst dX10_turn_21 ?_
  refine gg_istore (ls' := [(4, .int (iv 0)), (0, .ref (gad (gSS ad) 145)), (1, .int (iv (f : Int))), (2, .int (iv 0)), (3, .int (iv b))]) dX10_turn_22 (by decide) rfl ?_
  refine gg_iload_n dX10_turn_24 2 rfl ?_
  refine gg_callSi (own := RX10) (yt := gm_X10_isFormula) rfl gl_RX10_181 gk_X10_isFormula gr_X10_isFormula dX10_turn_25 (c_X10_isFormula (d := d - 1) (by omega) (by omega)) rfl rfl (Nat.le_of_ble_eq_true rfl) (by show _ ≤ d; omega) ⟨Nat.le_refl _, Nat.le_refl _⟩ (fun e3 μ' hc => ?_)
  obtain ⟨rfl, ⟨rfl, hb4⟩ | ⟨rfl, hb4⟩⟩ := hc
  rotate_left
  · omega
  refine gg_if_eq_f (tgt := 68) dX10_turn_28 (by decide) (by decide) (by decide) ?_
  refine gg_iload_n dX10_turn_31 3 rfl ?_
  refine gg_iconst dX10_turn_32 ?_
  refine gg_iconst dX10_turn_33 ?_
  refine gg_callSi (own := RX10) (yt := gm_X10_in) rfl gl_RX10_84 gk_X10_in gr_X10_in dX10_turn_34 (c_X10_in (d := d - 1) (by omega)) rfl rfl (Nat.le_of_ble_eq_true rfl) (by show _ ≤ d; omega) ⟨Nat.le_refl _, Nat.le_refl _⟩ (fun e5 μ' hc => ?_)
  obtain ⟨rfl, ⟨rfl, hb6⟩ | ⟨rfl, hb6⟩⟩ := hc
  rotate_left
  · omega
  refine gg_if_ne_t (tgt := 56) dX10_turn_37 (by decide) (by decide) (by decide) ?_
  refine gg_iload dX10_turn_56 0 rfl ?_
  refine gg_if_eq_t (tgt := 71) dX10_turn_58 (by decide) (by decide) (by decide) ?_
  refine gg_iload_n dX10_turn_71 3 rfl ?_
  refine gg_if_eq_t (tgt := 90) dX10_turn_72 (by decide) (by decide) (by decide) ?_
  refine gg_iload dX10_turn_90 0 rfl ?_
  refine gg_if_eq_t (tgt := 107) dX10_turn_92 (by decide) (by decide) (by decide) ?_
  refine gg_aload_n dX10_turn_107 1 rfl ?_
  refine gg_callVv (own := RX10) (yt := gm_X10_begin) rfl gl_RX10_184 gk_X10_begin gr_X10_begin dX10_turn_108 (c_X10_begin (d := d - 1)) sh_145 pl_145 (by decide) rfl rfl rfl (Nat.le_of_ble_eq_true rfl) (by show _ ≤ d; omega) ⟨Nat.le_refl _, Nat.le_refl _⟩ (fun μ' hc => ?_)
  obtain ⟨I1, rfl, hm1, b1, b2⟩ := hc
  have hM1 : gMt I1 J f n K N Z := gMt_d hf hM (fun p a _ => b1 p a) (fun _ _ => rfl)
  refine gg_iload_n dX10_turn_111 3 rfl ?_
  refine gg_iconst dX10_turn_112 ?_
  refine gg_icmp_ne_t (tgt := 122) dX10_turn_113 (by decide) (by decide) (by decide) ?_
  refine gg_iload_n dX10_turn_122 3 rfl ?_
  refine gg_bipush dX10_turn_123 (by decide) ?_
  refine gg_bipush dX10_turn_125 (by decide) ?_
  refine gg_callSi (own := RX10) (yt := gm_X10_in) rfl gl_RX10_84 gk_X10_in gr_X10_in dX10_turn_127 (c_X10_in (d := d - 1) (by omega)) rfl rfl (Nat.le_of_ble_eq_true rfl) (by show _ ≤ d; omega) ⟨Nat.le_refl _, Nat.le_refl _⟩ (fun e8 μ' hc => ?_)
  obtain ⟨rfl, ⟨rfl, hb9⟩ | ⟨rfl, hb9⟩⟩ := hc
  · omega
  refine gg_if_eq_t (tgt := 143) dX10_turn_130 (by decide) (by decide) (by decide) ?_
  refine gg_iload_n dX10_turn_143 3 rfl ?_
  refine gg_bipush dX10_turn_144 (by decide) ?_
  refine gg_bipush dX10_turn_146 (by decide) ?_
  refine gg_callSi (own := RX10) (yt := gm_X10_in) rfl gl_RX10_84 gk_X10_in gr_X10_in dX10_turn_148 (c_X10_in (d := d - 1) (by omega)) rfl rfl (Nat.le_of_ble_eq_true rfl) (by show _ ≤ d; omega) ⟨Nat.le_refl _, Nat.le_refl _⟩ (fun e10 μ' hc => ?_)
  obtain ⟨rfl, ⟨rfl, hb11⟩ | ⟨rfl, hb11⟩⟩ := hc
  · omega
  refine gg_if_eq_t (tgt := 164) dX10_turn_151 (by decide) (by decide) (by decide) ?_
  refine gg_iload_n dX10_turn_164 3 rfl ?_
  refine gg_bipush dX10_turn_165 (by decide) ?_
  refine gg_icmp_ne_t (tgt := 176) dX10_turn_167 (by decide) (by decide) (by decide) ?_
  refine gg_aload_n dX10_turn_176 1 rfl ?_
  refine gg_getI rfl gf_RX10_94 dX10_turn_177 sh_145 pl_145 (by decide) (by decide) ?_
  refine gg_toI (b := 0) hm1.2.2.1 ?_
  refine gg_if_eq_t (tgt := 188) dX10_turn_180 (by decide) (by decide) (by decide) ?_
  refine gg_aload_n dX10_turn_188 1 rfl ?_
  refine gg_iload_n dX10_turn_189 2 rfl ?_
  refine gg_callVi (own := RX10) (yt := gm_X10_handOver) rfl gl_RX10_186 gk_X10_handOver gr_X10_handOver dX10_turn_190 (c_X10_handOver_0 (d := d - 1) K N Z hf hm1) sh_145 pl_145 (by decide) rfl rfl rfl (Nat.le_of_ble_eq_true rfl) (by show _ ≤ d; omega) ⟨Nat.le_refl _, Nat.le_refl _⟩ (fun e12 μ' hc => ?_)
  obtain ⟨I3, rfl, hM3, g2, g3, rfl⟩ := hc
  refine gg_ireti dX10_turn_193 rfl ⟨rfl, rfl⟩ ?_
  exact ⟨I3, rfl, fun p a b => (g2 p b).trans (b1 p a), fun q a b => by rw [g2 145 (by omega)]; exact b2 q a b, fun q a => (g3 q a).trans (by rw [b1 146 (by omega)]), hM3, rfl⟩

set_option maxRecDepth 10000 in
theorem c_X10_turn_30 {l : Launch} {Γ : gC} {ad : Nat → Nat} {I : Nat → Nat → Int} {J : Nat → Nat → Int64} {d : Nat} {f n : Nat} {K : Nat → Nat} {N : Nat → Int64} {Z : Nat → Nat} (hf : f < 12) (hM : gMt I J f n K N Z) (hW : gWf n K N Z) {b n' : Nat} {K' : Nat → Nat} {N' : Nat → Int64} {Z' : Nat → Nat} (hb : b < 12) (hM' : gMt I J b n' K' N' Z') (hW' : gWf n' K' N' Z') (hd : 4 ≤ d) : gKi l Γ gm_X10_turn d [.ref (gad (gSS ad) 145), .int (iv (f : Int)), .int (iv 30), .int (iv (b : Int))] (gSS ad, I, J) (fun e μ => ∃ I' J', μ = (gSS ad, I', J') ∧ (∀ p, p ≠ 145 → p ≠ 187 → p ≠ 146 → p ≠ 148 + f → p ≠ 174 + f → I' p = I p) ∧ (∀ q, q ≠ 5 → q ≠ 6 → I' 145 q = I 145 q) ∧ (∀ q, q ≠ f → I' 146 q = I 146 q) ∧ (∀ p, p ≠ 188 → p ≠ 161 + f → J' p = J p) ∧ gTresM I' J' f n K N Z (n' = 0) (gSl K' N' 0 n') e) := by
  refine gKi_of gk_X10_turn.1 (Nat.le_of_ble_eq_true rfl) ?_
  show gG l Γ gm_X10_turn (d, 0, 0, 0, 0) 0 [(0, .ref (gad (gSS ad) 145)), (1, .int (iv (f : Int))), (2, .int (iv 30)), (3, .int (iv (b : Int)))] [] _ _
  refine gg_iload_n dX10_turn_0 2 rfl ?_
  refine gg_bipush dX10_turn_1 (by decide) ?_
  refine gg_bipush dX10_turn_3 (by decide) ?_
  refine gg_callSi (own := RX10) (yt := gm_X10_in) rfl gl_RX10_84 gk_X10_in gr_X10_in dX10_turn_5 (c_X10_in (d := d - 1) (by omega)) rfl rfl (Nat.le_of_ble_eq_true rfl) (by show _ ≤ d; omega) ⟨Nat.le_refl _, Nat.le_refl _⟩ (fun e1 μ' hc => ?_)
  obtain ⟨rfl, ⟨rfl, hb2⟩ | ⟨rfl, hb2⟩⟩ := hc
  · omega
  refine gg_if_ne_f (tgt := 17) dX10_turn_8 (by decide) (by decide) (by decide) ?_
  refine gg_iload_n dX10_turn_11 2 rfl ?_
  refine gg_bipush dX10_turn_12 (by decide) ?_
  refine gg_icmp_ne_f (tgt := 21) dX10_turn_14 (by decide) (by decide) (by decide) ?_
  refine gg_iconst dX10_turn_17 ?_
  refine gg_goto (tgt := 22) dX10_turn_18 (by decide) ?_
  refine gg_istore (ls' := [(4, .int (iv 1)), (0, .ref (gad (gSS ad) 145)), (1, .int (iv (f : Int))), (2, .int (iv 30)), (3, .int (iv (b : Int)))]) dX10_turn_22 (by decide) rfl ?_
  refine gg_iload_n dX10_turn_24 2 rfl ?_
  refine gg_callSi (own := RX10) (yt := gm_X10_isFormula) rfl gl_RX10_181 gk_X10_isFormula gr_X10_isFormula dX10_turn_25 (c_X10_isFormula (d := d - 1) (by omega) (by omega)) rfl rfl (Nat.le_of_ble_eq_true rfl) (by show _ ≤ d; omega) ⟨Nat.le_refl _, Nat.le_refl _⟩ (fun e3 μ' hc => ?_)
  obtain ⟨rfl, ⟨rfl, hb4⟩ | ⟨rfl, hb4⟩⟩ := hc
  rotate_left
  · omega
  refine gg_if_eq_f (tgt := 68) dX10_turn_28 (by decide) (by decide) (by decide) ?_
  refine gg_iload_n dX10_turn_31 3 rfl ?_
  refine gg_iconst dX10_turn_32 ?_
  refine gg_iconst dX10_turn_33 ?_
  refine gg_callSi (own := RX10) (yt := gm_X10_in) rfl gl_RX10_84 gk_X10_in gr_X10_in dX10_turn_34 (c_X10_in (d := d - 1) (by omega)) rfl rfl (Nat.le_of_ble_eq_true rfl) (by show _ ≤ d; omega) ⟨Nat.le_refl _, Nat.le_refl _⟩ (fun e5 μ' hc => ?_)
  obtain ⟨rfl, ⟨rfl, hb6⟩ | ⟨rfl, hb6⟩⟩ := hc
  · omega
  refine gg_if_ne_f (tgt := 56) dX10_turn_37 (by decide) (by decide) (by decide) ?_
  refine gg_iload_n dX10_turn_40 3 rfl ?_
  refine gg_bipush dX10_turn_41 (by decide) ?_
  refine gg_bipush dX10_turn_43 (by decide) ?_
  refine gg_callSi (own := RX10) (yt := gm_X10_in) rfl gl_RX10_84 gk_X10_in gr_X10_in dX10_turn_45 (c_X10_in (d := d - 1) (by omega)) rfl rfl (Nat.le_of_ble_eq_true rfl) (by show _ ≤ d; omega) ⟨Nat.le_refl _, Nat.le_refl _⟩ (fun e7 μ' hc => ?_)
  obtain ⟨rfl, ⟨rfl, hb8⟩ | ⟨rfl, hb8⟩⟩ := hc
  · omega
  refine gg_if_ne_f (tgt := 56) dX10_turn_48 (by decide) (by decide) (by decide) ?_
  refine gg_iload dX10_turn_51 0 rfl ?_
  refine gg_if_eq_f (tgt := 68) dX10_turn_53 (by decide) (by decide) (by decide) ?_
  refine gg_iload dX10_turn_56 0 rfl ?_
  refine gg_if_eq_f (tgt := 71) dX10_turn_58 (by decide) (by decide) (by decide) ?_
  refine gg_iload_n dX10_turn_61 4 rfl ?_
  refine gg_callSi (own := RX10) (yt := gm_X10_isFormula) rfl gl_RX10_181 gk_X10_isFormula gr_X10_isFormula dX10_turn_62 (c_X10_isFormula (d := d - 1) (by omega) (by omega)) rfl rfl (Nat.le_of_ble_eq_true rfl) (by show _ ≤ d; omega) ⟨Nat.le_refl _, Nat.le_refl _⟩ (fun e9 μ' hc => ?_)
  obtain ⟨rfl, ⟨rfl, hb10⟩ | ⟨rfl, hb10⟩⟩ := hc
  rotate_left
  · omega
  refine gg_if_ne_t (tgt := 71) dX10_turn_65 (by decide) (by decide) (by decide) ?_
  refine gg_iload_n dX10_turn_71 3 rfl ?_
  refine gg_if_eq_f (tgt := 90) dX10_turn_72 (by decide) (by decide) (by decide) ?_
  refine gg_iload_n dX10_turn_75 3 rfl ?_
  refine gg_bipush dX10_turn_76 (by decide) ?_
  refine gg_icmp_eq_t (tgt := 90) dX10_turn_78 (by decide) (by decide) (by decide) ?_
  refine gg_iload dX10_turn_90 0 rfl ?_
  refine gg_if_eq_f (tgt := 107) dX10_turn_92 (by decide) (by decide) (by decide) ?_
  refine gg_aload_n dX10_turn_95 1 rfl ?_
  refine gg_getR (k' := 146) rfl gf_RX10_9 dX10_turn_96 sh_145 pl_145 (by decide) (by decide) rr_145_0 ?_
  refine gg_iload_n dX10_turn_99 4 rfl ?_
  refine gg_ialdj b dX10_turn_100 sh_146 pl_146 (by decide) rfl hb ?_
  refine gg_toI (b := (n' : Int)) hM'.1 ?_
  refine gg_if_ne (tgt := 107) dX10_turn_101 (by decide) (by have := hW'.1; omega) (fun hb0 => ?_) (fun hb0 => ?_)
  · refine gg_aload_n dX10_turn_107 1 rfl ?_
    refine gg_callVv (own := RX10) (yt := gm_X10_begin) rfl gl_RX10_184 gk_X10_begin gr_X10_begin dX10_turn_108 (c_X10_begin (d := d - 1)) sh_145 pl_145 (by decide) rfl rfl rfl (Nat.le_of_ble_eq_true rfl) (by show _ ≤ d; omega) ⟨Nat.le_refl _, Nat.le_refl _⟩ (fun μ' hc => ?_)
    obtain ⟨I1, rfl, hm1, b1, b2⟩ := hc
    have hM1 : gMt I1 J f n K N Z := gMt_d hf hM (fun p a _ => b1 p a) (fun _ _ => rfl)
    refine gg_iload_n dX10_turn_111 3 rfl ?_
    refine gg_iconst dX10_turn_112 ?_
    refine gg_icmp_ne_t (tgt := 122) dX10_turn_113 (by decide) (by decide) (by decide) ?_
    refine gg_iload_n dX10_turn_122 3 rfl ?_
    refine gg_bipush dX10_turn_123 (by decide) ?_
    refine gg_bipush dX10_turn_125 (by decide) ?_
    refine gg_callSi (own := RX10) (yt := gm_X10_in) rfl gl_RX10_84 gk_X10_in gr_X10_in dX10_turn_127 (c_X10_in (d := d - 1) (by omega)) rfl rfl (Nat.le_of_ble_eq_true rfl) (by show _ ≤ d; omega) ⟨Nat.le_refl _, Nat.le_refl _⟩ (fun e12 μ' hc => ?_)
    obtain ⟨rfl, ⟨rfl, hb13⟩ | ⟨rfl, hb13⟩⟩ := hc
    · omega
    refine gg_if_eq_t (tgt := 143) dX10_turn_130 (by decide) (by decide) (by decide) ?_
    refine gg_iload_n dX10_turn_143 3 rfl ?_
    refine gg_bipush dX10_turn_144 (by decide) ?_
    refine gg_bipush dX10_turn_146 (by decide) ?_
    refine gg_callSi (own := RX10) (yt := gm_X10_in) rfl gl_RX10_84 gk_X10_in gr_X10_in dX10_turn_148 (c_X10_in (d := d - 1) (by omega)) rfl rfl (Nat.le_of_ble_eq_true rfl) (by show _ ≤ d; omega) ⟨Nat.le_refl _, Nat.le_refl _⟩ (fun e14 μ' hc => ?_)
    obtain ⟨rfl, ⟨rfl, hb15⟩ | ⟨rfl, hb15⟩⟩ := hc
    · omega
    refine gg_if_eq_t (tgt := 164) dX10_turn_151 (by decide) (by decide) (by decide) ?_
    refine gg_iload_n dX10_turn_164 3 rfl ?_
    refine gg_bipush dX10_turn_165 (by decide) ?_
    refine gg_icmp_ne_f (tgt := 176) dX10_turn_167 (by decide) (by decide) (by decide) ?_
    refine gg_aload_n dX10_turn_170 1 rfl ?_
    refine gg_iload_n dX10_turn_171 4 rfl ?_
    refine gg_iconst dX10_turn_172 ?_
    refine gg_callVv (own := RX10) (yt := gm_X10_again) rfl gl_RX10_230 gk_X10_again gr_X10_again dX10_turn_173 (c_X10_again (d := d - 1) hb (gMt_d hb hM' (fun p a _ => b1 p a) (fun _ _ => rfl)) hW' (s := 0) (B := []) (by omega) (Or.inl hm1) (by omega)) sh_145 pl_145 (by decide) rfl rfl rfl (Nat.le_of_ble_eq_true rfl) (by show _ ≤ d; omega) ⟨Nat.le_refl _, Nat.le_refl _⟩ (fun μ' hc => ?_)
    obtain ⟨I2, J2, rfl, hx2, fa2, fb2, fc2⟩ := hc
    rw [List.nil_append, hW'.2.1 (by omega)] at hx2
    have hz0 := hW'.2.1 (by omega)
    refine gg_aload_n dX10_turn_176 1 rfl ?_
    have hov : I2 145 6 = 0 ∧ (gSl K' N' 0 n').length ≤ 200 ∨ (200 < (gSl K' N' 0 n').length ∧ I2 145 6 = 1) := hx2.imp (fun h => ⟨h.2.2.1, h.2.1⟩) (fun h => ⟨h.1, h.2.1⟩)
    obtain ⟨ov, hove⟩ : ∃ ov : Int, I2 145 6 = ov := ⟨_, rfl⟩
    rw [hove] at hov
    refine gg_getI rfl gf_RX10_94 dX10_turn_177 sh_145 pl_145 (by decide) (by decide) ?_
    refine gg_toI (b := ov) hove ?_
    refine gg_if_eq (tgt := 188) dX10_turn_180 (by decide) (by omega) (fun hbo => ?_) (fun hbo => ?_)
    · have hmd2 := gMx_d hx2 (by omega)
      refine gg_aload_n dX10_turn_188 1 rfl ?_
      refine gg_iload_n dX10_turn_189 2 rfl ?_
      refine gg_callVi (own := RX10) (yt := gm_X10_handOver) rfl gl_RX10_186 gk_X10_handOver gr_X10_handOver dX10_turn_190 (c_X10_handOver (d := d - 1) (tl := gSl K' N' 0 n') hf hmd2 (by have := gSt1_fo hW' 0 (by omega); unfold gSt1 at this; rw [hz0] at this; exact this) (gSl_nv hW' n' 0 (by omega)) (by omega)) sh_145 pl_145 (by decide) rfl rfl rfl (Nat.le_of_ble_eq_true rfl) (by show _ ≤ d; omega) ⟨Nat.le_refl _, Nat.le_refl _⟩ (fun e17 μ' hc => ?_)
      obtain ⟨I3, J3, rfl, hM3, g2, g3, g4, rfl⟩ := hc
      refine gg_ireti dX10_turn_193 rfl ⟨rfl, rfl⟩ ?_
      exact ⟨I3, J3, rfl, fun p a b c e g => (g2 p c e g).trans ((fa2 p a b).trans (b1 p a)), fun q a b => by rw [g2 145 (by omega) (by omega) (by omega)]; exact (fb2 q a b).trans (b2 q a b), fun q a => (g3 q a).trans (by rw [fa2 146 (by omega) (by omega), b1 146 (by omega)]), fun p a b => (g4 p b).trans (fc2 p a), Or.inr (Or.inr ⟨by omega, hmd2.2.1, rfl, hM3⟩)⟩
    · have h200 : 200 < (gSl K' N' 0 n').length := by omega
      refine gg_bipush dX10_turn_183 (by decide) ?_
      refine gg_goto (tgt := 193) dX10_turn_185 (by decide) ?_
      refine gg_ireti dX10_turn_193 rfl ⟨rfl, rfl⟩ ?_
      exact ⟨I2, J2, rfl, fun p a b c e g => (fa2 p a b).trans (b1 p a), fun q a b => (fb2 q a b).trans (b2 q a b), fun q a => by rw [fa2 146 (by omega) (by omega), b1 146 (by omega)], fun p a b => fc2 p a, Or.inr (Or.inl ⟨by omega, h200, rfl, gMt_d hf hM1 fa2 fc2⟩)⟩
  · refine gg_bipush dX10_turn_104 (by decide) ?_
    refine gg_ireti dX10_turn_106 rfl ⟨rfl, rfl⟩ ?_
    exact ⟨I, J, rfl, fun _ _ _ _ _ _ => rfl, fun _ _ _ => rfl, fun _ _ => rfl, fun _ _ _ => rfl, Or.inl ⟨by omega, rfl, hM⟩⟩

set_option maxRecDepth 10000 in
theorem c_X10_turn_1 {l : Launch} {Γ : gC} {ad : Nat → Nat} {I : Nat → Nat → Int} {J : Nat → Nat → Int64} {d : Nat} {f n : Nat} {K : Nat → Nat} {N : Nat → Int64} {Z : Nat → Nat} (hf : f < 12) (hM : gMt I J f n K N Z) (hW : gWf n K N Z) {b : Int} (hb : -2147483648 ≤ b ∧ b ≤ 2147483647) (hd : n + 5 ≤ d) : gKi l Γ gm_X10_turn d [.ref (gad (gSS ad) 145), .int (iv (f : Int)), .int (iv 1), .int (iv b)] (gSS ad, I, J) (fun e μ => ∃ I' J', μ = (gSS ad, I', J') ∧ (∀ p, p ≠ 145 → p ≠ 187 → p ≠ 146 → p ≠ 148 + f → p ≠ 174 + f → I' p = I p) ∧ (∀ q, q ≠ 5 → q ≠ 6 → I' 145 q = I 145 q) ∧ (∀ q, q ≠ f → I' 146 q = I 146 q) ∧ (∀ p, p ≠ 188 → p ≠ 161 + f → J' p = J p) ∧ gTresM I' J' f n K N Z (n = 0) ((gFd n K N Z) 0) e) := by
  refine gKi_of gk_X10_turn.1 (Nat.le_of_ble_eq_true rfl) ?_
  show gG l Γ gm_X10_turn (d, 0, 0, 0, 0) 0 [(0, .ref (gad (gSS ad) 145)), (1, .int (iv (f : Int))), (2, .int (iv 1)), (3, .int (iv b))] [] _ _
  refine gg_iload_n dX10_turn_0 2 rfl ?_
  refine gg_bipush dX10_turn_1 (by decide) ?_
  refine gg_bipush dX10_turn_3 (by decide) ?_
  refine gg_callSi (own := RX10) (yt := gm_X10_in) rfl gl_RX10_84 gk_X10_in gr_X10_in dX10_turn_5 (c_X10_in (d := d - 1) (by omega)) rfl rfl (Nat.le_of_ble_eq_true rfl) (by show _ ≤ d; omega) ⟨Nat.le_refl _, Nat.le_refl _⟩ (fun e1 μ' hc => ?_)
  obtain ⟨rfl, ⟨rfl, hb2⟩ | ⟨rfl, hb2⟩⟩ := hc
  · omega
  refine gg_if_ne_f (tgt := 17) dX10_turn_8 (by decide) (by decide) (by decide) ?_
  refine gg_iload_n dX10_turn_11 2 rfl ?_
  refine gg_bipush dX10_turn_12 (by decide) ?_
  refine gg_icmp_ne_t (tgt := 21) dX10_turn_14 (by decide) (by decide) (by decide) ?_
  refine gg_iconst dX10_turn_21 ?_
  refine gg_istore (ls' := [(4, .int (iv 0)), (0, .ref (gad (gSS ad) 145)), (1, .int (iv (f : Int))), (2, .int (iv 1)), (3, .int (iv b))]) dX10_turn_22 (by decide) rfl ?_
  refine gg_iload_n dX10_turn_24 2 rfl ?_
  refine gg_callSi (own := RX10) (yt := gm_X10_isFormula) rfl gl_RX10_181 gk_X10_isFormula gr_X10_isFormula dX10_turn_25 (c_X10_isFormula (d := d - 1) (by omega) (by omega)) rfl rfl (Nat.le_of_ble_eq_true rfl) (by show _ ≤ d; omega) ⟨Nat.le_refl _, Nat.le_refl _⟩ (fun e3 μ' hc => ?_)
  obtain ⟨rfl, ⟨rfl, hb4⟩ | ⟨rfl, hb4⟩⟩ := hc
  rotate_left
  · omega
  refine gg_if_eq_f (tgt := 68) dX10_turn_28 (by decide) (by decide) (by decide) ?_
  refine gg_iload_n dX10_turn_31 3 rfl ?_
  refine gg_iconst dX10_turn_32 ?_
  refine gg_iconst dX10_turn_33 ?_
  refine gg_callSi (own := RX10) (yt := gm_X10_in) rfl gl_RX10_84 gk_X10_in gr_X10_in dX10_turn_34 (c_X10_in (d := d - 1) (by omega)) rfl rfl (Nat.le_of_ble_eq_true rfl) (by show _ ≤ d; omega) ⟨Nat.le_refl _, Nat.le_refl _⟩ (fun e5 μ' hc => ?_)
  obtain ⟨rfl, ⟨rfl, hb6⟩ | ⟨rfl, hb6⟩⟩ := hc
  rotate_left
  · omega
  refine gg_if_ne_t (tgt := 56) dX10_turn_37 (by decide) (by decide) (by decide) ?_
  refine gg_iload dX10_turn_56 0 rfl ?_
  refine gg_if_eq_t (tgt := 71) dX10_turn_58 (by decide) (by decide) (by decide) ?_
  refine gg_iload_n dX10_turn_71 3 rfl ?_
  refine gg_if_eq_f (tgt := 90) dX10_turn_72 (by decide) (by decide) (by decide) ?_
  refine gg_iload_n dX10_turn_75 3 rfl ?_
  refine gg_bipush dX10_turn_76 (by decide) ?_
  refine gg_icmp_eq_f (tgt := 90) dX10_turn_78 (by decide) (by decide) (by decide) ?_
  refine gg_aload_n dX10_turn_81 1 rfl ?_
  refine gg_getR (k' := 146) rfl gf_RX10_9 dX10_turn_82 sh_145 pl_145 (by decide) (by decide) rr_145_0 ?_
  refine gg_iload_n dX10_turn_85 2 rfl ?_
  refine gg_ialdj f dX10_turn_86 sh_146 pl_146 (by decide) rfl hf ?_
  refine gg_toI (b := (n : Int)) hM.1 ?_
  refine gg_if_eq (tgt := 104) dX10_turn_87 (by decide) (by have := hW.1; omega) (fun hn0 => ?_) (fun hn0 => ?_)
  · refine gg_bipush dX10_turn_104 (by decide) ?_
    refine gg_ireti dX10_turn_106 rfl ⟨rfl, rfl⟩ ?_
    exact ⟨I, J, rfl, fun _ _ _ _ _ _ => rfl, fun _ _ _ => rfl, fun _ _ => rfl, fun _ _ _ => rfl, Or.inl ⟨by omega, rfl, hM⟩⟩
  · refine gg_iload dX10_turn_90 0 rfl ?_
    refine gg_if_eq_t (tgt := 107) dX10_turn_92 (by decide) (by decide) (by decide) ?_
    refine gg_aload_n dX10_turn_107 1 rfl ?_
    refine gg_callVv (own := RX10) (yt := gm_X10_begin) rfl gl_RX10_184 gk_X10_begin gr_X10_begin dX10_turn_108 (c_X10_begin (d := d - 1)) sh_145 pl_145 (by decide) rfl rfl rfl (Nat.le_of_ble_eq_true rfl) (by show _ ≤ d; omega) ⟨Nat.le_refl _, Nat.le_refl _⟩ (fun μ' hc => ?_)
    obtain ⟨I1, rfl, hm1, b1, b2⟩ := hc
    have hM1 : gMt I1 J f n K N Z := gMt_d hf hM (fun p a _ => b1 p a) (fun _ _ => rfl)
    refine gg_iload_n dX10_turn_111 3 rfl ?_
    refine gg_iconst dX10_turn_112 ?_
    refine gg_icmp_ne_f (tgt := 122) dX10_turn_113 (by decide) (by decide) (by decide) ?_
    refine gg_aload_n dX10_turn_116 1 rfl ?_
    refine gg_iload_n dX10_turn_117 2 rfl ?_
    refine gg_iconst dX10_turn_118 ?_
    refine gg_callVv (own := RX10) (yt := gm_X10_fold) rfl gl_RX10_192 gk_X10_fold gr_X10_fold dX10_turn_119 (r_X10_fold hf hW n 0 (by omega) (by rw [hW.2.1 (by omega)]; exact Nat.le_refl _) (d - 1) (by omega) I1 J [] hM1 hm1 (by rw [hW.2.1 (by omega)]; simpa using hW.1) gNvs_nil) sh_145 pl_145 (by decide) rfl rfl rfl (Nat.le_of_ble_eq_true rfl) (by show _ ≤ d; omega) ⟨Nat.le_refl _, Nat.le_refl _⟩ (fun μ' hc => ?_)
    obtain ⟨I2, J2, rfl, hx2, fa2, fb2, fc2⟩ := hc
    rw [List.nil_append] at hx2
    have hx2 := (Or.inl hx2 : gMx I2 J2 ((gFd n K N Z) 0))
    refine gg_iload_n dX10_turn_122 3 rfl ?_
    refine gg_bipush dX10_turn_123 (by decide) ?_
    refine gg_bipush dX10_turn_125 (by decide) ?_
    refine gg_callSi (own := RX10) (yt := gm_X10_in) rfl gl_RX10_84 gk_X10_in gr_X10_in dX10_turn_127 (c_X10_in (d := d - 1) (by omega)) rfl rfl (Nat.le_of_ble_eq_true rfl) (by show _ ≤ d; omega) ⟨Nat.le_refl _, Nat.le_refl _⟩ (fun e9 μ' hc => ?_)
    obtain ⟨rfl, ⟨rfl, hb10⟩ | ⟨rfl, hb10⟩⟩ := hc
    · omega
    refine gg_if_eq_t (tgt := 143) dX10_turn_130 (by decide) (by decide) (by decide) ?_
    refine gg_iload_n dX10_turn_143 3 rfl ?_
    refine gg_bipush dX10_turn_144 (by decide) ?_
    refine gg_bipush dX10_turn_146 (by decide) ?_
    refine gg_callSi (own := RX10) (yt := gm_X10_in) rfl gl_RX10_84 gk_X10_in gr_X10_in dX10_turn_148 (c_X10_in (d := d - 1) (by omega)) rfl rfl (Nat.le_of_ble_eq_true rfl) (by show _ ≤ d; omega) ⟨Nat.le_refl _, Nat.le_refl _⟩ (fun e11 μ' hc => ?_)
    obtain ⟨rfl, ⟨rfl, hb12⟩ | ⟨rfl, hb12⟩⟩ := hc
    · omega
    refine gg_if_eq_t (tgt := 164) dX10_turn_151 (by decide) (by decide) (by decide) ?_
    refine gg_iload_n dX10_turn_164 3 rfl ?_
    refine gg_bipush dX10_turn_165 (by decide) ?_
    refine gg_icmp_ne_t (tgt := 176) dX10_turn_167 (by decide) (by decide) (by decide) ?_
    refine gg_aload_n dX10_turn_176 1 rfl ?_
    have hov : I2 145 6 = 0 ∧ ((gFd n K N Z) 0).length ≤ 200 ∨ (200 < ((gFd n K N Z) 0).length ∧ I2 145 6 = 1) := hx2.imp (fun h => ⟨h.2.2.1, h.2.1⟩) (fun h => ⟨h.1, h.2.1⟩)
    obtain ⟨ov, hove⟩ : ∃ ov : Int, I2 145 6 = ov := ⟨_, rfl⟩
    rw [hove] at hov
    refine gg_getI rfl gf_RX10_94 dX10_turn_177 sh_145 pl_145 (by decide) (by decide) ?_
    refine gg_toI (b := ov) hove ?_
    refine gg_if_eq (tgt := 188) dX10_turn_180 (by decide) (by omega) (fun hbo => ?_) (fun hbo => ?_)
    · have hmd2 := gMx_d hx2 (by omega)
      refine gg_aload_n dX10_turn_188 1 rfl ?_
      refine gg_iload_n dX10_turn_189 2 rfl ?_
      refine gg_callVi (own := RX10) (yt := gm_X10_handOver) rfl gl_RX10_186 gk_X10_handOver gr_X10_handOver dX10_turn_190 (c_X10_handOver (d := d - 1) (tl := (gFd n K N Z) 0) hf hmd2 (gFd_ok hW 0 (by omega)).1 (gFd_ok hW 0 (by omega)).2.1 (by omega)) sh_145 pl_145 (by decide) rfl rfl rfl (Nat.le_of_ble_eq_true rfl) (by show _ ≤ d; omega) ⟨Nat.le_refl _, Nat.le_refl _⟩ (fun e13 μ' hc => ?_)
      obtain ⟨I3, J3, rfl, hM3, g2, g3, g4, rfl⟩ := hc
      refine gg_ireti dX10_turn_193 rfl ⟨rfl, rfl⟩ ?_
      exact ⟨I3, J3, rfl, fun p a b c e g => (g2 p c e g).trans ((fa2 p a b).trans (b1 p a)), fun q a b => by rw [g2 145 (by omega) (by omega) (by omega)]; exact (fb2 q a b).trans (b2 q a b), fun q a => (g3 q a).trans (by rw [fa2 146 (by omega) (by omega), b1 146 (by omega)]), fun p a b => (g4 p b).trans (fc2 p a), Or.inr (Or.inr ⟨by omega, hmd2.2.1, rfl, hM3⟩)⟩
    · have h200 : 200 < ((gFd n K N Z) 0).length := by omega
      refine gg_bipush dX10_turn_183 (by decide) ?_
      refine gg_goto (tgt := 193) dX10_turn_185 (by decide) ?_
      refine gg_ireti dX10_turn_193 rfl ⟨rfl, rfl⟩ ?_
      exact ⟨I2, J2, rfl, fun p a b c e g => (fa2 p a b).trans (b1 p a), fun q a b => (fb2 q a b).trans (b2 q a b), fun q a => by rw [fa2 146 (by omega) (by omega), b1 146 (by omega)], fun p a b => fc2 p a, Or.inr (Or.inl ⟨by omega, h200, rfl, gMt_d hf hM1 fa2 fc2⟩)⟩

set_option maxRecDepth 10000 in
theorem c_X10_turn_d {l : Launch} {Γ : gC} {ad : Nat → Nat} {I : Nat → Nat → Int} {J : Nat → Nat → Int64} {d : Nat} {f n : Nat} {K : Nat → Nat} {N : Nat → Int64} {Z : Nat → Nat} (hf : f < 12) (hM : gMt I J f n K N Z) (hW : gWf n K N Z) {b nm : Int} (hnm : 0 ≤ nm ∧ nm < 8) (hb : -2147483648 ≤ b ∧ b ≤ 2147483647) (hd : 2 * n + 5 ≤ d) : gKi l Γ gm_X10_turn d [.ref (gad (gSS ad) 145), .int (iv (f : Int)), .int (iv (10 + nm)), .int (iv b)] (gSS ad, I, J) (fun e μ => ∃ I' J', μ = (gSS ad, I', J') ∧ (∀ p, p ≠ 145 → p ≠ 187 → p ≠ 146 → p ≠ 148 + f → p ≠ 174 + f → I' p = I p) ∧ (∀ q, q ≠ 5 → q ≠ 6 → I' 145 q = I 145 q) ∧ (∀ q, q ≠ f → I' 146 q = I 146 q) ∧ (∀ p, p ≠ 188 → p ≠ 161 + f → J' p = J p) ∧ gTresM I' J' f n K N Z (n = 0) ((gDv0 n nm K N Z) 0) e) := by
  refine gKi_of gk_X10_turn.1 (Nat.le_of_ble_eq_true rfl) ?_
  show gG l Γ gm_X10_turn (d, 0, 0, 0, 0) 0 [(0, .ref (gad (gSS ad) 145)), (1, .int (iv (f : Int))), (2, .int (iv (10 + nm))), (3, .int (iv b))] [] _ _
  refine gg_iload_n dX10_turn_0 2 rfl ?_
  refine gg_bipush dX10_turn_1 (by decide) ?_
  refine gg_bipush dX10_turn_3 (by decide) ?_
  refine gg_callSi (own := RX10) (yt := gm_X10_in) rfl gl_RX10_84 gk_X10_in gr_X10_in dX10_turn_5 (c_X10_in (d := d - 1) (by omega)) rfl rfl (Nat.le_of_ble_eq_true rfl) (by show _ ≤ d; omega) ⟨Nat.le_refl _, Nat.le_refl _⟩ (fun e1 μ' hc => ?_)
  obtain ⟨rfl, ⟨rfl, hb2⟩ | ⟨rfl, hb2⟩⟩ := hc
  · omega
  refine gg_if_ne_f (tgt := 17) dX10_turn_8 (by decide) (by decide) (by decide) ?_
  refine gg_iload_n dX10_turn_11 2 rfl ?_
  refine gg_bipush dX10_turn_12 (by decide) ?_
  refine gg_icmp_ne_t (tgt := 21) dX10_turn_14 (by decide) (by omega) (by omega) ?_
  refine gg_iconst dX10_turn_21 ?_
  refine gg_istore (ls' := [(4, .int (iv 0)), (0, .ref (gad (gSS ad) 145)), (1, .int (iv (f : Int))), (2, .int (iv (10 + nm))), (3, .int (iv b))]) dX10_turn_22 (by decide) rfl ?_
  refine gg_iload_n dX10_turn_24 2 rfl ?_
  refine gg_callSi (own := RX10) (yt := gm_X10_isFormula) rfl gl_RX10_181 gk_X10_isFormula gr_X10_isFormula dX10_turn_25 (c_X10_isFormula (d := d - 1) (by omega) (by omega)) rfl rfl (Nat.le_of_ble_eq_true rfl) (by show _ ≤ d; omega) ⟨Nat.le_refl _, Nat.le_refl _⟩ (fun e3 μ' hc => ?_)
  obtain ⟨rfl, ⟨rfl, hb4⟩ | ⟨rfl, hb4⟩⟩ := hc
  rotate_left
  · omega
  refine gg_if_eq_f (tgt := 68) dX10_turn_28 (by decide) (by decide) (by decide) ?_
  refine gg_iload_n dX10_turn_31 3 rfl ?_
  refine gg_iconst dX10_turn_32 ?_
  refine gg_iconst dX10_turn_33 ?_
  refine gg_callSi (own := RX10) (yt := gm_X10_in) rfl gl_RX10_84 gk_X10_in gr_X10_in dX10_turn_34 (c_X10_in (d := d - 1) (by omega)) rfl rfl (Nat.le_of_ble_eq_true rfl) (by show _ ≤ d; omega) ⟨Nat.le_refl _, Nat.le_refl _⟩ (fun e5 μ' hc => ?_)
  obtain ⟨rfl, ⟨rfl, hb6⟩ | ⟨rfl, hb6⟩⟩ := hc
  · omega
  refine gg_if_ne_f (tgt := 56) dX10_turn_37 (by decide) (by decide) (by decide) ?_
  refine gg_iload_n dX10_turn_40 3 rfl ?_
  refine gg_bipush dX10_turn_41 (by decide) ?_
  refine gg_bipush dX10_turn_43 (by decide) ?_
  refine gg_callSi (own := RX10) (yt := gm_X10_in) rfl gl_RX10_84 gk_X10_in gr_X10_in dX10_turn_45 (c_X10_in (d := d - 1) (by omega)) rfl rfl (Nat.le_of_ble_eq_true rfl) (by show _ ≤ d; omega) ⟨Nat.le_refl _, Nat.le_refl _⟩ (fun e7 μ' hc => ?_)
  obtain ⟨rfl, ⟨rfl, hb8⟩ | ⟨rfl, hb8⟩⟩ := hc
  rotate_left
  · omega
  refine gg_if_ne_t (tgt := 56) dX10_turn_48 (by decide) (by decide) (by decide) ?_
  refine gg_iload dX10_turn_56 0 rfl ?_
  refine gg_if_eq_t (tgt := 71) dX10_turn_58 (by decide) (by decide) (by decide) ?_
  refine gg_iload_n dX10_turn_71 3 rfl ?_
  refine gg_if_eq_f (tgt := 90) dX10_turn_72 (by decide) (by omega) (by omega) ?_
  refine gg_iload_n dX10_turn_75 3 rfl ?_
  refine gg_bipush dX10_turn_76 (by decide) ?_
  refine gg_icmp_eq_f (tgt := 90) dX10_turn_78 (by decide) (by omega) (by omega) ?_
  refine gg_aload_n dX10_turn_81 1 rfl ?_
  refine gg_getR (k' := 146) rfl gf_RX10_9 dX10_turn_82 sh_145 pl_145 (by decide) (by decide) rr_145_0 ?_
  refine gg_iload_n dX10_turn_85 2 rfl ?_
  refine gg_ialdj f dX10_turn_86 sh_146 pl_146 (by decide) rfl hf ?_
  refine gg_toI (b := (n : Int)) hM.1 ?_
  refine gg_if_eq (tgt := 104) dX10_turn_87 (by decide) (by have := hW.1; omega) (fun hn0 => ?_) (fun hn0 => ?_)
  · refine gg_bipush dX10_turn_104 (by decide) ?_
    refine gg_ireti dX10_turn_106 rfl ⟨rfl, rfl⟩ ?_
    exact ⟨I, J, rfl, fun _ _ _ _ _ _ => rfl, fun _ _ _ => rfl, fun _ _ => rfl, fun _ _ _ => rfl, Or.inl ⟨by omega, rfl, hM⟩⟩
  · refine gg_iload dX10_turn_90 0 rfl ?_
    refine gg_if_eq_t (tgt := 107) dX10_turn_92 (by decide) (by decide) (by decide) ?_
    refine gg_aload_n dX10_turn_107 1 rfl ?_
    refine gg_callVv (own := RX10) (yt := gm_X10_begin) rfl gl_RX10_184 gk_X10_begin gr_X10_begin dX10_turn_108 (c_X10_begin (d := d - 1)) sh_145 pl_145 (by decide) rfl rfl rfl (Nat.le_of_ble_eq_true rfl) (by show _ ≤ d; omega) ⟨Nat.le_refl _, Nat.le_refl _⟩ (fun μ' hc => ?_)
    obtain ⟨I1, rfl, hm1, b1, b2⟩ := hc
    have hM1 : gMt I1 J f n K N Z := gMt_d hf hM (fun p a _ => b1 p a) (fun _ _ => rfl)
    refine gg_iload_n dX10_turn_111 3 rfl ?_
    refine gg_iconst dX10_turn_112 ?_
    refine gg_icmp_ne_t (tgt := 122) dX10_turn_113 (by decide) (by omega) (by omega) ?_
    refine gg_iload_n dX10_turn_122 3 rfl ?_
    refine gg_bipush dX10_turn_123 (by decide) ?_
    refine gg_bipush dX10_turn_125 (by decide) ?_
    refine gg_callSi (own := RX10) (yt := gm_X10_in) rfl gl_RX10_84 gk_X10_in gr_X10_in dX10_turn_127 (c_X10_in (d := d - 1) (by omega)) rfl rfl (Nat.le_of_ble_eq_true rfl) (by show _ ≤ d; omega) ⟨Nat.le_refl _, Nat.le_refl _⟩ (fun e10 μ' hc => ?_)
    obtain ⟨rfl, ⟨rfl, hb11⟩ | ⟨rfl, hb11⟩⟩ := hc
    rotate_left
    · omega
    refine gg_if_eq_f (tgt := 143) dX10_turn_130 (by decide) (by decide) (by decide) ?_
    refine gg_aload_n dX10_turn_133 1 rfl ?_
    refine gg_iload_n dX10_turn_134 2 rfl ?_
    refine gg_iconst dX10_turn_135 ?_
    refine gg_iload_n dX10_turn_136 3 rfl ?_
    refine gg_bipush dX10_turn_137 (by decide) ?_
    refine gg_isub dX10_turn_139 ?_
    refine gg_toI (b := nm) (by omega) ?_
    refine gg_callVv (own := RX10) (yt := gm_X10_derive) rfl gl_RX10_222 gk_X10_derive gr_X10_derive dX10_turn_140 (r_X10_derive (nm := nm) hf hW n 0 (by omega) (by rw [hW.2.1 (by omega)]; exact Nat.le_refl _) (d - 1) (by omega) I1 J [] hM1 (Or.inl hm1)) sh_145 pl_145 (by decide) rfl rfl rfl (Nat.le_of_ble_eq_true rfl) (by show _ ≤ d; omega) ⟨Nat.le_refl _, Nat.le_refl _⟩ (fun μ' hc => ?_)
    obtain ⟨I2, J2, rfl, hx2, fa2, fb2, fc2⟩ := hc
    rw [List.nil_append] at hx2
    refine gg_iload_n dX10_turn_143 3 rfl ?_
    refine gg_bipush dX10_turn_144 (by decide) ?_
    refine gg_bipush dX10_turn_146 (by decide) ?_
    refine gg_callSi (own := RX10) (yt := gm_X10_in) rfl gl_RX10_84 gk_X10_in gr_X10_in dX10_turn_148 (c_X10_in (d := d - 1) (by omega)) rfl rfl (Nat.le_of_ble_eq_true rfl) (by show _ ≤ d; omega) ⟨Nat.le_refl _, Nat.le_refl _⟩ (fun e13 μ' hc => ?_)
    obtain ⟨rfl, ⟨rfl, hb14⟩ | ⟨rfl, hb14⟩⟩ := hc
    · omega
    refine gg_if_eq_t (tgt := 164) dX10_turn_151 (by decide) (by decide) (by decide) ?_
    refine gg_iload_n dX10_turn_164 3 rfl ?_
    refine gg_bipush dX10_turn_165 (by decide) ?_
    refine gg_icmp_ne_t (tgt := 176) dX10_turn_167 (by decide) (by omega) (by omega) ?_
    refine gg_aload_n dX10_turn_176 1 rfl ?_
    have hov : I2 145 6 = 0 ∧ ((gDv0 n nm K N Z) 0).length ≤ 200 ∨ (200 < ((gDv0 n nm K N Z) 0).length ∧ I2 145 6 = 1) := hx2.imp (fun h => ⟨h.2.2.1, h.2.1⟩) (fun h => ⟨h.1, h.2.1⟩)
    obtain ⟨ov, hove⟩ : ∃ ov : Int, I2 145 6 = ov := ⟨_, rfl⟩
    rw [hove] at hov
    refine gg_getI rfl gf_RX10_94 dX10_turn_177 sh_145 pl_145 (by decide) (by decide) ?_
    refine gg_toI (b := ov) hove ?_
    refine gg_if_eq (tgt := 188) dX10_turn_180 (by decide) (by omega) (fun hbo => ?_) (fun hbo => ?_)
    · have hmd2 := gMx_d hx2 (by omega)
      refine gg_aload_n dX10_turn_188 1 rfl ?_
      refine gg_iload_n dX10_turn_189 2 rfl ?_
      refine gg_callVi (own := RX10) (yt := gm_X10_handOver) rfl gl_RX10_186 gk_X10_handOver gr_X10_handOver dX10_turn_190 (c_X10_handOver (d := d - 1) (tl := (gDv0 n nm K N Z) 0) hf hmd2 (gDv0_ok hW 0 (by omega)).1 (gDv0_ok hW 0 (by omega)).2 (by omega)) sh_145 pl_145 (by decide) rfl rfl rfl (Nat.le_of_ble_eq_true rfl) (by show _ ≤ d; omega) ⟨Nat.le_refl _, Nat.le_refl _⟩ (fun e15 μ' hc => ?_)
      obtain ⟨I3, J3, rfl, hM3, g2, g3, g4, rfl⟩ := hc
      refine gg_ireti dX10_turn_193 rfl ⟨rfl, rfl⟩ ?_
      exact ⟨I3, J3, rfl, fun p a b c e g => (g2 p c e g).trans ((fa2 p a b).trans (b1 p a)), fun q a b => by rw [g2 145 (by omega) (by omega) (by omega)]; exact (fb2 q a b).trans (b2 q a b), fun q a => (g3 q a).trans (by rw [fa2 146 (by omega) (by omega), b1 146 (by omega)]), fun p a b => (g4 p b).trans (fc2 p a), Or.inr (Or.inr ⟨by omega, hmd2.2.1, rfl, hM3⟩)⟩
    · have h200 : 200 < ((gDv0 n nm K N Z) 0).length := by omega
      refine gg_bipush dX10_turn_183 (by decide) ?_
      refine gg_goto (tgt := 193) dX10_turn_185 (by decide) ?_
      refine gg_ireti dX10_turn_193 rfl ⟨rfl, rfl⟩ ?_
      exact ⟨I2, J2, rfl, fun p a b c e g => (fa2 p a b).trans (b1 p a), fun q a b => (fb2 q a b).trans (b2 q a b), fun q a => by rw [fa2 146 (by omega) (by omega), b1 146 (by omega)], fun p a b => fc2 p a, Or.inr (Or.inl ⟨by omega, h200, rfl, gMt_d hf hM1 fa2 fc2⟩)⟩

set_option maxRecDepth 10000 in
theorem c_X10_turn_r {l : Launch} {Γ : gC} {ad : Nat → Nat} {I : Nat → Nat → Int} {J : Nat → Nat → Int64} {d : Nat} {f n : Nat} {K : Nat → Nat} {N : Nat → Int64} {Z : Nat → Nat} (hf : f < 12) (hM : gMt I J f n K N Z) (hW : gWf n K N Z) {b n' : Nat} {K' : Nat → Nat} {N' : Nat → Int64} {Z' : Nat → Nat} (hb : b < 12) (hM' : gMt I J b n' K' N' Z') (hW' : gWf n' K' N' Z') {nm : Int} (hnm : 0 ≤ nm ∧ nm < 8) (hd : 5 ≤ d) : gKi l Γ gm_X10_turn d [.ref (gad (gSS ad) 145), .int (iv (f : Int)), .int (iv (20 + nm)), .int (iv (b : Int))] (gSS ad, I, J) (fun e μ => ∃ I' J', μ = (gSS ad, I', J') ∧ (∀ p, p ≠ 145 → p ≠ 187 → p ≠ 146 → p ≠ 148 + f → p ≠ 174 + f → I' p = I p) ∧ (∀ q, q ≠ 5 → q ≠ 6 → I' 145 q = I 145 q) ∧ (∀ q, q ≠ f → I' 146 q = I 146 q) ∧ (∀ p, p ≠ 188 → p ≠ 161 + f → J' p = J p) ∧ gTresM I' J' f n K N Z (n = 0 ∨ n' = 0) ((gRp n nm (gSt1 K' N' Z' 0) K N Z) 0) e) := by
  refine gKi_of gk_X10_turn.1 (Nat.le_of_ble_eq_true rfl) ?_
  show gG l Γ gm_X10_turn (d, 0, 0, 0, 0) 0 [(0, .ref (gad (gSS ad) 145)), (1, .int (iv (f : Int))), (2, .int (iv (20 + nm))), (3, .int (iv (b : Int)))] [] _ _
  refine gg_iload_n dX10_turn_0 2 rfl ?_
  refine gg_bipush dX10_turn_1 (by decide) ?_
  refine gg_bipush dX10_turn_3 (by decide) ?_
  refine gg_callSi (own := RX10) (yt := gm_X10_in) rfl gl_RX10_84 gk_X10_in gr_X10_in dX10_turn_5 (c_X10_in (d := d - 1) (by omega)) rfl rfl (Nat.le_of_ble_eq_true rfl) (by show _ ≤ d; omega) ⟨Nat.le_refl _, Nat.le_refl _⟩ (fun e1 μ' hc => ?_)
  obtain ⟨rfl, ⟨rfl, hb2⟩ | ⟨rfl, hb2⟩⟩ := hc
  rotate_left
  · omega
  refine gg_if_ne_t (tgt := 17) dX10_turn_8 (by decide) (by decide) (by decide) ?_
  refine gg_iconst dX10_turn_17 ?_
  refine gg_goto (tgt := 22) dX10_turn_18 (by decide) ?_
  refine gg_istore (ls' := [(4, .int (iv 1)), (0, .ref (gad (gSS ad) 145)), (1, .int (iv (f : Int))), (2, .int (iv (20 + nm))), (3, .int (iv (b : Int)))]) dX10_turn_22 (by decide) rfl ?_
  refine gg_iload_n dX10_turn_24 2 rfl ?_
  refine gg_callSi (own := RX10) (yt := gm_X10_isFormula) rfl gl_RX10_181 gk_X10_isFormula gr_X10_isFormula dX10_turn_25 (c_X10_isFormula (d := d - 1) (by omega) (by omega)) rfl rfl (Nat.le_of_ble_eq_true rfl) (by show _ ≤ d; omega) ⟨Nat.le_refl _, Nat.le_refl _⟩ (fun e3 μ' hc => ?_)
  obtain ⟨rfl, ⟨rfl, hb4⟩ | ⟨rfl, hb4⟩⟩ := hc
  rotate_left
  · omega
  refine gg_if_eq_f (tgt := 68) dX10_turn_28 (by decide) (by decide) (by decide) ?_
  refine gg_iload_n dX10_turn_31 3 rfl ?_
  refine gg_iconst dX10_turn_32 ?_
  refine gg_iconst dX10_turn_33 ?_
  refine gg_callSi (own := RX10) (yt := gm_X10_in) rfl gl_RX10_84 gk_X10_in gr_X10_in dX10_turn_34 (c_X10_in (d := d - 1) (by omega)) rfl rfl (Nat.le_of_ble_eq_true rfl) (by show _ ≤ d; omega) ⟨Nat.le_refl _, Nat.le_refl _⟩ (fun e5 μ' hc => ?_)
  obtain ⟨rfl, ⟨rfl, hb6⟩ | ⟨rfl, hb6⟩⟩ := hc
  · omega
  refine gg_if_ne_f (tgt := 56) dX10_turn_37 (by decide) (by decide) (by decide) ?_
  refine gg_iload_n dX10_turn_40 3 rfl ?_
  refine gg_bipush dX10_turn_41 (by decide) ?_
  refine gg_bipush dX10_turn_43 (by decide) ?_
  refine gg_callSi (own := RX10) (yt := gm_X10_in) rfl gl_RX10_84 gk_X10_in gr_X10_in dX10_turn_45 (c_X10_in (d := d - 1) (by omega)) rfl rfl (Nat.le_of_ble_eq_true rfl) (by show _ ≤ d; omega) ⟨Nat.le_refl _, Nat.le_refl _⟩ (fun e7 μ' hc => ?_)
  obtain ⟨rfl, ⟨rfl, hb8⟩ | ⟨rfl, hb8⟩⟩ := hc
  · omega
  refine gg_if_ne_f (tgt := 56) dX10_turn_48 (by decide) (by decide) (by decide) ?_
  refine gg_iload dX10_turn_51 0 rfl ?_
  refine gg_if_eq_f (tgt := 68) dX10_turn_53 (by decide) (by decide) (by decide) ?_
  refine gg_iload dX10_turn_56 0 rfl ?_
  refine gg_if_eq_f (tgt := 71) dX10_turn_58 (by decide) (by decide) (by decide) ?_
  refine gg_iload_n dX10_turn_61 4 rfl ?_
  refine gg_callSi (own := RX10) (yt := gm_X10_isFormula) rfl gl_RX10_181 gk_X10_isFormula gr_X10_isFormula dX10_turn_62 (c_X10_isFormula (d := d - 1) (by omega) (by omega)) rfl rfl (Nat.le_of_ble_eq_true rfl) (by show _ ≤ d; omega) ⟨Nat.le_refl _, Nat.le_refl _⟩ (fun e9 μ' hc => ?_)
  obtain ⟨rfl, ⟨rfl, hb10⟩ | ⟨rfl, hb10⟩⟩ := hc
  rotate_left
  · omega
  refine gg_if_ne_t (tgt := 71) dX10_turn_65 (by decide) (by decide) (by decide) ?_
  refine gg_iload_n dX10_turn_71 3 rfl ?_
  refine gg_if_eq_f (tgt := 90) dX10_turn_72 (by decide) (by omega) (by omega) ?_
  refine gg_iload_n dX10_turn_75 3 rfl ?_
  refine gg_bipush dX10_turn_76 (by decide) ?_
  refine gg_icmp_eq_f (tgt := 90) dX10_turn_78 (by decide) (by omega) (by omega) ?_
  refine gg_aload_n dX10_turn_81 1 rfl ?_
  refine gg_getR (k' := 146) rfl gf_RX10_9 dX10_turn_82 sh_145 pl_145 (by decide) (by decide) rr_145_0 ?_
  refine gg_iload_n dX10_turn_85 2 rfl ?_
  refine gg_ialdj f dX10_turn_86 sh_146 pl_146 (by decide) rfl hf ?_
  refine gg_toI (b := (n : Int)) hM.1 ?_
  refine gg_if_eq (tgt := 104) dX10_turn_87 (by decide) (by have := hW.1; omega) (fun hn0 => ?_) (fun hn0 => ?_)
  · refine gg_bipush dX10_turn_104 (by decide) ?_
    refine gg_ireti dX10_turn_106 rfl ⟨rfl, rfl⟩ ?_
    exact ⟨I, J, rfl, fun _ _ _ _ _ _ => rfl, fun _ _ _ => rfl, fun _ _ => rfl, fun _ _ _ => rfl, Or.inl ⟨by omega, rfl, hM⟩⟩
  · refine gg_iload dX10_turn_90 0 rfl ?_
    refine gg_if_eq_f (tgt := 107) dX10_turn_92 (by decide) (by decide) (by decide) ?_
    refine gg_aload_n dX10_turn_95 1 rfl ?_
    refine gg_getR (k' := 146) rfl gf_RX10_9 dX10_turn_96 sh_145 pl_145 (by decide) (by decide) rr_145_0 ?_
    refine gg_iload_n dX10_turn_99 4 rfl ?_
    refine gg_ialdj b dX10_turn_100 sh_146 pl_146 (by decide) rfl hb ?_
    refine gg_toI (b := (n' : Int)) hM'.1 ?_
    refine gg_if_ne (tgt := 107) dX10_turn_101 (by decide) (by have := hW'.1; omega) (fun hb0 => ?_) (fun hb0 => ?_)
    · refine gg_aload_n dX10_turn_107 1 rfl ?_
      refine gg_callVv (own := RX10) (yt := gm_X10_begin) rfl gl_RX10_184 gk_X10_begin gr_X10_begin dX10_turn_108 (c_X10_begin (d := d - 1)) sh_145 pl_145 (by decide) rfl rfl rfl (Nat.le_of_ble_eq_true rfl) (by show _ ≤ d; omega) ⟨Nat.le_refl _, Nat.le_refl _⟩ (fun μ' hc => ?_)
      obtain ⟨I1, rfl, hm1, b1, b2⟩ := hc
      have hM1 : gMt I1 J f n K N Z := gMt_d hf hM (fun p a _ => b1 p a) (fun _ _ => rfl)
      refine gg_iload_n dX10_turn_111 3 rfl ?_
      refine gg_iconst dX10_turn_112 ?_
      refine gg_icmp_ne_t (tgt := 122) dX10_turn_113 (by decide) (by omega) (by omega) ?_
      refine gg_iload_n dX10_turn_122 3 rfl ?_
      refine gg_bipush dX10_turn_123 (by decide) ?_
      refine gg_bipush dX10_turn_125 (by decide) ?_
      refine gg_callSi (own := RX10) (yt := gm_X10_in) rfl gl_RX10_84 gk_X10_in gr_X10_in dX10_turn_127 (c_X10_in (d := d - 1) (by omega)) rfl rfl (Nat.le_of_ble_eq_true rfl) (by show _ ≤ d; omega) ⟨Nat.le_refl _, Nat.le_refl _⟩ (fun e12 μ' hc => ?_)
      obtain ⟨rfl, ⟨rfl, hb13⟩ | ⟨rfl, hb13⟩⟩ := hc
      · omega
      refine gg_if_eq_t (tgt := 143) dX10_turn_130 (by decide) (by decide) (by decide) ?_
      refine gg_iload_n dX10_turn_143 3 rfl ?_
      refine gg_bipush dX10_turn_144 (by decide) ?_
      refine gg_bipush dX10_turn_146 (by decide) ?_
      refine gg_callSi (own := RX10) (yt := gm_X10_in) rfl gl_RX10_84 gk_X10_in gr_X10_in dX10_turn_148 (c_X10_in (d := d - 1) (by omega)) rfl rfl (Nat.le_of_ble_eq_true rfl) (by show _ ≤ d; omega) ⟨Nat.le_refl _, Nat.le_refl _⟩ (fun e14 μ' hc => ?_)
      obtain ⟨rfl, ⟨rfl, hb15⟩ | ⟨rfl, hb15⟩⟩ := hc
      rotate_left
      · omega
      refine gg_if_eq_f (tgt := 164) dX10_turn_151 (by decide) (by decide) (by decide) ?_
      refine gg_aload_n dX10_turn_154 1 rfl ?_
      refine gg_iload_n dX10_turn_155 2 rfl ?_
      refine gg_iload_n dX10_turn_156 3 rfl ?_
      refine gg_bipush dX10_turn_157 (by decide) ?_
      refine gg_isub dX10_turn_159 ?_
      refine gg_toI (b := nm) (by omega) ?_
      refine gg_iload_n dX10_turn_160 4 rfl ?_
      refine gg_callVv (own := RX10) (yt := gm_X10_replace) rfl gl_RX10_236 gk_X10_replace gr_X10_replace dX10_turn_161 (c_X10_replace (d := d - 1) (nm := nm) hf hM1 hW hb (gMt_d hb hM' (fun p a _ => b1 p a) (fun _ _ => rfl)) hW' (by omega) (by omega) (Or.inl hm1) (by omega)) sh_145 pl_145 (by decide) rfl rfl rfl (Nat.le_of_ble_eq_true rfl) (by show _ ≤ d; omega) ⟨Nat.le_refl _, Nat.le_refl _⟩ (fun μ' hc => ?_)
      obtain ⟨I2, J2, rfl, hx2, fa2, fb2, fc2⟩ := hc
      refine gg_iload_n dX10_turn_164 3 rfl ?_
      refine gg_bipush dX10_turn_165 (by decide) ?_
      refine gg_icmp_ne_t (tgt := 176) dX10_turn_167 (by decide) (by omega) (by omega) ?_
      refine gg_aload_n dX10_turn_176 1 rfl ?_
      have hov : I2 145 6 = 0 ∧ ((gRp n nm (gSt1 K' N' Z' 0) K N Z) 0).length ≤ 200 ∨ (200 < ((gRp n nm (gSt1 K' N' Z' 0) K N Z) 0).length ∧ I2 145 6 = 1) := hx2.imp (fun h => ⟨h.2.2.1, h.2.1⟩) (fun h => ⟨h.1, h.2.1⟩)
      obtain ⟨ov, hove⟩ : ∃ ov : Int, I2 145 6 = ov := ⟨_, rfl⟩
      rw [hove] at hov
      refine gg_getI rfl gf_RX10_94 dX10_turn_177 sh_145 pl_145 (by decide) (by decide) ?_
      refine gg_toI (b := ov) hove ?_
      refine gg_if_eq (tgt := 188) dX10_turn_180 (by decide) (by omega) (fun hbo => ?_) (fun hbo => ?_)
      · have hmd2 := gMx_d hx2 (by omega)
        refine gg_aload_n dX10_turn_188 1 rfl ?_
        refine gg_iload_n dX10_turn_189 2 rfl ?_
        refine gg_callVi (own := RX10) (yt := gm_X10_handOver) rfl gl_RX10_186 gk_X10_handOver gr_X10_handOver dX10_turn_190 (c_X10_handOver (d := d - 1) (tl := (gRp n nm (gSt1 K' N' Z' 0) K N Z) 0) hf hmd2 (gRp_ok hW (gSt1_fo hW' 0 (by omega)) (gSt1_nv hW' (by omega)) 0 (by omega)).1 (gRp_ok hW (gSt1_fo hW' 0 (by omega)) (gSt1_nv hW' (by omega)) 0 (by omega)).2 (by omega)) sh_145 pl_145 (by decide) rfl rfl rfl (Nat.le_of_ble_eq_true rfl) (by show _ ≤ d; omega) ⟨Nat.le_refl _, Nat.le_refl _⟩ (fun e17 μ' hc => ?_)
        obtain ⟨I3, J3, rfl, hM3, g2, g3, g4, rfl⟩ := hc
        refine gg_ireti dX10_turn_193 rfl ⟨rfl, rfl⟩ ?_
        exact ⟨I3, J3, rfl, fun p a b c e g => (g2 p c e g).trans ((fa2 p a b).trans (b1 p a)), fun q a b => by rw [g2 145 (by omega) (by omega) (by omega)]; exact (fb2 q a b).trans (b2 q a b), fun q a => (g3 q a).trans (by rw [fa2 146 (by omega) (by omega), b1 146 (by omega)]), fun p a b => (g4 p b).trans (fc2 p a), Or.inr (Or.inr ⟨by omega, hmd2.2.1, rfl, hM3⟩)⟩
      · have h200 : 200 < ((gRp n nm (gSt1 K' N' Z' 0) K N Z) 0).length := by omega
        refine gg_bipush dX10_turn_183 (by decide) ?_
        refine gg_goto (tgt := 193) dX10_turn_185 (by decide) ?_
        refine gg_ireti dX10_turn_193 rfl ⟨rfl, rfl⟩ ?_
        exact ⟨I2, J2, rfl, fun p a b c e g => (fa2 p a b).trans (b1 p a), fun q a b => (fb2 q a b).trans (b2 q a b), fun q a => by rw [fa2 146 (by omega) (by omega), b1 146 (by omega)], fun p a b => fc2 p a, Or.inr (Or.inl ⟨by omega, h200, rfl, gMt_d hf hM1 fa2 fc2⟩)⟩
    · refine gg_bipush dX10_turn_104 (by decide) ?_
      refine gg_ireti dX10_turn_106 rfl ⟨rfl, rfl⟩ ?_
      exact ⟨I, J, rfl, fun _ _ _ _ _ _ => rfl, fun _ _ _ => rfl, fun _ _ => rfl, fun _ _ _ => rfl, Or.inl ⟨by omega, rfl, hM⟩⟩

set_option maxRecDepth 10000 in
theorem c_X10_turn_out {l : Launch} {Γ : gC} {ad : Nat → Nat} {I : Nat → Nat → Int} {J : Nat → Nat → Int64} {d : Nat} {i w b : Int} (hi : -2147483648 ≤ i ∧ i ≤ 2147483647) (hw : -2147483648 ≤ w ∧ w ≤ 2147483647) (hb : -2147483648 ≤ b ∧ b ≤ 2147483647) (ho : ¬ ((0 ≤ i ∧ i ≤ 11) ∧ (w = 0 ∨ w = 1 ∨ w = 30 ∨ (10 ≤ w ∧ w ≤ 17) ∨ (20 ≤ w ∧ w ≤ 27)) ∧ (20 ≤ w → 0 ≤ b ∧ b ≤ 11))) (hd : 3 ≤ d) : gKi l Γ gm_X10_turn d [.ref (gad (gSS ad) 145), .int (iv i), .int (iv w), .int (iv b)] (gSS ad, I, J) (fun e μ => μ = (gSS ad, I, J) ∧ e = -2) := by
  refine gKi_of gk_X10_turn.1 (Nat.le_of_ble_eq_true rfl) ?_
  show gG l Γ gm_X10_turn (d, 0, 0, 0, 0) 0 [(0, .ref (gad (gSS ad) 145)), (1, .int (iv i)), (2, .int (iv w)), (3, .int (iv b))] [] _ _
  refine gg_iload_n dX10_turn_0 2 rfl ?_
  refine gg_bipush dX10_turn_1 (by decide) ?_
  refine gg_bipush dX10_turn_3 (by decide) ?_
  refine gg_callSi (own := RX10) (yt := gm_X10_in) rfl gl_RX10_84 gk_X10_in gr_X10_in dX10_turn_5 (c_X10_in (d := d - 1) (by omega)) rfl rfl (Nat.le_of_ble_eq_true rfl) (by show _ ≤ d; omega) ⟨Nat.le_refl _, Nat.le_refl _⟩ (fun e1 μ' hc => ?_)
  obtain ⟨rfl, ⟨rfl, hb2⟩ | ⟨rfl, hb2⟩⟩ := hc
  · refine gg_if_ne_t (tgt := 17) dX10_turn_8 (by decide) (by decide) (by decide) ?_
    refine gg_iconst dX10_turn_17 ?_
    refine gg_goto (tgt := 22) dX10_turn_18 (by decide) ?_
    refine gg_istore (ls' := [(4, .int (iv 1)), (0, .ref (gad (gSS ad) 145)), (1, .int (iv i)), (2, .int (iv w)), (3, .int (iv b))]) dX10_turn_22 (by decide) rfl ?_
    refine gg_iload_n dX10_turn_24 2 rfl ?_
    refine gg_callSi (own := RX10) (yt := gm_X10_isFormula) rfl gl_RX10_181 gk_X10_isFormula gr_X10_isFormula dX10_turn_25 (c_X10_isFormula (d := d - 1) (by omega) (by omega)) rfl rfl (Nat.le_of_ble_eq_true rfl) (by show _ ≤ d; omega) ⟨Nat.le_refl _, Nat.le_refl _⟩ (fun e3 μ' hc => ?_)
    obtain ⟨rfl, ⟨rfl, hb4⟩ | ⟨rfl, hb4⟩⟩ := hc
    · refine gg_if_eq_f (tgt := 68) dX10_turn_28 (by decide) (by decide) (by decide) ?_
      refine gg_iload_n dX10_turn_31 3 rfl ?_
      refine gg_iconst dX10_turn_32 ?_
      refine gg_iconst dX10_turn_33 ?_
      refine gg_callSi (own := RX10) (yt := gm_X10_in) rfl gl_RX10_84 gk_X10_in gr_X10_in dX10_turn_34 (c_X10_in (d := d - 1) (by omega)) rfl rfl (Nat.le_of_ble_eq_true rfl) (by show _ ≤ d; omega) ⟨Nat.le_refl _, Nat.le_refl _⟩ (fun e5 μ' hc => ?_)
      obtain ⟨rfl, ⟨rfl, hb6⟩ | ⟨rfl, hb6⟩⟩ := hc
      · refine gg_if_ne_t (tgt := 56) dX10_turn_37 (by decide) (by decide) (by decide) ?_
        refine gg_iload dX10_turn_56 0 rfl ?_
        refine gg_if_eq_f (tgt := 71) dX10_turn_58 (by decide) (by decide) (by decide) ?_
        refine gg_iload_n dX10_turn_61 4 rfl ?_
        refine gg_callSi (own := RX10) (yt := gm_X10_isFormula) rfl gl_RX10_181 gk_X10_isFormula gr_X10_isFormula dX10_turn_62 (c_X10_isFormula (d := d - 1) (by omega) (by omega)) rfl rfl (Nat.le_of_ble_eq_true rfl) (by show _ ≤ d; omega) ⟨Nat.le_refl _, Nat.le_refl _⟩ (fun e7 μ' hc => ?_)
        obtain ⟨rfl, ⟨rfl, hb8⟩ | ⟨rfl, hb8⟩⟩ := hc
        · refine gg_if_ne_t (tgt := 71) dX10_turn_65 (by decide) (by decide) (by decide) ?_
          exfalso
          omega
        · refine gg_if_ne_f (tgt := 71) dX10_turn_65 (by decide) (by decide) (by decide) ?_
          refine gg_bipush dX10_turn_68 (by decide) ?_
          refine gg_ireti dX10_turn_70 rfl ⟨rfl, rfl⟩ ?_
          exact ⟨rfl, rfl⟩
      · refine gg_if_ne_f (tgt := 56) dX10_turn_37 (by decide) (by decide) (by decide) ?_
        refine gg_iload_n dX10_turn_40 3 rfl ?_
        refine gg_bipush dX10_turn_41 (by decide) ?_
        refine gg_bipush dX10_turn_43 (by decide) ?_
        refine gg_callSi (own := RX10) (yt := gm_X10_in) rfl gl_RX10_84 gk_X10_in gr_X10_in dX10_turn_45 (c_X10_in (d := d - 1) (by omega)) rfl rfl (Nat.le_of_ble_eq_true rfl) (by show _ ≤ d; omega) ⟨Nat.le_refl _, Nat.le_refl _⟩ (fun e9 μ' hc => ?_)
        obtain ⟨rfl, ⟨rfl, hb10⟩ | ⟨rfl, hb10⟩⟩ := hc
        · refine gg_if_ne_t (tgt := 56) dX10_turn_48 (by decide) (by decide) (by decide) ?_
          refine gg_iload dX10_turn_56 0 rfl ?_
          refine gg_if_eq_f (tgt := 71) dX10_turn_58 (by decide) (by decide) (by decide) ?_
          refine gg_iload_n dX10_turn_61 4 rfl ?_
          refine gg_callSi (own := RX10) (yt := gm_X10_isFormula) rfl gl_RX10_181 gk_X10_isFormula gr_X10_isFormula dX10_turn_62 (c_X10_isFormula (d := d - 1) (by omega) (by omega)) rfl rfl (Nat.le_of_ble_eq_true rfl) (by show _ ≤ d; omega) ⟨Nat.le_refl _, Nat.le_refl _⟩ (fun e11 μ' hc => ?_)
          obtain ⟨rfl, ⟨rfl, hb12⟩ | ⟨rfl, hb12⟩⟩ := hc
          · refine gg_if_ne_t (tgt := 71) dX10_turn_65 (by decide) (by decide) (by decide) ?_
            exfalso
            omega
          · refine gg_if_ne_f (tgt := 71) dX10_turn_65 (by decide) (by decide) (by decide) ?_
            refine gg_bipush dX10_turn_68 (by decide) ?_
            refine gg_ireti dX10_turn_70 rfl ⟨rfl, rfl⟩ ?_
            exact ⟨rfl, rfl⟩
        · refine gg_if_ne_f (tgt := 56) dX10_turn_48 (by decide) (by decide) (by decide) ?_
          refine gg_iload dX10_turn_51 0 rfl ?_
          refine gg_if_eq_f (tgt := 68) dX10_turn_53 (by decide) (by decide) (by decide) ?_
          refine gg_iload dX10_turn_56 0 rfl ?_
          refine gg_if_eq_f (tgt := 71) dX10_turn_58 (by decide) (by decide) (by decide) ?_
          refine gg_iload_n dX10_turn_61 4 rfl ?_
          refine gg_callSi (own := RX10) (yt := gm_X10_isFormula) rfl gl_RX10_181 gk_X10_isFormula gr_X10_isFormula dX10_turn_62 (c_X10_isFormula (d := d - 1) (by omega) (by omega)) rfl rfl (Nat.le_of_ble_eq_true rfl) (by show _ ≤ d; omega) ⟨Nat.le_refl _, Nat.le_refl _⟩ (fun e13 μ' hc => ?_)
          obtain ⟨rfl, ⟨rfl, hb14⟩ | ⟨rfl, hb14⟩⟩ := hc
          · refine gg_if_ne_t (tgt := 71) dX10_turn_65 (by decide) (by decide) (by decide) ?_
            exfalso
            omega
          · refine gg_if_ne_f (tgt := 71) dX10_turn_65 (by decide) (by decide) (by decide) ?_
            refine gg_bipush dX10_turn_68 (by decide) ?_
            refine gg_ireti dX10_turn_70 rfl ⟨rfl, rfl⟩ ?_
            exact ⟨rfl, rfl⟩
    · refine gg_if_eq_t (tgt := 68) dX10_turn_28 (by decide) (by decide) (by decide) ?_
      refine gg_bipush dX10_turn_68 (by decide) ?_
      refine gg_ireti dX10_turn_70 rfl ⟨rfl, rfl⟩ ?_
      exact ⟨rfl, rfl⟩
  · refine gg_if_ne_f (tgt := 17) dX10_turn_8 (by decide) (by decide) (by decide) ?_
    refine gg_iload_n dX10_turn_11 2 rfl ?_
    refine gg_bipush dX10_turn_12 (by decide) ?_
    refine gg_icmp_ne (tgt := 21) dX10_turn_14 (by decide) (by omega) (fun hb15 => ?_) (fun hb15 => ?_)
    · refine gg_iconst dX10_turn_21 ?_
      refine gg_istore (ls' := [(4, .int (iv 0)), (0, .ref (gad (gSS ad) 145)), (1, .int (iv i)), (2, .int (iv w)), (3, .int (iv b))]) dX10_turn_22 (by decide) rfl ?_
      refine gg_iload_n dX10_turn_24 2 rfl ?_
      refine gg_callSi (own := RX10) (yt := gm_X10_isFormula) rfl gl_RX10_181 gk_X10_isFormula gr_X10_isFormula dX10_turn_25 (c_X10_isFormula (d := d - 1) (by omega) (by omega)) rfl rfl (Nat.le_of_ble_eq_true rfl) (by show _ ≤ d; omega) ⟨Nat.le_refl _, Nat.le_refl _⟩ (fun e16 μ' hc => ?_)
      obtain ⟨rfl, ⟨rfl, hb17⟩ | ⟨rfl, hb17⟩⟩ := hc
      · refine gg_if_eq_f (tgt := 68) dX10_turn_28 (by decide) (by decide) (by decide) ?_
        refine gg_iload_n dX10_turn_31 3 rfl ?_
        refine gg_iconst dX10_turn_32 ?_
        refine gg_iconst dX10_turn_33 ?_
        refine gg_callSi (own := RX10) (yt := gm_X10_in) rfl gl_RX10_84 gk_X10_in gr_X10_in dX10_turn_34 (c_X10_in (d := d - 1) (by omega)) rfl rfl (Nat.le_of_ble_eq_true rfl) (by show _ ≤ d; omega) ⟨Nat.le_refl _, Nat.le_refl _⟩ (fun e18 μ' hc => ?_)
        obtain ⟨rfl, ⟨rfl, hb19⟩ | ⟨rfl, hb19⟩⟩ := hc
        · refine gg_if_ne_t (tgt := 56) dX10_turn_37 (by decide) (by decide) (by decide) ?_
          refine gg_iload dX10_turn_56 0 rfl ?_
          refine gg_if_eq_t (tgt := 71) dX10_turn_58 (by decide) (by decide) (by decide) ?_
          exfalso
          omega
        · refine gg_if_ne_f (tgt := 56) dX10_turn_37 (by decide) (by decide) (by decide) ?_
          refine gg_iload_n dX10_turn_40 3 rfl ?_
          refine gg_bipush dX10_turn_41 (by decide) ?_
          refine gg_bipush dX10_turn_43 (by decide) ?_
          refine gg_callSi (own := RX10) (yt := gm_X10_in) rfl gl_RX10_84 gk_X10_in gr_X10_in dX10_turn_45 (c_X10_in (d := d - 1) (by omega)) rfl rfl (Nat.le_of_ble_eq_true rfl) (by show _ ≤ d; omega) ⟨Nat.le_refl _, Nat.le_refl _⟩ (fun e20 μ' hc => ?_)
          obtain ⟨rfl, ⟨rfl, hb21⟩ | ⟨rfl, hb21⟩⟩ := hc
          · refine gg_if_ne_t (tgt := 56) dX10_turn_48 (by decide) (by decide) (by decide) ?_
            refine gg_iload dX10_turn_56 0 rfl ?_
            refine gg_if_eq_t (tgt := 71) dX10_turn_58 (by decide) (by decide) (by decide) ?_
            exfalso
            omega
          · refine gg_if_ne_f (tgt := 56) dX10_turn_48 (by decide) (by decide) (by decide) ?_
            refine gg_iload dX10_turn_51 0 rfl ?_
            refine gg_if_eq_t (tgt := 68) dX10_turn_53 (by decide) (by decide) (by decide) ?_
            refine gg_bipush dX10_turn_68 (by decide) ?_
            refine gg_ireti dX10_turn_70 rfl ⟨rfl, rfl⟩ ?_
            exact ⟨rfl, rfl⟩
      · refine gg_if_eq_t (tgt := 68) dX10_turn_28 (by decide) (by decide) (by decide) ?_
        refine gg_bipush dX10_turn_68 (by decide) ?_
        refine gg_ireti dX10_turn_70 rfl ⟨rfl, rfl⟩ ?_
        exact ⟨rfl, rfl⟩
    · refine gg_iconst dX10_turn_17 ?_
      refine gg_goto (tgt := 22) dX10_turn_18 (by decide) ?_
      refine gg_istore (ls' := [(4, .int (iv 1)), (0, .ref (gad (gSS ad) 145)), (1, .int (iv i)), (2, .int (iv w)), (3, .int (iv b))]) dX10_turn_22 (by decide) rfl ?_
      refine gg_iload_n dX10_turn_24 2 rfl ?_
      refine gg_callSi (own := RX10) (yt := gm_X10_isFormula) rfl gl_RX10_181 gk_X10_isFormula gr_X10_isFormula dX10_turn_25 (c_X10_isFormula (d := d - 1) (by omega) (by omega)) rfl rfl (Nat.le_of_ble_eq_true rfl) (by show _ ≤ d; omega) ⟨Nat.le_refl _, Nat.le_refl _⟩ (fun e22 μ' hc => ?_)
      obtain ⟨rfl, ⟨rfl, hb23⟩ | ⟨rfl, hb23⟩⟩ := hc
      · refine gg_if_eq_f (tgt := 68) dX10_turn_28 (by decide) (by decide) (by decide) ?_
        refine gg_iload_n dX10_turn_31 3 rfl ?_
        refine gg_iconst dX10_turn_32 ?_
        refine gg_iconst dX10_turn_33 ?_
        refine gg_callSi (own := RX10) (yt := gm_X10_in) rfl gl_RX10_84 gk_X10_in gr_X10_in dX10_turn_34 (c_X10_in (d := d - 1) (by omega)) rfl rfl (Nat.le_of_ble_eq_true rfl) (by show _ ≤ d; omega) ⟨Nat.le_refl _, Nat.le_refl _⟩ (fun e24 μ' hc => ?_)
        obtain ⟨rfl, ⟨rfl, hb25⟩ | ⟨rfl, hb25⟩⟩ := hc
        · refine gg_if_ne_t (tgt := 56) dX10_turn_37 (by decide) (by decide) (by decide) ?_
          refine gg_iload dX10_turn_56 0 rfl ?_
          refine gg_if_eq_f (tgt := 71) dX10_turn_58 (by decide) (by decide) (by decide) ?_
          refine gg_iload_n dX10_turn_61 4 rfl ?_
          refine gg_callSi (own := RX10) (yt := gm_X10_isFormula) rfl gl_RX10_181 gk_X10_isFormula gr_X10_isFormula dX10_turn_62 (c_X10_isFormula (d := d - 1) (by omega) (by omega)) rfl rfl (Nat.le_of_ble_eq_true rfl) (by show _ ≤ d; omega) ⟨Nat.le_refl _, Nat.le_refl _⟩ (fun e26 μ' hc => ?_)
          obtain ⟨rfl, ⟨rfl, hb27⟩ | ⟨rfl, hb27⟩⟩ := hc
          · refine gg_if_ne_t (tgt := 71) dX10_turn_65 (by decide) (by decide) (by decide) ?_
            exfalso
            omega
          · refine gg_if_ne_f (tgt := 71) dX10_turn_65 (by decide) (by decide) (by decide) ?_
            refine gg_bipush dX10_turn_68 (by decide) ?_
            refine gg_ireti dX10_turn_70 rfl ⟨rfl, rfl⟩ ?_
            exact ⟨rfl, rfl⟩
        · refine gg_if_ne_f (tgt := 56) dX10_turn_37 (by decide) (by decide) (by decide) ?_
          refine gg_iload_n dX10_turn_40 3 rfl ?_
          refine gg_bipush dX10_turn_41 (by decide) ?_
          refine gg_bipush dX10_turn_43 (by decide) ?_
          refine gg_callSi (own := RX10) (yt := gm_X10_in) rfl gl_RX10_84 gk_X10_in gr_X10_in dX10_turn_45 (c_X10_in (d := d - 1) (by omega)) rfl rfl (Nat.le_of_ble_eq_true rfl) (by show _ ≤ d; omega) ⟨Nat.le_refl _, Nat.le_refl _⟩ (fun e28 μ' hc => ?_)
          obtain ⟨rfl, ⟨rfl, hb29⟩ | ⟨rfl, hb29⟩⟩ := hc
          · refine gg_if_ne_t (tgt := 56) dX10_turn_48 (by decide) (by decide) (by decide) ?_
            refine gg_iload dX10_turn_56 0 rfl ?_
            refine gg_if_eq_f (tgt := 71) dX10_turn_58 (by decide) (by decide) (by decide) ?_
            refine gg_iload_n dX10_turn_61 4 rfl ?_
            refine gg_callSi (own := RX10) (yt := gm_X10_isFormula) rfl gl_RX10_181 gk_X10_isFormula gr_X10_isFormula dX10_turn_62 (c_X10_isFormula (d := d - 1) (by omega) (by omega)) rfl rfl (Nat.le_of_ble_eq_true rfl) (by show _ ≤ d; omega) ⟨Nat.le_refl _, Nat.le_refl _⟩ (fun e30 μ' hc => ?_)
            obtain ⟨rfl, ⟨rfl, hb31⟩ | ⟨rfl, hb31⟩⟩ := hc
            · refine gg_if_ne_t (tgt := 71) dX10_turn_65 (by decide) (by decide) (by decide) ?_
              exfalso
              omega
            · refine gg_if_ne_f (tgt := 71) dX10_turn_65 (by decide) (by decide) (by decide) ?_
              refine gg_bipush dX10_turn_68 (by decide) ?_
              refine gg_ireti dX10_turn_70 rfl ⟨rfl, rfl⟩ ?_
              exact ⟨rfl, rfl⟩
          · refine gg_if_ne_f (tgt := 56) dX10_turn_48 (by decide) (by decide) (by decide) ?_
            refine gg_iload dX10_turn_51 0 rfl ?_
            refine gg_if_eq_f (tgt := 68) dX10_turn_53 (by decide) (by decide) (by decide) ?_
            refine gg_iload dX10_turn_56 0 rfl ?_
            refine gg_if_eq_f (tgt := 71) dX10_turn_58 (by decide) (by decide) (by decide) ?_
            refine gg_iload_n dX10_turn_61 4 rfl ?_
            refine gg_callSi (own := RX10) (yt := gm_X10_isFormula) rfl gl_RX10_181 gk_X10_isFormula gr_X10_isFormula dX10_turn_62 (c_X10_isFormula (d := d - 1) (by omega) (by omega)) rfl rfl (Nat.le_of_ble_eq_true rfl) (by show _ ≤ d; omega) ⟨Nat.le_refl _, Nat.le_refl _⟩ (fun e32 μ' hc => ?_)
            obtain ⟨rfl, ⟨rfl, hb33⟩ | ⟨rfl, hb33⟩⟩ := hc
            · refine gg_if_ne_t (tgt := 71) dX10_turn_65 (by decide) (by decide) (by decide) ?_
              exfalso
              omega
            · refine gg_if_ne_f (tgt := 71) dX10_turn_65 (by decide) (by decide) (by decide) ?_
              refine gg_bipush dX10_turn_68 (by decide) ?_
              refine gg_ireti dX10_turn_70 rfl ⟨rfl, rfl⟩ ?_
              exact ⟨rfl, rfl⟩
      · refine gg_if_eq_t (tgt := 68) dX10_turn_28 (by decide) (by decide) (by decide) ?_
        refine gg_bipush dX10_turn_68 (by decide) ?_
        refine gg_ireti dX10_turn_70 rfl ⟨rfl, rfl⟩ ?_
        exact ⟨rfl, rfl⟩

