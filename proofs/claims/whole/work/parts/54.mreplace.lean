theorem gRl_le {K : Nat → Nat} {N : Nat → Int64} {nm : Int} {B : gLn} : ∀ (z k : Nat), (gRl K N nm B k).length ≤ (gRl K N nm B (k + z)).length
  | 0, k => Nat.le_refl _
  | z + 1, k => by
    have h := gRl_le (K := K) (N := N) (nm := nm) (B := B) z k
    show _ ≤ (gRl K N nm B (k + z) ++ _).length
    rw [List.length_append]
    omega
set_option maxRecDepth 10000 in
theorem w_X10_replace {l : Launch} {Γ : gC} {ad : Nat → Nat} {I0 : Nat → Nat → Int} {J0 : Nat → Nat → Int64} {d : Nat} {f n : Nat} {K : Nat → Nat} {N : Nat → Int64} {Z : Nat → Nat} (hf : f < 12) (hM : gMt I0 J0 f n K N Z) (hW : gWf n K N Z) {b n' : Nat} {K' : Nat → Nat} {N' : Nat → Int64} {Z' : Nat → Nat} (hb : b < 12) (hM' : gMt I0 J0 b n' K' N' Z') (hW' : gWf n' K' N' Z') (hn0 : 0 < n) (hn0' : 0 < n') {nm : Int} (hd : 2 ≤ d) : ∀ (m : Nat) (k : Nat) (I : Nat → Nat → Int) (J : Nat → Nat → Int64), n - k < m → (k ≤ n) → (gMx I J (gRl K N nm (gSt1 K' N' Z' 0) k)) → (∀ p, p ≠ 145 → p ≠ 187 → I p = I0 p) → (∀ q, q ≠ 5 → q ≠ 6 → I 145 q = I0 145 q) → (∀ p, p ≠ 188 → J p = J0 p) → gG l Γ gm_X10_replace (d, 0, 0, 0, 0) 3 [(4, .int (iv (k : Int))), (0, .ref (gad (gSS ad) 145)), (1, .int (iv (f : Int))), (2, .int (iv nm)), (3, .int (iv (b : Int)))] [] (gSS ad, I, J) (gDv (fun μ => ∃ I1 J1, μ = (gSS ad, I1, J1) ∧ gMx I1 J1 (gRl K N nm (gSt1 K' N' Z' 0) n) ∧ (∀ p, p ≠ 145 → p ≠ 187 → I1 p = I0 p) ∧ (∀ q, q ≠ 5 → q ≠ 6 → I1 145 q = I0 145 q) ∧ (∀ p, p ≠ 188 → J1 p = J0 p))) := by
  intro m
  induction m with
  | zero => intros; omega
  | succ m ih =>
    intro k I J hm hk hx hI hI2 hJ
    have hn := hW.1
    have hn' := hW'.1
    refine gg_iload dX10_replace_3 0 rfl ?_
    refine gg_aload_n dX10_replace_5 1 rfl ?_
    refine gg_getR (k' := 146) rfl gf_RX10_9 dX10_replace_6 sh_145 pl_145 (by decide) (by decide) rr_145_0 ?_
    refine gg_iload_n dX10_replace_9 2 rfl ?_
    refine gg_ialdj f dX10_replace_10 sh_146 pl_146 (by decide) rfl hf ?_
    refine gg_toI (b := (n : Int)) (gMt_d hf hM hI hJ).1 ?_
    refine gg_icmp_ge (tgt := 86) dX10_replace_11 (by decide) (by omega) (fun hb1 => ?_) (fun hb1 => ?_)
    · have hke : k = n := by omega
      subst hke
      refine gg_vretv dX10_replace_86 rfl ⟨rfl, rfl⟩ ?_
      first | exact ⟨I, J, rfl, hx, hI, hI2, hJ⟩ | exact ⟨I, J, rfl, (hx.elim (fun h => absurd h.2.1 (by omega)) (fun h => Or.inr ⟨by have e := gRl_le (K := K) (N := N) (nm := nm) (B := (gSt1 K' N' Z' 0)) (n - k) k; rw [show k + (n - k) = n by omega] at e; omega, h.2⟩)), hI, hI2, hJ⟩
    · have hkl : k < n := by omega
      refine gg_aload_n dX10_replace_14 1 rfl ?_
      have hov : I 145 6 = 0 ∨ (200 < (gRl K N nm (gSt1 K' N' Z' 0) k).length ∧ I 145 6 = 1 ∧ 0 ≤ I 145 5 ∧ I 145 5 ≤ 200) := hx.imp (fun h => h.2.2.1) id
      obtain ⟨ov, hove⟩ : ∃ ov : Int, I 145 6 = ov := ⟨_, rfl⟩
      rw [hove] at hov
      refine gg_getI rfl gf_RX10_94 dX10_replace_15 sh_145 pl_145 (by decide) (by decide) ?_
      refine gg_toI (b := ov) hove ?_
      refine gg_if_ne (tgt := 86) dX10_replace_18 (by decide) (by omega) (fun hb2 => ?_) (fun hb2 => ?_)
      · have h200 : 200 < (gRl K N nm (gSt1 K' N' Z' 0) k).length := by rcases hov with h | h <;> omega
        refine gg_vretv dX10_replace_86 rfl ⟨rfl, rfl⟩ ?_
        first | exact ⟨I, J, rfl, hx, hI, hI2, hJ⟩ | exact ⟨I, J, rfl, (hx.elim (fun h => absurd h.2.1 (by omega)) (fun h => Or.inr ⟨by have e := gRl_le (K := K) (N := N) (nm := nm) (B := (gSt1 K' N' Z' 0)) (n - k) k; rw [show k + (n - k) = n by omega] at e; omega, h.2⟩)), hI, hI2, hJ⟩
      · refine gg_aload_n dX10_replace_21 1 rfl ?_
        refine gg_getR (k' := 147) rfl gf_RX10_15 dX10_replace_22 sh_145 pl_145 (by decide) (by decide) rr_145_1 ?_
        refine gg_iload_n dX10_replace_25 2 rfl ?_
        refine gg_aaldj (t := 6) f (k' := (148 + f)) dX10_replace_26 sh_147 (by decide) pl_147 (by decide) rfl hf (rr_147 hf) ?_
        refine gg_iload dX10_replace_27 0 rfl ?_
        refine gg_ialdj k dX10_replace_29 (rs_147 hf) (rl_147 hf) (by decide) rfl (by omega) ?_
        refine gg_toI (b := (K k : Int)) ((gMt_d hf hM hI hJ).2 k (by omega)).1 ?_
        refine gg_iconst dX10_replace_30 ?_
        refine gg_icmp_ne (tgt := 58) dX10_replace_31 (by decide) (by have := (hW.2.2 k hkl).1; omega) (fun hx1 => ?_) (fun hx1 => ?_)
        · have hnot : ¬ (K k = 1 ∧ N k = gi2l nm) := fun h => by omega
          refine gg_aload_n dX10_replace_58 1 rfl ?_
          refine gg_aload_n dX10_replace_59 1 rfl ?_
          refine gg_getR (k' := 147) rfl gf_RX10_15 dX10_replace_60 sh_145 pl_145 (by decide) (by decide) rr_145_1 ?_
          refine gg_iload_n dX10_replace_63 2 rfl ?_
          refine gg_aaldj (t := 6) f (k' := (148 + f)) dX10_replace_64 sh_147 (by decide) pl_147 (by decide) rfl hf (rr_147 hf) ?_
          refine gg_iload dX10_replace_65 0 rfl ?_
          refine gg_ialdj k dX10_replace_67 (rs_147 hf) (rl_147 hf) (by decide) rfl (by omega) ?_
          refine gg_toI (b := (K k : Int)) ((gMt_d hf hM hI hJ).2 k (by omega)).1 ?_
          refine gg_aload_n dX10_replace_68 1 rfl ?_
          refine gg_getR (k' := 160) rfl gf_RX10_20 dX10_replace_69 sh_145 pl_145 (by decide) (by decide) rr_145_2 ?_
          refine gg_iload_n dX10_replace_72 2 rfl ?_
          refine gg_aaldj (t := 7) f (k' := (161 + f)) dX10_replace_73 sh_160 (by decide) pl_160 (by decide) rfl hf (rr_160 hf) ?_
          refine gg_iload dX10_replace_74 0 rfl ?_
          refine gg_laldj k dX10_replace_76 (rs_160 hf) (rl_160 hf) (by decide) rfl (by omega) ?_
          refine gg_toL (b := N k) ((gMt_d hf hM hI hJ).2 k (by omega)).2.1 ?_
          refine gg_callVv (own := RX10) (yt := gm_X10_put) rfl gl_RX10_102 gk_X10_put gr_X10_put dX10_replace_77 (c_X10_put (d := d - 1) (k := K k) (x := N k) hx) sh_145 pl_145 (by decide) rfl rfl rfl (Nat.le_of_ble_eq_true rfl) (by show _ ≤ d; omega) ⟨Nat.le_refl _, Nat.le_refl _⟩ (fun μ' hc => ?_)
          obtain ⟨I2, J2, rfl, m2, fa2, fb2, fc2⟩ := hc
          refine gg_iincv (ls' := [(4, .int (iv ((k + 1 : Nat) : Int))), (0, .ref (gad (gSS ad) 145)), (1, .int (iv (f : Int))), (2, .int (iv nm)), (3, .int (iv (b : Int)))]) dX10_replace_80 0 rfl (by omega) (by decide) rfl ?_
          refine gg_goto (tgt := 3) dX10_replace_83 (by decide) ?_
          have es : (gRl K N nm (gSt1 K' N' Z' 0) (k + 1)) = (gRl K N nm (gSt1 K' N' Z' 0) k) ++ (if K k = 1 ∧ N k = gi2l nm then (gSt1 K' N' Z' 0) else [(K k, N k)]) := rfl
          rw [if_neg hnot] at es
          refine ih (k + 1) I2 J2 (by omega) (by omega) (by rw [es]; exact m2) (fun p a b => (fa2 p a b).trans (hI p a b)) (fun q a b => (fb2 q a b).trans (hI2 q a b)) (fun p a => (fc2 p a).trans (hJ p a))
        · refine gg_aload_n dX10_replace_34 1 rfl ?_
          refine gg_getR (k' := 160) rfl gf_RX10_20 dX10_replace_35 sh_145 pl_145 (by decide) (by decide) rr_145_2 ?_
          refine gg_iload_n dX10_replace_38 2 rfl ?_
          refine gg_aaldj (t := 7) f (k' := (161 + f)) dX10_replace_39 sh_160 (by decide) pl_160 (by decide) rfl hf (rr_160 hf) ?_
          refine gg_iload dX10_replace_40 0 rfl ?_
          refine gg_laldj k dX10_replace_42 (rs_160 hf) (rl_160 hf) (by decide) rfl (by omega) ?_
          refine gg_toL (b := N k) ((gMt_d hf hM hI hJ).2 k (by omega)).2.1 ?_
          refine gg_iload_n dX10_replace_43 3 rfl ?_
          refine gg_i2l dX10_replace_44 ?_
          refine gg_lcmp_ne (tgt := 58) dX10_replace_45 dX10_replace_46 (by decide) (fun hq => ?_) (fun hq => ?_)
          · have hnot : ¬ (K k = 1 ∧ N k = gi2l nm) := fun h => hq h.2
            refine gg_aload_n dX10_replace_58 1 rfl ?_
            refine gg_aload_n dX10_replace_59 1 rfl ?_
            refine gg_getR (k' := 147) rfl gf_RX10_15 dX10_replace_60 sh_145 pl_145 (by decide) (by decide) rr_145_1 ?_
            refine gg_iload_n dX10_replace_63 2 rfl ?_
            refine gg_aaldj (t := 6) f (k' := (148 + f)) dX10_replace_64 sh_147 (by decide) pl_147 (by decide) rfl hf (rr_147 hf) ?_
            refine gg_iload dX10_replace_65 0 rfl ?_
            refine gg_ialdj k dX10_replace_67 (rs_147 hf) (rl_147 hf) (by decide) rfl (by omega) ?_
            refine gg_toI (b := (K k : Int)) ((gMt_d hf hM hI hJ).2 k (by omega)).1 ?_
            refine gg_aload_n dX10_replace_68 1 rfl ?_
            refine gg_getR (k' := 160) rfl gf_RX10_20 dX10_replace_69 sh_145 pl_145 (by decide) (by decide) rr_145_2 ?_
            refine gg_iload_n dX10_replace_72 2 rfl ?_
            refine gg_aaldj (t := 7) f (k' := (161 + f)) dX10_replace_73 sh_160 (by decide) pl_160 (by decide) rfl hf (rr_160 hf) ?_
            refine gg_iload dX10_replace_74 0 rfl ?_
            refine gg_laldj k dX10_replace_76 (rs_160 hf) (rl_160 hf) (by decide) rfl (by omega) ?_
            refine gg_toL (b := N k) ((gMt_d hf hM hI hJ).2 k (by omega)).2.1 ?_
            refine gg_callVv (own := RX10) (yt := gm_X10_put) rfl gl_RX10_102 gk_X10_put gr_X10_put dX10_replace_77 (c_X10_put (d := d - 1) (k := K k) (x := N k) hx) sh_145 pl_145 (by decide) rfl rfl rfl (Nat.le_of_ble_eq_true rfl) (by show _ ≤ d; omega) ⟨Nat.le_refl _, Nat.le_refl _⟩ (fun μ' hc => ?_)
            obtain ⟨I2, J2, rfl, m2, fa2, fb2, fc2⟩ := hc
            refine gg_iincv (ls' := [(4, .int (iv ((k + 1 : Nat) : Int))), (0, .ref (gad (gSS ad) 145)), (1, .int (iv (f : Int))), (2, .int (iv nm)), (3, .int (iv (b : Int)))]) dX10_replace_80 0 rfl (by omega) (by decide) rfl ?_
            refine gg_goto (tgt := 3) dX10_replace_83 (by decide) ?_
            have es : (gRl K N nm (gSt1 K' N' Z' 0) (k + 1)) = (gRl K N nm (gSt1 K' N' Z' 0) k) ++ (if K k = 1 ∧ N k = gi2l nm then (gSt1 K' N' Z' 0) else [(K k, N k)]) := rfl
            rw [if_neg hnot] at es
            refine ih (k + 1) I2 J2 (by omega) (by omega) (by rw [es]; exact m2) (fun p a b => (fa2 p a b).trans (hI p a b)) (fun q a b => (fb2 q a b).trans (hI2 q a b)) (fun p a => (fc2 p a).trans (hJ p a))
          · refine gg_aload_n dX10_replace_49 1 rfl ?_
            refine gg_iload_n dX10_replace_50 4 rfl ?_
            refine gg_iconst dX10_replace_51 ?_
            refine gg_callVv (own := RX10) (yt := gm_X10_again) rfl gl_RX10_230 gk_X10_again gr_X10_again dX10_replace_52 (c_X10_again (d := d - 1) hb (gMt_d hb hM' hI hJ) hW' (s := 0) hn0' hx (by omega)) sh_145 pl_145 (by decide) rfl rfl rfl (Nat.le_of_ble_eq_true rfl) (by show _ ≤ d; omega) ⟨Nat.le_refl _, Nat.le_refl _⟩ (fun μ' hc => ?_)
            obtain ⟨I1, J1, rfl, m1, fa1, fb1, fc1⟩ := hc
            refine gg_goto (tgt := 80) dX10_replace_55 (by decide) ?_
            refine gg_iincv (ls' := [(4, .int (iv ((k + 1 : Nat) : Int))), (0, .ref (gad (gSS ad) 145)), (1, .int (iv (f : Int))), (2, .int (iv nm)), (3, .int (iv (b : Int)))]) dX10_replace_80 0 rfl (by omega) (by decide) rfl ?_
            refine gg_goto (tgt := 3) dX10_replace_83 (by decide) ?_
            have es : (gRl K N nm (gSt1 K' N' Z' 0) (k + 1)) = (gRl K N nm (gSt1 K' N' Z' 0) k) ++ (if K k = 1 ∧ N k = gi2l nm then (gSt1 K' N' Z' 0) else [(K k, N k)]) := rfl
            rw [if_pos ⟨by omega, hq⟩] at es
            refine ih (k + 1) I1 J1 (by omega) (by omega) (by rw [es]; exact m1) (fun p a b => (fa1 p a b).trans (hI p a b)) (fun q a b => (fb1 q a b).trans (hI2 q a b)) (fun p a => (fc1 p a).trans (hJ p a))

set_option maxRecDepth 10000 in
theorem c_X10_replace {l : Launch} {Γ : gC} {ad : Nat → Nat} {I : Nat → Nat → Int} {J : Nat → Nat → Int64} {d : Nat} {f n : Nat} {K : Nat → Nat} {N : Nat → Int64} {Z : Nat → Nat} (hf : f < 12) (hM : gMt I J f n K N Z) (hW : gWf n K N Z) {b n' : Nat} {K' : Nat → Nat} {N' : Nat → Int64} {Z' : Nat → Nat} (hb : b < 12) (hM' : gMt I J b n' K' N' Z') (hW' : gWf n' K' N' Z') (hn0 : 0 < n) (hn0' : 0 < n') {nm : Int} (hx : gMx I J []) (hd : 2 ≤ d) : gKv l Γ gm_X10_replace d [.ref (gad (gSS ad) 145), .int (iv (f : Int)), .int (iv nm), .int (iv (b : Int))] (gSS ad, I, J) (fun μ => ∃ I1 J1, μ = (gSS ad, I1, J1) ∧ gMx I1 J1 ((gRp n nm (gSt1 K' N' Z' 0) K N Z) 0) ∧ (∀ p, p ≠ 145 → p ≠ 187 → I1 p = I p) ∧ (∀ q, q ≠ 5 → q ≠ 6 → I1 145 q = I 145 q) ∧ (∀ p, p ≠ 188 → J1 p = J p)) := by
  refine gKv_of gk_X10_replace.1 (Nat.le_of_ble_eq_true rfl) ?_
  show gG l Γ gm_X10_replace (d, 0, 0, 0, 0) 0 [(0, .ref (gad (gSS ad) 145)), (1, .int (iv (f : Int))), (2, .int (iv nm)), (3, .int (iv (b : Int)))] [] _ _
  refine gg_iconst dX10_replace_0 ?_
  refine gg_istore (ls' := [(4, .int (iv 0)), (0, .ref (gad (gSS ad) 145)), (1, .int (iv (f : Int))), (2, .int (iv nm)), (3, .int (iv (b : Int)))]) dX10_replace_1 (by decide) rfl ?_
  have hzn := hW.2.1 hn0
  have e := gRl_tree (nm := nm) (B := (gSt1 K' N' Z' 0)) hW 0 hn0
  rw [Nat.zero_add, hzn] at e
  have e2 : (gRp n nm (gSt1 K' N' Z' 0) K N Z) 0 = (gRl K N nm (gSt1 K' N' Z' 0) n) := by rw [e]; show _ = [] ++ _; rw [List.nil_append]
  rw [e2]
  refine gg_sub [0, 1, 2, 3, 4] rfl ?_
  exact w_X10_replace hf hM hW hb hM' hW' hn0 hn0' hd (n + 1) 0 I J (by omega) (Nat.zero_le _) hx (fun _ _ _ => rfl) (fun _ _ _ => rfl) (fun _ _ => rfl)

