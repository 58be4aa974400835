/-! alike on both sides -/
/-- what 'alike' tells: e of (f, g, w) -/
def gAk (n n' : Nat) (K : Nat → Nat) (N : Nat → Int64) (Z : Nat → Nat) (K' : Nat → Nat) (N' : Nat → Int64) (Z' : Nat → Nat) (w : Nat) (e : Int) : Prop :=
  ((n = 0 ∨ (¬ w = 2 ∧ n' = 0)) ∧ e = -3) ∨ (¬ (n = 0 ∨ (¬ w = 2 ∧ n' = 0)) ∧ ((w = 0 ∧ ((gAl K N Z 0 K' N' Z' 0 ∧ e = 1) ∨ (¬ gAl K N Z 0 K' N' Z' 0 ∧ e = 0))) ∨ (w = 1 ∧ ∃ mo : Nat, e = (mo : Int) ∧ gShv n n' K N Z K' N' Z' n mo) ∨ (w = 2 ∧ e = (gUnl K N Z n : Int))))
theorem gAk_uni {n n' : Nat} {K : Nat → Nat} {N : Nat → Int64} {Z : Nat → Nat} {K' : Nat → Nat} {N' : Nat → Int64} {Z' : Nat → Nat} {w : Nat} {e e' : Int} (h : gAk n n' K N Z K' N' Z' w e) (h' : gAk n n' K N Z K' N' Z' w e') : e = e' := by
  unfold gAk at h h'
  rcases h with ⟨a, b⟩ | ⟨a, b⟩ <;> rcases h' with ⟨a', b'⟩ | ⟨a', b'⟩
  · omega
  · exact absurd a a'
  · exact absurd a' a
  · rcases b with ⟨c, d⟩ | ⟨c, mo, d, g⟩ | ⟨c, d⟩ <;> rcases b' with ⟨c', d'⟩ | ⟨c', mo', d', g'⟩ | ⟨c', d'⟩ <;> try omega
    · rcases d with ⟨u, v⟩ | ⟨u, v⟩ <;> rcases d' with ⟨u', v'⟩ | ⟨u', v'⟩
      · omega
      · exact absurd u u'
      · exact absurd u' u
      · omega
    · have := gShv_uni g g'
      omega
set_option maxRecDepth 10000 in
theorem c_X9_alike {l : Launch} {Γ : gC} {ad : Nat → Nat} {I : Nat → Nat → Int} {J : Nat → Nat → Int64} {d : Nat} {f g n n' : Nat} {K K' : Nat → Nat} {N N' : Nat → Int64} {Z Z' : Nat → Nat} (hf : f < 12) (hA : gAt I J (41 + 8 * f) n K N Z) (hW : gWf n K N Z) (hg : g < 12) (hA' : gAt I J (41 + 8 * g) n' K' N' Z') (hW' : gWf n' K' N' Z') {w : Nat} (hw : w ≤ 2) (hd : 5 ≤ d) : gKi l Γ gm_X9_alike d [.ref (gad (gSS ad) 0), .int (iv (f : Int)), .int (iv (g : Int)), .int (iv (w : Int))] (gSS ad, I, J) (fun e μ => μ = (gSS ad, I, J) ∧ gAk n n' K N Z K' N' Z' w e) := by
  refine gKi_of gk_X9_alike.1 (Nat.le_of_ble_eq_true rfl) ?_
  show gG l Γ gm_X9_alike (d, 0, 0, 0, 0) 0 [(0, .ref (gad (gSS ad) 0)), (1, .int (iv (f : Int))), (2, .int (iv (g : Int))), (3, .int (iv (w : Int)))] [] _ _
  refine gg_iload_n dX9_alike_0 1 rfl ?_
  refine gg_callSi (own := RX9) (yt := gm_X9_isFormula) rfl gl_RX9_106 gk_X9_isFormula gr_X9_isFormula dX9_alike_1 (c_X9_isFormula (d := d - 1) (by omega)) rfl rfl (Nat.le_of_ble_eq_true rfl) (by show _ ≤ d; omega) ⟨Nat.le_refl _, Nat.le_refl _⟩ (fun e1 μ' hc => ?_)
  obtain ⟨rfl, ⟨rfl, hb2⟩ | ⟨rfl, hb2⟩⟩ := hc
  rotate_left
  · omega
  refine gg_if_eq_f (tgt := 23) dX9_alike_4 (by decide) (by decide) (by decide) ?_
  refine gg_iload_n dX9_alike_7 2 rfl ?_
  refine gg_callSi (own := RX9) (yt := gm_X9_isFormula) rfl gl_RX9_106 gk_X9_isFormula gr_X9_isFormula dX9_alike_8 (c_X9_isFormula (d := d - 1) (by omega)) rfl rfl (Nat.le_of_ble_eq_true rfl) (by show _ ≤ d; omega) ⟨Nat.le_refl _, Nat.le_refl _⟩ (fun e3 μ' hc => ?_)
  obtain ⟨rfl, ⟨rfl, hb4⟩ | ⟨rfl, hb4⟩⟩ := hc
  rotate_left
  · omega
  refine gg_if_eq_f (tgt := 23) dX9_alike_11 (by decide) (by decide) (by decide) ?_
  refine gg_iload_n dX9_alike_14 3 rfl ?_
  refine gg_if_lt_f (tgt := 23) dX9_alike_15 (by decide) (by omega) (by omega) ?_
  refine gg_iload_n dX9_alike_18 3 rfl ?_
  refine gg_iconst dX9_alike_19 ?_
  refine gg_icmp_le_t (tgt := 26) dX9_alike_20 (by decide) (by omega) (by omega) ?_
  refine gg_aload_n dX9_alike_26 0 rfl ?_
  refine gg_getR (k' := 1) rfl gf_RX9_11 dX9_alike_27 sh_0 pl_0 (by decide) (by decide) rr_0_0 ?_
  refine gg_iload_n dX9_alike_30 1 rfl ?_
  refine gg_aaldj (t := 4) f (k' := (41 + 8 * f)) dX9_alike_31 sh_1 (by decide) pl_1 (by decide) rfl hf (rr_1 hf) ?_
  refine gg_astore (ls' := [(4, .ref (gad (gSS ad) (41 + 8 * f))), (0, .ref (gad (gSS ad) 0)), (1, .int (iv (f : Int))), (2, .int (iv (g : Int))), (3, .int (iv (w : Int)))]) dX9_alike_32 (by decide) rfl ?_
  refine gg_aload_n dX9_alike_34 1 rfl ?_
  refine gg_getR (k' := 1) rfl gf_RX9_11 dX9_alike_35 sh_0 pl_0 (by decide) (by decide) rr_0_0 ?_
  refine gg_iload_n dX9_alike_38 3 rfl ?_
  refine gg_aaldj (t := 4) g (k' := (41 + 8 * g)) dX9_alike_39 sh_1 (by decide) pl_1 (by decide) rfl hg (rr_1 hg) ?_
  refine gg_astore (ls' := [(5, .ref (gad (gSS ad) (41 + 8 * g))), (4, .ref (gad (gSS ad) (41 + 8 * f))), (0, .ref (gad (gSS ad) 0)), (1, .int (iv (f : Int))), (2, .int (iv (g : Int))), (3, .int (iv (w : Int)))]) dX9_alike_40 (by decide) rfl ?_
  refine gg_aload dX9_alike_42 1 rfl ?_
  refine gg_callVi (own := RX9) (yt := gm_X1_isEmpty) rfl gl_RX9_128 gk_X1_isEmpty gr_X1_isEmpty dX9_alike_44 (c_X1_isEmpty (d := d - 1) (gF_fo f hf) hA hW.1) (gFsh (gF_fo f hf)) (gFlt (gF_fo f hf)) (by decide) rfl rfl rfl (Nat.le_of_ble_eq_true rfl) (by show _ ≤ d; omega) ⟨Nat.le_refl _, Nat.le_refl _⟩ (fun e5 μ' hc => ?_)
  obtain ⟨rfl, ⟨rfl, hn0⟩ | ⟨rfl, hn0⟩⟩ := hc
  · refine gg_if_ne_t (tgt := 63) dX9_alike_47 (by decide) (by decide) (by decide) ?_
    refine gg_bipush dX9_alike_63 (by decide) ?_
    refine gg_ireti dX9_alike_65 rfl ⟨rfl, rfl⟩ ?_
    refine ⟨rfl, ?_⟩
    unfold gAk
    first | (left; refine ⟨?_, rfl⟩; omega) | (right; refine ⟨by omega, ?_⟩; first | (left; exact ⟨by omega, Or.inl ⟨hal, rfl⟩⟩) | (left; exact ⟨by omega, Or.inr ⟨hal, rfl⟩⟩) | (right; left; exact ⟨by omega, mo, rfl, hmo⟩) | (right; right; exact ⟨by omega, rfl⟩))
  · refine gg_if_ne_f (tgt := 63) dX9_alike_47 (by decide) (by decide) (by decide) ?_
    refine gg_iload_n dX9_alike_50 5 rfl ?_
    refine gg_iconst dX9_alike_51 ?_
    refine gg_icmp_eq (tgt := 66) dX9_alike_52 (by decide) (by omega) (fun hb6 => ?_) (fun hb6 => ?_)
    · refine gg_iload_n dX9_alike_66 5 rfl ?_
      refine gg_if_ne (tgt := 88) dX9_alike_67 (by decide) (by omega) (fun hb7 => ?_) (fun hb7 => ?_)
      · refine gg_iload_n dX9_alike_88 5 rfl ?_
        refine gg_iconst dX9_alike_89 ?_
        refine gg_icmp_ne (tgt := 103) dX9_alike_90 (by decide) (by omega) (fun hb8 => ?_) (fun hb8 => ?_)
        · refine gg_aload dX9_alike_103 1 rfl ?_
          refine gg_callSi (own := RX9) (yt := gm_X9_unlikeOf) rfl gl_RX9_220 gk_X9_unlikeOf gr_X9_unlikeOf dX9_alike_105 (c_X9_unlikeOf (d := d - 1) (gF_fo f hf) hA hW (by omega)) rfl rfl (Nat.le_of_ble_eq_true rfl) (by show _ ≤ d; omega) ⟨Nat.le_refl _, Nat.le_refl _⟩ (fun e9 μ' hc => ?_)
          obtain ⟨rfl, rfl⟩ := hc
          refine gg_ireti dX9_alike_108 rfl ⟨rfl, rfl⟩ ?_
          refine ⟨rfl, ?_⟩
          unfold gAk
          first | (left; refine ⟨?_, rfl⟩; omega) | (right; refine ⟨by omega, ?_⟩; first | (left; exact ⟨by omega, Or.inl ⟨hal, rfl⟩⟩) | (left; exact ⟨by omega, Or.inr ⟨hal, rfl⟩⟩) | (right; left; exact ⟨by omega, mo, rfl, hmo⟩) | (right; right; exact ⟨by omega, rfl⟩))
        · refine gg_aload dX9_alike_93 1 rfl ?_
          refine gg_aload dX9_alike_95 0 rfl ?_
          refine gg_callSi (own := RX9) (yt := gm_X9_sharedBy) rfl gl_RX9_216 gk_X9_sharedBy gr_X9_sharedBy dX9_alike_97 (c_X9_sharedBy (d := d - 1) (gF_fo f hf) hA hW (gF_fo g hg) hA' hW' (by omega)) rfl rfl (Nat.le_of_ble_eq_true rfl) (by show _ ≤ d; omega) ⟨Nat.le_refl _, Nat.le_refl _⟩ (fun e10 μ' hc => ?_)
          obtain ⟨rfl, mo, rfl, hmo0, hmo⟩ := hc
          refine gg_goto (tgt := 108) dX9_alike_100 (by decide) ?_
          refine gg_ireti dX9_alike_108 rfl ⟨rfl, rfl⟩ ?_
          refine ⟨rfl, ?_⟩
          unfold gAk
          first | (left; refine ⟨?_, rfl⟩; omega) | (right; refine ⟨by omega, ?_⟩; first | (left; exact ⟨by omega, Or.inl ⟨hal, rfl⟩⟩) | (left; exact ⟨by omega, Or.inr ⟨hal, rfl⟩⟩) | (right; left; exact ⟨by omega, mo, rfl, hmo⟩) | (right; right; exact ⟨by omega, rfl⟩))
      · refine gg_aload dX9_alike_70 1 rfl ?_
        refine gg_iconst dX9_alike_72 ?_
        refine gg_aload dX9_alike_73 0 rfl ?_
        refine gg_iconst dX9_alike_75 ?_
        refine gg_callVi (own := RX9) (yt := gm_X1_isAlike) rfl gl_RX9_212 gk_X1_isAlike gr_X1_isAlike dX9_alike_76 (c_X1_isAlike (d := d - 1) (gF_fo f hf) hA hW (gF_fo g hg) hA' hW' (i := 0) (j := 0) (by omega) (by omega) (by omega)) (gFsh (gF_fo f hf)) (gFlt (gF_fo f hf)) (by decide) rfl rfl rfl (Nat.le_of_ble_eq_true rfl) (by show _ ≤ d; omega) ⟨Nat.le_refl _, Nat.le_refl _⟩ (fun e11 μ' hc => ?_)
        obtain ⟨rfl, ⟨rfl, hal⟩ | ⟨rfl, hal⟩⟩ := hc
        · refine gg_if_eq_f (tgt := 86) dX9_alike_79 (by decide) (by decide) (by decide) ?_
          refine gg_iconst dX9_alike_82 ?_
          refine gg_goto (tgt := 87) dX9_alike_83 (by decide) ?_
          refine gg_ireti dX9_alike_87 rfl ⟨rfl, rfl⟩ ?_
          refine ⟨rfl, ?_⟩
          unfold gAk
          first | (left; refine ⟨?_, rfl⟩; omega) | (right; refine ⟨by omega, ?_⟩; first | (left; exact ⟨by omega, Or.inl ⟨hal, rfl⟩⟩) | (left; exact ⟨by omega, Or.inr ⟨hal, rfl⟩⟩) | (right; left; exact ⟨by omega, mo, rfl, hmo⟩) | (right; right; exact ⟨by omega, rfl⟩))
        · refine gg_if_eq_t (tgt := 86) dX9_alike_79 (by decide) (by decide) (by decide) ?_
          refine gg_iconst dX9_alike_86 ?_
          refine gg_ireti dX9_alike_87 rfl ⟨rfl, rfl⟩ ?_
          refine ⟨rfl, ?_⟩
          unfold gAk
          first | (left; refine ⟨?_, rfl⟩; omega) | (right; refine ⟨by omega, ?_⟩; first | (left; exact ⟨by omega, Or.inl ⟨hal, rfl⟩⟩) | (left; exact ⟨by omega, Or.inr ⟨hal, rfl⟩⟩) | (right; left; exact ⟨by omega, mo, rfl, hmo⟩) | (right; right; exact ⟨by omega, rfl⟩))
    · refine gg_aload dX9_alike_55 0 rfl ?_
      refine gg_callVi (own := RX9) (yt := gm_X1_isEmpty) rfl gl_RX9_128 gk_X1_isEmpty gr_X1_isEmpty dX9_alike_57 (c_X1_isEmpty (d := d - 1) (gF_fo g hg) hA' hW'.1) (gFsh (gF_fo g hg)) (gFlt (gF_fo g hg)) (by decide) rfl rfl rfl (Nat.le_of_ble_eq_true rfl) (by show _ ≤ d; omega) ⟨Nat.le_refl _, Nat.le_refl _⟩ (fun e12 μ' hc => ?_)
      obtain ⟨rfl, ⟨rfl, hn1⟩ | ⟨rfl, hn1⟩⟩ := hc
      · refine gg_if_eq_f (tgt := 66) dX9_alike_60 (by decide) (by decide) (by decide) ?_
        refine gg_bipush dX9_alike_63 (by decide) ?_
        refine gg_ireti dX9_alike_65 rfl ⟨rfl, rfl⟩ ?_
        refine ⟨rfl, ?_⟩
        unfold gAk
        first | (left; refine ⟨?_, rfl⟩; omega) | (right; refine ⟨by omega, ?_⟩; first | (left; exact ⟨by omega, Or.inl ⟨hal, rfl⟩⟩) | (left; exact ⟨by omega, Or.inr ⟨hal, rfl⟩⟩) | (right; left; exact ⟨by omega, mo, rfl, hmo⟩) | (right; right; exact ⟨by omega, rfl⟩))
      · refine gg_if_eq_t (tgt := 66) dX9_alike_60 (by decide) (by decide) (by decide) ?_
        refine gg_iload_n dX9_alike_66 5 rfl ?_
        refine gg_if_ne (tgt := 88) dX9_alike_67 (by decide) (by omega) (fun hb13 => ?_) (fun hb13 => ?_)
        · refine gg_iload_n dX9_alike_88 5 rfl ?_
          refine gg_iconst dX9_alike_89 ?_
          refine gg_icmp_ne (tgt := 103) dX9_alike_90 (by decide) (by omega) (fun hb14 => ?_) (fun hb14 => ?_)
          · refine gg_aload dX9_alike_103 1 rfl ?_
            refine gg_callSi (own := RX9) (yt := gm_X9_unlikeOf) rfl gl_RX9_220 gk_X9_unlikeOf gr_X9_unlikeOf dX9_alike_105 (c_X9_unlikeOf (d := d - 1) (gF_fo f hf) hA hW (by omega)) rfl rfl (Nat.le_of_ble_eq_true rfl) (by show _ ≤ d; omega) ⟨Nat.le_refl _, Nat.le_refl _⟩ (fun e15 μ' hc => ?_)
            obtain ⟨rfl, rfl⟩ := hc
            refine gg_ireti dX9_alike_108 rfl ⟨rfl, rfl⟩ ?_
            refine ⟨rfl, ?_⟩
            unfold gAk
            first | (left; refine ⟨?_, rfl⟩; omega) | (right; refine ⟨by omega, ?_⟩; first | (left; exact ⟨by omega, Or.inl ⟨hal, rfl⟩⟩) | (left; exact ⟨by omega, Or.inr ⟨hal, rfl⟩⟩) | (right; left; exact ⟨by omega, mo, rfl, hmo⟩) | (right; right; exact ⟨by omega, rfl⟩))
          · refine gg_aload dX9_alike_93 1 rfl ?_
            refine gg_aload dX9_alike_95 0 rfl ?_
            refine gg_callSi (own := RX9) (yt := gm_X9_sharedBy) rfl gl_RX9_216 gk_X9_sharedBy gr_X9_sharedBy dX9_alike_97 (c_X9_sharedBy (d := d - 1) (gF_fo f hf) hA hW (gF_fo g hg) hA' hW' (by omega)) rfl rfl (Nat.le_of_ble_eq_true rfl) (by show _ ≤ d; omega) ⟨Nat.le_refl _, Nat.le_refl _⟩ (fun e16 μ' hc => ?_)
            obtain ⟨rfl, mo, rfl, hmo0, hmo⟩ := hc
            refine gg_goto (tgt := 108) dX9_alike_100 (by decide) ?_
            refine gg_ireti dX9_alike_108 rfl ⟨rfl, rfl⟩ ?_
            refine ⟨rfl, ?_⟩
            unfold gAk
            first | (left; refine ⟨?_, rfl⟩; omega) | (right; refine ⟨by omega, ?_⟩; first | (left; exact ⟨by omega, Or.inl ⟨hal, rfl⟩⟩) | (left; exact ⟨by omega, Or.inr ⟨hal, rfl⟩⟩) | (right; left; exact ⟨by omega, mo, rfl, hmo⟩) | (right; right; exact ⟨by omega, rfl⟩))
        · refine gg_aload dX9_alike_70 1 rfl ?_
          refine gg_iconst dX9_alike_72 ?_
          refine gg_aload dX9_alike_73 0 rfl ?_
          refine gg_iconst dX9_alike_75 ?_
          refine gg_callVi (own := RX9) (yt := gm_X1_isAlike) rfl gl_RX9_212 gk_X1_isAlike gr_X1_isAlike dX9_alike_76 (c_X1_isAlike (d := d - 1) (gF_fo f hf) hA hW (gF_fo g hg) hA' hW' (i := 0) (j := 0) (by omega) (by omega) (by omega)) (gFsh (gF_fo f hf)) (gFlt (gF_fo f hf)) (by decide) rfl rfl rfl (Nat.le_of_ble_eq_true rfl) (by show _ ≤ d; omega) ⟨Nat.le_refl _, Nat.le_refl _⟩ (fun e17 μ' hc => ?_)
          obtain ⟨rfl, ⟨rfl, hal⟩ | ⟨rfl, hal⟩⟩ := hc
          · refine gg_if_eq_f (tgt := 86) dX9_alike_79 (by decide) (by decide) (by decide) ?_
            refine gg_iconst dX9_alike_82 ?_
            refine gg_goto (tgt := 87) dX9_alike_83 (by decide) ?_
            refine gg_ireti dX9_alike_87 rfl ⟨rfl, rfl⟩ ?_
            refine ⟨rfl, ?_⟩
            unfold gAk
            first | (left; refine ⟨?_, rfl⟩; omega) | (right; refine ⟨by omega, ?_⟩; first | (left; exact ⟨by omega, Or.inl ⟨hal, rfl⟩⟩) | (left; exact ⟨by omega, Or.inr ⟨hal, rfl⟩⟩) | (right; left; exact ⟨by omega, mo, rfl, hmo⟩) | (right; right; exact ⟨by omega, rfl⟩))
          · refine gg_if_eq_t (tgt := 86) dX9_alike_79 (by decide) (by decide) (by decide) ?_
            refine gg_iconst dX9_alike_86 ?_
            refine gg_ireti dX9_alike_87 rfl ⟨rfl, rfl⟩ ?_
            refine ⟨rfl, ?_⟩
            unfold gAk
            first | (left; refine ⟨?_, rfl⟩; omega) | (right; refine ⟨by omega, ?_⟩; first | (left; exact ⟨by omega, Or.inl ⟨hal, rfl⟩⟩) | (left; exact ⟨by omega, Or.inr ⟨hal, rfl⟩⟩) | (right; left; exact ⟨by omega, mo, rfl, hmo⟩) | (right; right; exact ⟨by omega, rfl⟩))

set_option maxRecDepth 10000 in
theorem c_X9_alike_out {l : Launch} {Γ : gC} {ad : Nat → Nat} {I : Nat → Nat → Int} {J : Nat → Nat → Int64} {d : Nat} {i k w : Int} (hi : -2147483648 ≤ i ∧ i ≤ 2147483647) (hk : -2147483648 ≤ k ∧ k ≤ 2147483647) (hw : -2147483648 ≤ w ∧ w ≤ 2147483647) (ho : ¬ (0 ≤ i ∧ i ≤ 11 ∧ 0 ≤ k ∧ k ≤ 11 ∧ 0 ≤ w ∧ w ≤ 2)) (hd : 3 ≤ d) : gKi l Γ gm_X9_alike d [.ref (gad (gSS ad) 0), .int (iv i), .int (iv k), .int (iv w)] (gSS ad, I, J) (fun e μ => μ = (gSS ad, I, J) ∧ e = -2) := by
  refine gKi_of gk_X9_alike.1 (Nat.le_of_ble_eq_true rfl) ?_
  show gG l Γ gm_X9_alike (d, 0, 0, 0, 0) 0 [(0, .ref (gad (gSS ad) 0)), (1, .int (iv i)), (2, .int (iv k)), (3, .int (iv w))] [] _ _
  refine gg_iload_n dX9_alike_0 1 rfl ?_
  refine gg_callSi (own := RX9) (yt := gm_X9_isFormula) rfl gl_RX9_106 gk_X9_isFormula gr_X9_isFormula dX9_alike_1 (c_X9_isFormula (d := d - 1) (by omega)) rfl rfl (Nat.le_of_ble_eq_true rfl) (by show _ ≤ d; omega) ⟨Nat.le_refl _, Nat.le_refl _⟩ (fun e1 μ' hc => ?_)
  obtain ⟨rfl, ⟨rfl, hb2⟩ | ⟨rfl, hb2⟩⟩ := hc
  · refine gg_if_eq_f (tgt := 23) dX9_alike_4 (by decide) (by decide) (by decide) ?_
    refine gg_iload_n dX9_alike_7 2 rfl ?_
    refine gg_callSi (own := RX9) (yt := gm_X9_isFormula) rfl gl_RX9_106 gk_X9_isFormula gr_X9_isFormula dX9_alike_8 (c_X9_isFormula (d := d - 1) (by omega)) rfl rfl (Nat.le_of_ble_eq_true rfl) (by show _ ≤ d; omega) ⟨Nat.le_refl _, Nat.le_refl _⟩ (fun e3 μ' hc => ?_)
    obtain ⟨rfl, ⟨rfl, hb4⟩ | ⟨rfl, hb4⟩⟩ := hc
    · refine gg_if_eq_f (tgt := 23) dX9_alike_11 (by decide) (by decide) (by decide) ?_
      refine gg_iload_n dX9_alike_14 3 rfl ?_
      refine gg_if_lt (tgt := 23) dX9_alike_15 (by decide) (by omega) (fun hb5 => ?_) (fun hb5 => ?_)
      · refine gg_bipush dX9_alike_23 (by decide) ?_
        refine gg_ireti dX9_alike_25 rfl ⟨rfl, rfl⟩ ?_
        exact ⟨rfl, rfl⟩
      · refine gg_iload_n dX9_alike_18 3 rfl ?_
        refine gg_iconst dX9_alike_19 ?_
        refine gg_icmp_le (tgt := 26) dX9_alike_20 (by decide) (by omega) (fun hb6 => ?_) (fun hb6 => ?_)
        · exfalso
          omega
        · refine gg_bipush dX9_alike_23 (by decide) ?_
          refine gg_ireti dX9_alike_25 rfl ⟨rfl, rfl⟩ ?_
          exact ⟨rfl, rfl⟩
    · refine gg_if_eq_t (tgt := 23) dX9_alike_11 (by decide) (by decide) (by decide) ?_
      refine gg_bipush dX9_alike_23 (by decide) ?_
      refine gg_ireti dX9_alike_25 rfl ⟨rfl, rfl⟩ ?_
      exact ⟨rfl, rfl⟩
  · refine gg_if_eq_t (tgt := 23) dX9_alike_4 (by decide) (by decide) (by decide) ?_
    refine gg_bipush dX9_alike_23 (by decide) ?_
    refine gg_ireti dX9_alike_25 rfl ⟨rfl, rfl⟩ ?_
    exact ⟨rfl, rfl⟩

set_option maxRecDepth 10000 in
theorem w_X10_areAlike {l : Launch} {Γ : gC} {ad : Nat → Nat} {I : Nat → Nat → Int} {J : Nat → Nat → Int64} {d : Nat} {f g n n' : Nat} {K K' : Nat → Nat} {N N' : Nat → Int64} {Z Z' : Nat → Nat} (hf : f < 12) (hM : gMt I J f n K N Z) (hW : gWf n K N Z) (hg : g < 12) (hM' : gMt I J g n' K' N' Z') (hW' : gWf n' K' N' Z') {i j : Nat} (hi : i < n) (hj : j < n') (hz : Z i = Z' j) : ∀ (m : Nat) (k : Nat), Z i - k < m → (k ≤ Z i) → (∀ t, t < k → K (i + t) = K' (j + t) ∧ N (i + t) = N' (j + t)) → gG l Γ gm_X10_areAlike (d, 0, 0, 0, 0) 34 [(6, .int (iv (k : Int))), (5, .int (iv (Z i : Int))), (0, .ref (gad (gSS ad) 145)), (1, .int (iv (f : Int))), (2, .int (iv (i : Int))), (3, .int (iv (g : Int))), (4, .int (iv (j : Int)))] [] (gSS ad, I, J) (gDi (fun e μ => μ = (gSS ad, I, J) ∧ ((e = 1 ∧ (gAl K N Z i K' N' Z' j)) ∨ (e = 0 ∧ ¬ (gAl K N Z i K' N' Z' j))))) := by
  intro m
  induction m with
  | zero => intros; omega
  | succ m ih =>
    intro k hm hk hall
    have h1 := (hW.2.2 i hi).2.2.1
    have h2 := (hW'.2.2 j hj).2.2.1
    have hw1 := hW.1
    have hw2 := hW'.1
    refine gg_iload dX10_areAlike_34 0 rfl ?_
    refine gg_iload dX10_areAlike_36 1 rfl ?_
    refine gg_icmp_ge (tgt := 102) dX10_areAlike_38 (by decide) (by omega) (fun hb => ?_) (fun hb => ?_)
    · refine gg_iconst dX10_areAlike_102 ?_
      refine gg_iretz dX10_areAlike_103 rfl (by decide) ⟨rfl, rfl⟩ ?_
      exact ⟨rfl, Or.inl ⟨rfl, hz, fun t ht => hall t (by omega)⟩⟩
    · have hkz : k < Z i := by omega
      refine gg_aload_n dX10_areAlike_41 2 rfl ?_
      refine gg_getR (k' := 147) rfl gf_RX10_15 dX10_areAlike_42 sh_145 pl_145 (by decide) (by decide) rr_145_1 ?_
      refine gg_iload_n dX10_areAlike_45 3 rfl ?_
      refine gg_aaldj (t := 6) f (k' := (148 + f)) dX10_areAlike_46 sh_147 (by decide) pl_147 (by decide) rfl hf (rr_147 hf) ?_
      refine gg_iload_n dX10_areAlike_47 4 rfl ?_
      refine gg_iload dX10_areAlike_48 0 rfl ?_
      refine gg_iadd dX10_areAlike_50 ?_
      refine gg_toI (b := ((i + k : Nat) : Int)) (by omega) ?_
      refine gg_ialdj (i + k) dX10_areAlike_51 (rs_147 hf) (rl_147 hf) (by decide) rfl (by omega) ?_
      refine gg_toI (b := (K (i + k) : Int)) (hM.2 (i + k) (by omega)).1 ?_
      refine gg_aload_n dX10_areAlike_52 2 rfl ?_
      refine gg_getR (k' := 147) rfl gf_RX10_15 dX10_areAlike_53 sh_145 pl_145 (by decide) (by decide) rr_145_1 ?_
      refine gg_iload_n dX10_areAlike_56 5 rfl ?_
      refine gg_aaldj (t := 6) g (k' := (148 + g)) dX10_areAlike_57 sh_147 (by decide) pl_147 (by decide) rfl hg (rr_147 hg) ?_
      refine gg_iload dX10_areAlike_58 6 rfl ?_
      refine gg_iload dX10_areAlike_60 0 rfl ?_
      refine gg_iadd dX10_areAlike_62 ?_
      refine gg_toI (b := ((j + k : Nat) : Int)) (by omega) ?_
      refine gg_ialdj (j + k) dX10_areAlike_63 (rs_147 hg) (rl_147 hg) (by decide) rfl (by omega) ?_
      refine gg_toI (b := (K' (j + k) : Int)) (hM'.2 (j + k) (by omega)).1 ?_
      refine gg_icmp_ne (tgt := 94) dX10_areAlike_64 (by decide) (by have := (hW.2.2 (i + k) (by omega)).1; have := (hW'.2.2 (j + k) (by omega)).1; omega) (fun hkk => ?_) (fun hkk => ?_)
      · refine gg_iconst dX10_areAlike_94 ?_
        refine gg_iretz dX10_areAlike_95 rfl (by decide) ⟨rfl, rfl⟩ ?_
        exact ⟨rfl, Or.inr ⟨rfl, fun h => absurd (h.2 k hkz).1 (by omega)⟩⟩
      · refine gg_aload_n dX10_areAlike_67 2 rfl ?_
        refine gg_getR (k' := 160) rfl gf_RX10_20 dX10_areAlike_68 sh_145 pl_145 (by decide) (by decide) rr_145_2 ?_
        refine gg_iload_n dX10_areAlike_71 3 rfl ?_
        refine gg_aaldj (t := 7) f (k' := (161 + f)) dX10_areAlike_72 sh_160 (by decide) pl_160 (by decide) rfl hf (rr_160 hf) ?_
        refine gg_iload_n dX10_areAlike_73 4 rfl ?_
        refine gg_iload dX10_areAlike_74 0 rfl ?_
        refine gg_iadd dX10_areAlike_76 ?_
        refine gg_toI (b := ((i + k : Nat) : Int)) (by omega) ?_
        refine gg_laldj (i + k) dX10_areAlike_77 (rs_160 hf) (rl_160 hf) (by decide) rfl (by omega) ?_
        refine gg_toL (b := N (i + k)) (hM.2 (i + k) (by omega)).2.1 ?_
        refine gg_aload_n dX10_areAlike_78 2 rfl ?_
        refine gg_getR (k' := 160) rfl gf_RX10_20 dX10_areAlike_79 sh_145 pl_145 (by decide) (by decide) rr_145_2 ?_
        refine gg_iload_n dX10_areAlike_82 5 rfl ?_
        refine gg_aaldj (t := 7) g (k' := (161 + g)) dX10_areAlike_83 sh_160 (by decide) pl_160 (by decide) rfl hg (rr_160 hg) ?_
        refine gg_iload dX10_areAlike_84 6 rfl ?_
        refine gg_iload dX10_areAlike_86 0 rfl ?_
        refine gg_iadd dX10_areAlike_88 ?_
        refine gg_toI (b := ((j + k : Nat) : Int)) (by omega) ?_
        refine gg_laldj (j + k) dX10_areAlike_89 (rs_160 hg) (rl_160 hg) (by decide) rfl (by omega) ?_
        refine gg_toL (b := N' (j + k)) (hM'.2 (j + k) (by omega)).2.1 ?_
        refine gg_lcmp_eq (tgt := 96) dX10_areAlike_90 dX10_areAlike_91 (by decide) (fun hnn => ?_) (fun hnn => ?_)
        · refine gg_iincv (ls' := [(6, .int (iv ((k + 1 : Nat) : Int))), (5, .int (iv (Z i : Int))), (0, .ref (gad (gSS ad) 145)), (1, .int (iv (f : Int))), (2, .int (iv (i : Int))), (3, .int (iv (g : Int))), (4, .int (iv (j : Int)))]) dX10_areAlike_96 0 rfl (by omega) (by decide) rfl ?_
          refine gg_goto (tgt := 34) dX10_areAlike_99 (by decide) ?_
          exact ih (k + 1) (by omega) (by omega) (fun t ht => by
            rcases Nat.lt_succ_iff_lt_or_eq.mp ht with h | h
            · exact hall t h
            · subst h
              exact ⟨by omega, hnn⟩)
        · refine gg_iconst dX10_areAlike_94 ?_
          refine gg_iretz dX10_areAlike_95 rfl (by decide) ⟨rfl, rfl⟩ ?_
          exact ⟨rfl, Or.inr ⟨rfl, fun h => hnn (h.2 k hkz).2⟩⟩

set_option maxRecDepth 10000 in
theorem c_X10_areAlike {l : Launch} {Γ : gC} {ad : Nat → Nat} {I : Nat → Nat → Int} {J : Nat → Nat → Int64} {d : Nat} {f g n n' : Nat} {K K' : Nat → Nat} {N N' : Nat → Int64} {Z Z' : Nat → Nat} (hf : f < 12) (hM : gMt I J f n K N Z) (hW : gWf n K N Z) (hg : g < 12) (hM' : gMt I J g n' K' N' Z') (hW' : gWf n' K' N' Z') {i j : Nat} (hi : i < n) (hj : j < n') : gKi l Γ gm_X10_areAlike d [.ref (gad (gSS ad) 145), .int (iv (f : Int)), .int (iv (i : Int)), .int (iv (g : Int)), .int (iv (j : Int))] (gSS ad, I, J) (fun e μ => μ = (gSS ad, I, J) ∧ ((e = 1 ∧ (gAl K N Z i K' N' Z' j)) ∨ (e = 0 ∧ ¬ (gAl K N Z i K' N' Z' j)))) := by
  refine gKi_of gk_X10_areAlike.1 (Nat.le_of_ble_eq_true rfl) ?_
  show gG l Γ gm_X10_areAlike (d, 0, 0, 0, 0) 0 [(0, .ref (gad (gSS ad) 145)), (1, .int (iv (f : Int))), (2, .int (iv (i : Int))), (3, .int (iv (g : Int))), (4, .int (iv (j : Int)))] [] _ _
  have h1 := (hW.2.2 i hi).2.2.1
  have h2 := (hW'.2.2 j hj).2.2.1
  have hw1 := hW.1
  have hw2 := hW'.1
  refine gg_aload_n dX10_areAlike_0 0 rfl ?_
  refine gg_getR (k' := 173) rfl gf_RX10_23 dX10_areAlike_1 sh_145 pl_145 (by decide) (by decide) rr_145_3 ?_
  refine gg_iload_n dX10_areAlike_4 1 rfl ?_
  refine gg_aaldj (t := 6) f (k' := (174 + f)) dX10_areAlike_5 sh_173 (by decide) pl_173 (by decide) rfl hf (rr_173 hf) ?_
  refine gg_iload_n dX10_areAlike_6 2 rfl ?_
  refine gg_ialdj i dX10_areAlike_7 (rs_173 hf) (rl_173 hf) (by decide) rfl (by omega) ?_
  refine gg_toI (b := ((i : Int) + Z i)) (hM.2 i (by omega)).2.2 ?_
  refine gg_iload_n dX10_areAlike_8 2 rfl ?_
  refine gg_isub dX10_areAlike_9 ?_
  refine gg_toI (b := (Z i : Int)) (by omega) ?_
  refine gg_istore (ls' := [(5, .int (iv (Z i : Int))), (0, .ref (gad (gSS ad) 145)), (1, .int (iv (f : Int))), (2, .int (iv (i : Int))), (3, .int (iv (g : Int))), (4, .int (iv (j : Int)))]) dX10_areAlike_10 (by decide) rfl ?_
  refine gg_aload_n dX10_areAlike_12 1 rfl ?_
  refine gg_getR (k' := 173) rfl gf_RX10_23 dX10_areAlike_13 sh_145 pl_145 (by decide) (by decide) rr_145_3 ?_
  refine gg_iload_n dX10_areAlike_16 4 rfl ?_
  refine gg_aaldj (t := 6) g (k' := (174 + g)) dX10_areAlike_17 sh_173 (by decide) pl_173 (by decide) rfl hg (rr_173 hg) ?_
  refine gg_iload dX10_areAlike_18 5 rfl ?_
  refine gg_ialdj j dX10_areAlike_20 (rs_173 hg) (rl_173 hg) (by decide) rfl (by omega) ?_
  refine gg_toI (b := ((j : Int) + Z' j)) (hM'.2 j (by omega)).2.2 ?_
  refine gg_iload dX10_areAlike_21 5 rfl ?_
  refine gg_isub dX10_areAlike_23 ?_
  refine gg_toI (b := (Z' j : Int)) (by omega) ?_
  refine gg_iload dX10_areAlike_24 0 rfl ?_
  refine gg_icmp_eq (tgt := 31) dX10_areAlike_26 (by decide) (by omega) (fun hz => ?_) (fun hz => ?_)
  · refine gg_iconst dX10_areAlike_31 ?_
    refine gg_istore (ls' := [(6, .int (iv 0)), (5, .int (iv (Z i : Int))), (0, .ref (gad (gSS ad) 145)), (1, .int (iv (f : Int))), (2, .int (iv (i : Int))), (3, .int (iv (g : Int))), (4, .int (iv (j : Int)))]) dX10_areAlike_32 (by decide) rfl ?_
    refine gg_sub [0, 1, 2, 3, 4, 5, 6] rfl ?_
    exact w_X10_areAlike hf hM hW hg hM' hW' hi hj (by omega) (Z i + 1) 0 (by omega) (by omega) (fun t ht => absurd ht (Nat.not_lt_zero _))
  · refine gg_iconst dX10_areAlike_29 ?_
    refine gg_iretz dX10_areAlike_30 rfl (by decide) ⟨rfl, rfl⟩ ?_
    exact ⟨rfl, Or.inr ⟨rfl, fun h => hz (by have := h.1; omega)⟩⟩

set_option maxRecDepth 10000 in
theorem w_X10_shared_19 {l : Launch} {Γ : gC} {ad : Nat → Nat} {I : Nat → Nat → Int} {J : Nat → Nat → Int64} {d : Nat} {f g n n' : Nat} {K K' : Nat → Nat} {N N' : Nat → Int64} {Z Z' : Nat → Nat} (hf : f < 12) (hM : gMt I J f n K N Z) (hW : gWf n K N Z) (hg : g < 12) (hM' : gMt I J g n' K' N' Z') (hW' : gWf n' K' N' Z') {i : Nat} (hi : i < n) (hd : 2 ≤ d) {Q : Option Value → gM → Prop} (hk : ∀ mo : Nat, mo ≤ 200 → gShv n n' K N Z K' N' Z' (i + 1) mo → gG l Γ gm_X10_shared (d, 0, 0, 0, 0) 78 [(4, .int (iv (i : Int))), (3, .int (iv (mo : Int))), (0, .ref (gad (gSS ad) 145)), (1, .int (iv (f : Int))), (2, .int (iv (g : Int)))] [] (gSS ad, I, J) Q) : ∀ (m : Nat) (j mo : Nat), n' - j < m → (j ≤ n') → (mo ≤ 200) → (gShv n n' K N Z K' N' Z' i mo) → (∀ j', j' < j → gAl K N Z i K' N' Z' j' → Z i ≤ mo) → gG l Γ gm_X10_shared (d, 0, 0, 0, 0) 19 [(5, .int (iv (j : Int))), (4, .int (iv (i : Int))), (3, .int (iv (mo : Int))), (0, .ref (gad (gSS ad) 145)), (1, .int (iv (f : Int))), (2, .int (iv (g : Int)))] [] (gSS ad, I, J) Q := by
  intro m
  induction m with
  | zero => intros; omega
  | succ m ih =>
    intro j mo hm hj hmo h1 h2
    have hw1 := hW.1
    have hw2 := hW'.1
    have hzi := (hW.2.2 i hi).2.2.1
    refine gg_iload dX10_shared_19 0 rfl ?_
    refine gg_aload_n dX10_shared_21 3 rfl ?_
    refine gg_getR (k' := 146) rfl gf_RX10_9 dX10_shared_22 sh_145 pl_145 (by decide) (by decide) rr_145_0 ?_
    refine gg_iload_n dX10_shared_25 5 rfl ?_
    refine gg_ialdj g dX10_shared_26 sh_146 pl_146 (by decide) rfl (by omega) ?_
    refine gg_toI (b := (n' : Int)) hM'.1 ?_
    refine gg_icmp_ge (tgt := 78) dX10_shared_27 (by decide) (by omega) (fun hb => ?_) (fun hb => ?_)
    · refine gg_sub [1, 2, 3, 4, 5] rfl ?_
      exact hk mo hmo ⟨fun i' j' hi' hj' hg => by
        rcases Nat.lt_succ_iff_lt_or_eq.mp hi' with h | h
        · exact h1.1 i' j' h hj' hg
        · subst h
          first | omega | exact h2 j' (by omega) hg, h1.2⟩
    · refine gg_aload_n dX10_shared_30 3 rfl ?_
      refine gg_getR (k' := 173) rfl gf_RX10_23 dX10_shared_31 sh_145 pl_145 (by decide) (by decide) rr_145_3 ?_
      refine gg_iload_n dX10_shared_34 4 rfl ?_
      refine gg_aaldj (t := 6) f (k' := (174 + f)) dX10_shared_35 sh_173 (by decide) pl_173 (by decide) rfl hf (rr_173 hf) ?_
      refine gg_iload dX10_shared_36 1 rfl ?_
      refine gg_ialdj i dX10_shared_38 (rs_173 hf) (rl_173 hf) (by decide) rfl (by omega) ?_
      refine gg_toI (b := ((i : Int) + Z i)) (hM.2 i (by omega)).2.2 ?_
      refine gg_iload dX10_shared_39 1 rfl ?_
      refine gg_isub dX10_shared_41 ?_
      refine gg_toI (b := (Z i : Int)) (by omega) ?_
      refine gg_iload_n dX10_shared_42 2 rfl ?_
      refine gg_icmp_le (tgt := 78) dX10_shared_43 (by decide) (by omega) (fun hc => ?_) (fun hc => ?_)
      · refine gg_sub [1, 2, 3, 4, 5] rfl ?_
        exact hk mo hmo ⟨fun i' j' hi' hj' hg => by
          rcases Nat.lt_succ_iff_lt_or_eq.mp hi' with h | h
          · exact h1.1 i' j' h hj' hg
          · subst h
            first | omega | exact h2 j' (by omega) hg, h1.2⟩
      · refine gg_aload_n dX10_shared_46 3 rfl ?_
        refine gg_iload_n dX10_shared_47 4 rfl ?_
        refine gg_iload dX10_shared_48 1 rfl ?_
        refine gg_iload_n dX10_shared_50 5 rfl ?_
        refine gg_iload dX10_shared_51 0 rfl ?_
        refine gg_callVi (own := RX10) (yt := gm_X10_areAlike) rfl gl_RX10_321 gk_X10_areAlike gr_X10_areAlike dX10_shared_53 (c_X10_areAlike (d := d - 1) hf hM hW hg hM' hW' (i := i) (j := j) hi (by omega)) sh_145 pl_145 (by decide) rfl rfl rfl (Nat.le_of_ble_eq_true rfl) (by show _ ≤ d; omega) ⟨Nat.le_refl _, Nat.le_refl _⟩ (fun e1 μ' hc => ?_)
        obtain ⟨rfl, ⟨rfl, hal⟩ | ⟨rfl, hal⟩⟩ := hc
        · refine gg_if_eq_f (tgt := 72) dX10_shared_56 (by decide) (by decide) (by decide) ?_
          refine gg_aload_n dX10_shared_59 3 rfl ?_
          refine gg_getR (k' := 173) rfl gf_RX10_23 dX10_shared_60 sh_145 pl_145 (by decide) (by decide) rr_145_3 ?_
          refine gg_iload_n dX10_shared_63 4 rfl ?_
          refine gg_aaldj (t := 6) f (k' := (174 + f)) dX10_shared_64 sh_173 (by decide) pl_173 (by decide) rfl hf (rr_173 hf) ?_
          refine gg_iload dX10_shared_65 1 rfl ?_
          refine gg_ialdj i dX10_shared_67 (rs_173 hf) (rl_173 hf) (by decide) rfl (by omega) ?_
          refine gg_toI (b := ((i : Int) + Z i)) (hM.2 i (by omega)).2.2 ?_
          refine gg_iload dX10_shared_68 1 rfl ?_
          refine gg_isub dX10_shared_70 ?_
          refine gg_toI (b := (Z i : Int)) (by omega) ?_
          refine gg_istore_n (ls' := [(3, .int (iv (Z i : Int))), (5, .int (iv (j : Int))), (4, .int (iv (i : Int))), (0, .ref (gad (gSS ad) 145)), (1, .int (iv (f : Int))), (2, .int (iv (g : Int)))]) dX10_shared_71 rfl (by decide) rfl ?_
          refine gg_iincv (ls' := [(5, .int (iv ((j + 1 : Nat) : Int))), (3, .int (iv (Z i : Int))), (4, .int (iv (i : Int))), (0, .ref (gad (gSS ad) 145)), (1, .int (iv (f : Int))), (2, .int (iv (g : Int)))]) dX10_shared_72 1 rfl (by omega) (by decide) rfl ?_
          refine gg_goto (tgt := 19) dX10_shared_75 (by decide) ?_
          refine gg_sub [0, 2, 1, 3, 4, 5] rfl ?_
          refine ih (j + 1) (Z i) (by omega) (by omega) (by omega) ⟨fun i' j' hi' hj' hg => ?_, Or.inr ⟨i, j, hi, by omega, hal, rfl⟩⟩ (fun j' hj' hg => Nat.le_refl _)
          have := h1.1 i' j' hi' hj' hg
          omega
        · refine gg_if_eq_t (tgt := 72) dX10_shared_56 (by decide) (by decide) (by decide) ?_
          refine gg_iincv (ls' := [(5, .int (iv ((j + 1 : Nat) : Int))), (4, .int (iv (i : Int))), (3, .int (iv (mo : Int))), (0, .ref (gad (gSS ad) 145)), (1, .int (iv (f : Int))), (2, .int (iv (g : Int)))]) dX10_shared_72 0 rfl (by omega) (by decide) rfl ?_
          refine gg_goto (tgt := 19) dX10_shared_75 (by decide) ?_
          exact ih (j + 1) mo (by omega) (by omega) hmo h1 (fun j' hj' hg => by
            rcases Nat.lt_succ_iff_lt_or_eq.mp hj' with h | h
            · exact h2 j' h hg
            · subst h
              exact absurd hg hal)

set_option maxRecDepth 10000 in
theorem w_X10_shared_5 {l : Launch} {Γ : gC} {ad : Nat → Nat} {I : Nat → Nat → Int} {J : Nat → Nat → Int64} {d : Nat} {f g n n' : Nat} {K K' : Nat → Nat} {N N' : Nat → Int64} {Z Z' : Nat → Nat} (hf : f < 12) (hM : gMt I J f n K N Z) (hW : gWf n K N Z) (hg : g < 12) (hM' : gMt I J g n' K' N' Z') (hW' : gWf n' K' N' Z') (hd : 2 ≤ d) : ∀ (m : Nat) (i mo : Nat), n - i < m → (i ≤ n) → (mo ≤ 200) → (gShv n n' K N Z K' N' Z' i mo) → gG l Γ gm_X10_shared (d, 0, 0, 0, 0) 5 [(4, .int (iv (i : Int))), (3, .int (iv (mo : Int))), (0, .ref (gad (gSS ad) 145)), (1, .int (iv (f : Int))), (2, .int (iv (g : Int)))] [] (gSS ad, I, J) (gDi (fun e μ => μ = (gSS ad, I, J) ∧ ∃ mo : Nat, e = (mo : Int) ∧ mo ≤ 200 ∧ gShv n n' K N Z K' N' Z' n mo)) := by
  intro m
  induction m with
  | zero => intros; omega
  | succ m ih =>
    intro i mo hm hi hmo h1
    have hw1 := hW.1
    have hw2 := hW'.1
    refine gg_iload dX10_shared_5 0 rfl ?_
    refine gg_aload_n dX10_shared_7 2 rfl ?_
    refine gg_getR (k' := 146) rfl gf_RX10_9 dX10_shared_8 sh_145 pl_145 (by decide) (by decide) rr_145_0 ?_
    refine gg_iload_n dX10_shared_11 3 rfl ?_
    refine gg_ialdj f dX10_shared_12 sh_146 pl_146 (by decide) rfl (by omega) ?_
    refine gg_toI (b := (n : Int)) hM.1 ?_
    refine gg_icmp_ge (tgt := 84) dX10_shared_13 (by decide) (by omega) (fun hb => ?_) (fun hb => ?_)
    · have he : i = n := by omega
      subst he
      refine gg_iload_n dX10_shared_84 1 rfl ?_
      refine gg_ireti dX10_shared_85 rfl ⟨rfl, rfl⟩ ?_
      exact ⟨rfl, mo, rfl, hmo, h1⟩
    · have hi2 : i < n := by omega
      refine gg_iconst dX10_shared_16 ?_
      refine gg_istore (ls' := [(5, .int (iv 0)), (4, .int (iv (i : Int))), (3, .int (iv (mo : Int))), (0, .ref (gad (gSS ad) 145)), (1, .int (iv (f : Int))), (2, .int (iv (g : Int)))]) dX10_shared_17 (by decide) rfl ?_
      refine gg_sub [0, 1, 2, 3, 4, 5] rfl ?_
      refine w_X10_shared_19 hf hM hW hg hM' hW' hi2 hd (fun mo2 hmo2 hi3 => ?_) (n' + 1) 0 mo (by omega) (by omega) hmo h1 (fun j' hj' => absurd hj' (Nat.not_lt_zero _))
      refine gg_iinc (ls' := [(4, .int (iv ((i : Int) + 1))), (3, .int (iv (mo2 : Int))), (0, .ref (gad (gSS ad) 145)), (1, .int (iv (f : Int))), (2, .int (iv (g : Int)))]) dX10_shared_78 0 rfl (by decide) rfl ?_
      refine gg_goto (tgt := 5) dX10_shared_81 (by decide) ?_
      exact ih (i + 1) mo2 (by omega) (by omega) hmo2 hi3

set_option maxRecDepth 10000 in
theorem c_X10_shared {l : Launch} {Γ : gC} {ad : Nat → Nat} {I : Nat → Nat → Int} {J : Nat → Nat → Int64} {d : Nat} {f g n n' : Nat} {K K' : Nat → Nat} {N N' : Nat → Int64} {Z Z' : Nat → Nat} (hf : f < 12) (hM : gMt I J f n K N Z) (hW : gWf n K N Z) (hg : g < 12) (hM' : gMt I J g n' K' N' Z') (hW' : gWf n' K' N' Z') (hd : 2 ≤ d) : gKi l Γ gm_X10_shared d [.ref (gad (gSS ad) 145), .int (iv (f : Int)), .int (iv (g : Int))] (gSS ad, I, J) (fun e μ => μ = (gSS ad, I, J) ∧ ∃ mo : Nat, e = (mo : Int) ∧ mo ≤ 200 ∧ gShv n n' K N Z K' N' Z' n mo) := by
  refine gKi_of gk_X10_shared.1 (Nat.le_of_ble_eq_true rfl) ?_
  show gG l Γ gm_X10_shared (d, 0, 0, 0, 0) 0 [(0, .ref (gad (gSS ad) 145)), (1, .int (iv (f : Int))), (2, .int (iv (g : Int)))] [] _ _
  refine gg_iconst dX10_shared_0 ?_
  refine gg_istore_n (ls' := [(3, .int (iv 0)), (0, .ref (gad (gSS ad) 145)), (1, .int (iv (f : Int))), (2, .int (iv (g : Int)))]) dX10_shared_1 rfl (by decide) rfl ?_
  refine gg_iconst dX10_shared_2 ?_
  refine gg_istore (ls' := [(4, .int (iv 0)), (3, .int (iv 0)), (0, .ref (gad (gSS ad) 145)), (1, .int (iv (f : Int))), (2, .int (iv (g : Int)))]) dX10_shared_3 (by decide) rfl ?_
  refine gg_sub [0, 1, 2, 3, 4] rfl ?_
  exact w_X10_shared_5 hf hM hW hg hM' hW' hd (n + 1) 0 0 (by omega) (by omega) (by omega) ⟨fun i' j' hi' => absurd hi' (Nat.not_lt_zero _), Or.inl rfl⟩

set_option maxRecDepth 10000 in
theorem w_X10_unlike_20 {l : Launch} {Γ : gC} {ad : Nat → Nat} {I : Nat → Nat → Int} {J : Nat → Nat → Int64} {d : Nat} {f n : Nat} {K : Nat → Nat} {N : Nat → Int64} {Z : Nat → Nat} (hf : f < 12) (hM : gMt I J f n K N Z) (hW : gWf n K N Z) {i c : Nat} (hi : i < n) (hc : c ≤ i) (hd : 2 ≤ d) {Q : Option Value → gM → Prop} (hk : ∀ c2 : Nat, c2 = c + @ite Nat (∀ j, j < i → ¬ gAl K N Z i K N Z j) (Classical.propDecidable _) 1 0 → gG l Γ gm_X10_unlike (d, 0, 0, 0, 0) 64 [(3, .int (iv (i : Int))), (2, .int (iv (c2 : Int))), (0, .ref (gad (gSS ad) 145)), (1, .int (iv (f : Int)))] [] (gSS ad, I, J) Q) : ∀ (m : Nat) (j : Nat) (nw : Int), i - j < m → (j ≤ i) → ((nw = 0 ∧ ¬ ∀ j', j' < i → ¬ gAl K N Z i K N Z j') ∨ (nw = 1 ∧ ∀ j', j' < j → ¬ gAl K N Z i K N Z j')) → gG l Γ gm_X10_unlike (d, 0, 0, 0, 0) 20 [(5, .int (iv (j : Int))), (4, .int (iv nw)), (3, .int (iv (i : Int))), (2, .int (iv (c : Int))), (0, .ref (gad (gSS ad) 145)), (1, .int (iv (f : Int)))] [] (gSS ad, I, J) Q := by
  intro m
  induction m with
  | zero => intros; omega
  | succ m ih =>
    intro j nw hm hj hnw
    have hw1 := hW.1
    refine gg_iload dX10_unlike_20 0 rfl ?_
    refine gg_iload_n dX10_unlike_22 2 rfl ?_
    refine gg_icmp_ge (tgt := 56) dX10_unlike_23 (by decide) (by omega) (fun hb => ?_) (fun hb => ?_)
    · have he : j = i := by omega
      refine gg_iload dX10_unlike_56 1 rfl ?_
      refine gg_if_eq (tgt := 64) dX10_unlike_58 (by decide) (by omega) (fun hy => ?_) (fun hy => ?_)
      · refine gg_sub [2, 3, 4, 5] rfl ?_
        refine hk c ?_
        rw [if_neg]
        · rfl
        rcases hnw with h | h
        · exact h.2
        · omega
      · refine gg_iincv (ls' := [(2, .int (iv ((c + 1 : Nat) : Int))), (5, .int (iv (j : Int))), (4, .int (iv nw)), (3, .int (iv (i : Int))), (0, .ref (gad (gSS ad) 145)), (1, .int (iv (f : Int)))]) dX10_unlike_61 3 rfl (by omega) (by decide) rfl ?_
        refine gg_sub [3, 0, 4, 5] rfl ?_
        refine hk (c + 1) ?_
        rw [if_pos]
        rcases hnw with h | h
        · omega
        · exact fun j' hj' => h.2 j' (by omega)
    · have hji : j < i := by omega
      refine gg_iload dX10_unlike_26 1 rfl ?_
      refine gg_if_eq (tgt := 56) dX10_unlike_28 (by decide) (by omega) (fun hx => ?_) (fun hx => ?_)
      · refine gg_iload dX10_unlike_56 1 rfl ?_
        refine gg_if_eq (tgt := 64) dX10_unlike_58 (by decide) (by omega) (fun hy => ?_) (fun hy => ?_)
        · refine gg_sub [2, 3, 4, 5] rfl ?_
          refine hk c ?_
          rw [if_neg]
          · rfl
          rcases hnw with h | h
          · exact h.2
          · omega
        · refine gg_iincv (ls' := [(2, .int (iv ((c + 1 : Nat) : Int))), (5, .int (iv (j : Int))), (4, .int (iv nw)), (3, .int (iv (i : Int))), (0, .ref (gad (gSS ad) 145)), (1, .int (iv (f : Int)))]) dX10_unlike_61 3 rfl (by omega) (by decide) rfl ?_
          refine gg_sub [3, 0, 4, 5] rfl ?_
          refine hk (c + 1) ?_
          rw [if_pos]
          rcases hnw with h | h
          · omega
          · exact fun j' hj' => h.2 j' (by omega)
      · have hn2 : ∀ j', j' < j → ¬ gAl K N Z i K N Z j' := by
          rcases hnw with h | h
          · omega
          · exact h.2
        refine gg_aload_n dX10_unlike_31 4 rfl ?_
        refine gg_iload_n dX10_unlike_32 5 rfl ?_
        refine gg_iload_n dX10_unlike_33 2 rfl ?_
        refine gg_iload_n dX10_unlike_34 5 rfl ?_
        refine gg_iload dX10_unlike_35 0 rfl ?_
        refine gg_callVi (own := RX10) (yt := gm_X10_areAlike) rfl gl_RX10_321 gk_X10_areAlike gr_X10_areAlike dX10_unlike_37 (c_X10_areAlike (d := d - 1) hf hM hW hf hM hW (i := i) (j := j) hi (by omega)) sh_145 pl_145 (by decide) rfl rfl rfl (Nat.le_of_ble_eq_true rfl) (by show _ ≤ d; omega) ⟨Nat.le_refl _, Nat.le_refl _⟩ (fun e1 μ' hc => ?_)
        obtain ⟨rfl, ⟨rfl, hal⟩ | ⟨rfl, hal⟩⟩ := hc
        · refine gg_if_ne_t (tgt := 47) dX10_unlike_40 (by decide) (by decide) (by decide) ?_
          refine gg_iconst dX10_unlike_47 ?_
          refine gg_istore (ls' := [(4, .int (iv 0)), (5, .int (iv (j : Int))), (3, .int (iv (i : Int))), (2, .int (iv (c : Int))), (0, .ref (gad (gSS ad) 145)), (1, .int (iv (f : Int)))]) dX10_unlike_48 (by decide) rfl ?_
          refine gg_iincv (ls' := [(5, .int (iv ((j + 1 : Nat) : Int))), (4, .int (iv 0)), (3, .int (iv (i : Int))), (2, .int (iv (c : Int))), (0, .ref (gad (gSS ad) 145)), (1, .int (iv (f : Int)))]) dX10_unlike_50 1 rfl (by omega) (by decide) rfl ?_
          refine gg_goto (tgt := 20) dX10_unlike_53 (by decide) ?_
          exact ih (j + 1) 0 (by omega) (by omega) (Or.inl ⟨rfl, fun h => absurd hal (h j (by omega))⟩)
        · refine gg_if_ne_f (tgt := 47) dX10_unlike_40 (by decide) (by decide) (by decide) ?_
          refine gg_iconst dX10_unlike_43 ?_
          refine gg_goto (tgt := 48) dX10_unlike_44 (by decide) ?_
          refine gg_istore (ls' := [(4, .int (iv 1)), (5, .int (iv (j : Int))), (3, .int (iv (i : Int))), (2, .int (iv (c : Int))), (0, .ref (gad (gSS ad) 145)), (1, .int (iv (f : Int)))]) dX10_unlike_48 (by decide) rfl ?_
          refine gg_iincv (ls' := [(5, .int (iv ((j + 1 : Nat) : Int))), (4, .int (iv 1)), (3, .int (iv (i : Int))), (2, .int (iv (c : Int))), (0, .ref (gad (gSS ad) 145)), (1, .int (iv (f : Int)))]) dX10_unlike_50 1 rfl (by omega) (by decide) rfl ?_
          refine gg_goto (tgt := 20) dX10_unlike_53 (by decide) ?_
          exact ih (j + 1) 1 (by omega) (by omega) (Or.inr ⟨rfl, fun j' hj' => by
            rcases Nat.lt_succ_iff_lt_or_eq.mp hj' with h | h
            · exact hn2 j' h
            · subst h
              exact hal⟩)

set_option maxRecDepth 10000 in
theorem w_X10_unlike_4 {l : Launch} {Γ : gC} {ad : Nat → Nat} {I : Nat → Nat → Int} {J : Nat → Nat → Int64} {d : Nat} {f n : Nat} {K : Nat → Nat} {N : Nat → Int64} {Z : Nat → Nat} (hf : f < 12) (hM : gMt I J f n K N Z) (hW : gWf n K N Z) (hd : 2 ≤ d) : ∀ (m : Nat) (i : Nat), n - i < m → (i ≤ n) → gG l Γ gm_X10_unlike (d, 0, 0, 0, 0) 4 [(3, .int (iv (i : Int))), (2, .int (iv (gUnl K N Z i : Int))), (0, .ref (gad (gSS ad) 145)), (1, .int (iv (f : Int)))] [] (gSS ad, I, J) (gDi (fun e μ => μ = (gSS ad, I, J) ∧ e = (gUnl K N Z n : Int))) := by
  intro m
  induction m with
  | zero => intros; omega
  | succ m ih =>
    intro i hm hi
    have hw1 := hW.1
    refine gg_iload_n dX10_unlike_4 0 rfl ?_
    refine gg_aload_n dX10_unlike_5 2 rfl ?_
    refine gg_getR (k' := 146) rfl gf_RX10_9 dX10_unlike_6 sh_145 pl_145 (by decide) (by decide) rr_145_0 ?_
    refine gg_iload_n dX10_unlike_9 3 rfl ?_
    refine gg_ialdj f dX10_unlike_10 sh_146 pl_146 (by decide) rfl (by omega) ?_
    refine gg_toI (b := (n : Int)) hM.1 ?_
    refine gg_icmp_ge (tgt := 70) dX10_unlike_11 (by decide) (by omega) (fun hb => ?_) (fun hb => ?_)
    · have he : i = n := by omega
      subst he
      refine gg_iload_n dX10_unlike_70 1 rfl ?_
      refine gg_ireti dX10_unlike_71 rfl ⟨rfl, rfl⟩ ?_
      exact ⟨rfl, rfl⟩
    · have hi2 : i < n := by omega
      have hle := gUnl_le K N Z i
      refine gg_iconst dX10_unlike_14 ?_
      refine gg_istore (ls' := [(4, .int (iv 1)), (3, .int (iv (i : Int))), (2, .int (iv (gUnl K N Z i : Int))), (0, .ref (gad (gSS ad) 145)), (1, .int (iv (f : Int)))]) dX10_unlike_15 (by decide) rfl ?_
      refine gg_iconst dX10_unlike_17 ?_
      refine gg_istore (ls' := [(5, .int (iv 0)), (4, .int (iv 1)), (3, .int (iv (i : Int))), (2, .int (iv (gUnl K N Z i : Int))), (0, .ref (gad (gSS ad) 145)), (1, .int (iv (f : Int)))]) dX10_unlike_18 (by decide) rfl ?_
      refine gg_sub [0, 1, 2, 3, 4, 5] rfl ?_
      refine w_X10_unlike_20 hf hM hW hi2 hle hd (fun c2 hc2 => ?_) (i + 1) 0 1 (by omega) (by omega) (Or.inr ⟨rfl, fun j' hj' => absurd hj' (Nat.not_lt_zero _)⟩)
      subst hc2
      refine gg_iinc (ls' := [(3, .int (iv ((i : Int) + 1))), (2, .int (iv (gUnl K N Z (i + 1) : Int))), (0, .ref (gad (gSS ad) 145)), (1, .int (iv (f : Int)))]) dX10_unlike_64 0 rfl (by decide) rfl ?_
      refine gg_goto (tgt := 4) dX10_unlike_67 (by decide) ?_
      exact ih (i + 1) (by omega) (by omega)

set_option maxRecDepth 10000 in
theorem c_X10_unlike {l : Launch} {Γ : gC} {ad : Nat → Nat} {I : Nat → Nat → Int} {J : Nat → Nat → Int64} {d : Nat} {f n : Nat} {K : Nat → Nat} {N : Nat → Int64} {Z : Nat → Nat} (hf : f < 12) (hM : gMt I J f n K N Z) (hW : gWf n K N Z) (hd : 2 ≤ d) : gKi l Γ gm_X10_unlike d [.ref (gad (gSS ad) 145), .int (iv (f : Int))] (gSS ad, I, J) (fun e μ => μ = (gSS ad, I, J) ∧ e = (gUnl K N Z n : Int)) := by
  refine gKi_of gk_X10_unlike.1 (Nat.le_of_ble_eq_true rfl) ?_
  show gG l Γ gm_X10_unlike (d, 0, 0, 0, 0) 0 [(0, .ref (gad (gSS ad) 145)), (1, .int (iv (f : Int)))] [] _ _
  refine gg_iconst dX10_unlike_0 ?_
  refine gg_istore_n (ls' := [(2, .int (iv 0)), (0, .ref (gad (gSS ad) 145)), (1, .int (iv (f : Int)))]) dX10_unlike_1 rfl (by decide) rfl ?_
  refine gg_iconst dX10_unlike_2 ?_
  refine gg_istore_n (ls' := [(3, .int (iv 0)), (2, .int (iv 0)), (0, .ref (gad (gSS ad) 145)), (1, .int (iv (f : Int)))]) dX10_unlike_3 rfl (by decide) rfl ?_
  refine gg_sub [0, 1, 2, 3] rfl ?_
  exact w_X10_unlike_4 hf hM hW hd (n + 1) 0 (by omega) (by omega)

set_option maxRecDepth 10000 in
theorem c_X10_alike {l : Launch} {Γ : gC} {ad : Nat → Nat} {I : Nat → Nat → Int} {J : Nat → Nat → Int64} {d : Nat} {f g n n' : Nat} {K K' : Nat → Nat} {N N' : Nat → Int64} {Z Z' : Nat → Nat} (hf : f < 12) (hM : gMt I J f n K N Z) (hW : gWf n K N Z) (hg : g < 12) (hM' : gMt I J g n' K' N' Z') (hW' : gWf n' K' N' Z') {w : Nat} (hw : w ≤ 2) (hd : 3 ≤ d) : gKi l Γ gm_X10_alike d [.ref (gad (gSS ad) 145), .int (iv (f : Int)), .int (iv (g : Int)), .int (iv (w : Int))] (gSS ad, I, J) (fun e μ => μ = (gSS ad, I, J) ∧ gAk n n' K N Z K' N' Z' w e) := by
  refine gKi_of gk_X10_alike.1 (Nat.le_of_ble_eq_true rfl) ?_
  show gG l Γ gm_X10_alike (d, 0, 0, 0, 0) 0 [(0, .ref (gad (gSS ad) 145)), (1, .int (iv (f : Int))), (2, .int (iv (g : Int))), (3, .int (iv (w : Int)))] [] _ _
  have hw1 := hW.1
  have hw2 := hW'.1
  refine gg_iload_n dX10_alike_0 1 rfl ?_
  refine gg_callSi (own := RX10) (yt := gm_X10_isFormula) rfl gl_RX10_181 gk_X10_isFormula gr_X10_isFormula dX10_alike_1 (c_X10_isFormula (d := d - 1) (by omega) (by omega)) rfl rfl (Nat.le_of_ble_eq_true rfl) (by show _ ≤ d; omega) ⟨Nat.le_refl _, Nat.le_refl _⟩ (fun e1 μ' hc => ?_)
  obtain ⟨rfl, ⟨rfl, hb2⟩ | ⟨rfl, hb2⟩⟩ := hc
  rotate_left
  · omega
  refine gg_if_eq_f (tgt := 23) dX10_alike_4 (by decide) (by decide) (by decide) ?_
  refine gg_iload_n dX10_alike_7 2 rfl ?_
  refine gg_callSi (own := RX10) (yt := gm_X10_isFormula) rfl gl_RX10_181 gk_X10_isFormula gr_X10_isFormula dX10_alike_8 (c_X10_isFormula (d := d - 1) (by omega) (by omega)) rfl rfl (Nat.le_of_ble_eq_true rfl) (by show _ ≤ d; omega) ⟨Nat.le_refl _, Nat.le_refl _⟩ (fun e3 μ' hc => ?_)
  obtain ⟨rfl, ⟨rfl, hb4⟩ | ⟨rfl, hb4⟩⟩ := hc
  rotate_left
  · omega
  refine gg_if_eq_f (tgt := 23) dX10_alike_11 (by decide) (by decide) (by decide) ?_
  refine gg_iload_n dX10_alike_14 3 rfl ?_
  refine gg_iconst dX10_alike_15 ?_
  refine gg_iconst dX10_alike_16 ?_
  refine gg_callSi (own := RX10) (yt := gm_X10_in) rfl gl_RX10_84 gk_X10_in gr_X10_in dX10_alike_17 (c_X10_in (d := d - 1) (by omega)) rfl rfl (Nat.le_of_ble_eq_true rfl) (by show _ ≤ d; omega) ⟨Nat.le_refl _, Nat.le_refl _⟩ (fun e5 μ' hc => ?_)
  obtain ⟨rfl, ⟨rfl, hb6⟩ | ⟨rfl, hb6⟩⟩ := hc
  rotate_left
  · omega
  refine gg_if_ne_t (tgt := 26) dX10_alike_20 (by decide) (by decide) (by decide) ?_
  refine gg_aload_n dX10_alike_26 0 rfl ?_
  refine gg_getR (k' := 146) rfl gf_RX10_9 dX10_alike_27 sh_145 pl_145 (by decide) (by decide) rr_145_0 ?_
  refine gg_iload_n dX10_alike_30 1 rfl ?_
  refine gg_ialdj f dX10_alike_31 sh_146 pl_146 (by decide) rfl (by omega) ?_
  refine gg_toI (b := (n : Int)) hM.1 ?_
  refine gg_if_eq (tgt := 49) dX10_alike_32 (by decide) (by omega) (fun hn0 => ?_) (fun hn0 => ?_)
  · refine gg_bipush dX10_alike_49 (by decide) ?_
    refine gg_ireti dX10_alike_51 rfl ⟨rfl, rfl⟩ ?_
    refine ⟨rfl, ?_⟩
    unfold gAk
    first | (left; refine ⟨?_, rfl⟩; omega) | (right; refine ⟨by omega, ?_⟩; first | (left; exact ⟨by omega, Or.inl ⟨hal, rfl⟩⟩) | (left; exact ⟨by omega, Or.inr ⟨hal, rfl⟩⟩) | (right; left; exact ⟨by omega, mo, rfl, hmo⟩) | (right; right; exact ⟨by omega, rfl⟩))
  · refine gg_aload_n dX10_alike_35 0 rfl ?_
    refine gg_getR (k' := 146) rfl gf_RX10_9 dX10_alike_36 sh_145 pl_145 (by decide) (by decide) rr_145_0 ?_
    refine gg_iload_n dX10_alike_39 2 rfl ?_
    refine gg_ialdj g dX10_alike_40 sh_146 pl_146 (by decide) rfl (by omega) ?_
    refine gg_toI (b := (n' : Int)) hM'.1 ?_
    refine gg_if_ne (tgt := 52) dX10_alike_41 (by decide) (by omega) (fun hn1 => ?_) (fun hn1 => ?_)
    · refine gg_iload_n dX10_alike_52 3 rfl ?_
      refine gg_iconst dX10_alike_53 ?_
      refine gg_icmp_ne (tgt := 63) dX10_alike_54 (by decide) (by omega) (fun hb7 => ?_) (fun hb7 => ?_)
      · refine gg_iload_n dX10_alike_63 3 rfl ?_
        refine gg_iconst dX10_alike_64 ?_
        refine gg_icmp_ne (tgt := 77) dX10_alike_65 (by decide) (by omega) (fun hb8 => ?_) (fun hb8 => ?_)
        · refine gg_aload_n dX10_alike_77 0 rfl ?_
          refine gg_iload_n dX10_alike_78 1 rfl ?_
          refine gg_iconst dX10_alike_79 ?_
          refine gg_iload_n dX10_alike_80 2 rfl ?_
          refine gg_iconst dX10_alike_81 ?_
          refine gg_callVi (own := RX10) (yt := gm_X10_areAlike) rfl gl_RX10_321 gk_X10_areAlike gr_X10_areAlike dX10_alike_82 (c_X10_areAlike (d := d - 1) hf hM hW hg hM' hW' (i := 0) (j := 0) (by omega) (by omega)) sh_145 pl_145 (by decide) rfl rfl rfl (Nat.le_of_ble_eq_true rfl) (by show _ ≤ d; omega) ⟨Nat.le_refl _, Nat.le_refl _⟩ (fun e9 μ' hc => ?_)
          obtain ⟨rfl, ⟨rfl, hal⟩ | ⟨rfl, hal⟩⟩ := hc
          · refine gg_if_eq_f (tgt := 92) dX10_alike_85 (by decide) (by decide) (by decide) ?_
            refine gg_iconst dX10_alike_88 ?_
            refine gg_goto (tgt := 93) dX10_alike_89 (by decide) ?_
            refine gg_ireti dX10_alike_93 rfl ⟨rfl, rfl⟩ ?_
            refine ⟨rfl, ?_⟩
            unfold gAk
            first | (left; refine ⟨?_, rfl⟩; omega) | (right; refine ⟨by omega, ?_⟩; first | (left; exact ⟨by omega, Or.inl ⟨hal, rfl⟩⟩) | (left; exact ⟨by omega, Or.inr ⟨hal, rfl⟩⟩) | (right; left; exact ⟨by omega, mo, rfl, hmo⟩) | (right; right; exact ⟨by omega, rfl⟩))
          · refine gg_if_eq_t (tgt := 92) dX10_alike_85 (by decide) (by decide) (by decide) ?_
            refine gg_iconst dX10_alike_92 ?_
            refine gg_ireti dX10_alike_93 rfl ⟨rfl, rfl⟩ ?_
            refine ⟨rfl, ?_⟩
            unfold gAk
            first | (left; refine ⟨?_, rfl⟩; omega) | (right; refine ⟨by omega, ?_⟩; first | (left; exact ⟨by omega, Or.inl ⟨hal, rfl⟩⟩) | (left; exact ⟨by omega, Or.inr ⟨hal, rfl⟩⟩) | (right; left; exact ⟨by omega, mo, rfl, hmo⟩) | (right; right; exact ⟨by omega, rfl⟩))
        · refine gg_aload_n dX10_alike_68 0 rfl ?_
          refine gg_iload_n dX10_alike_69 1 rfl ?_
          refine gg_iload_n dX10_alike_70 2 rfl ?_
          refine gg_callVi (own := RX10) (yt := gm_X10_shared) rfl gl_RX10_328 gk_X10_shared gr_X10_shared dX10_alike_71 (c_X10_shared (d := d - 1) hf hM hW hg hM' hW' (by omega)) sh_145 pl_145 (by decide) rfl rfl rfl (Nat.le_of_ble_eq_true rfl) (by show _ ≤ d; omega) ⟨Nat.le_refl _, Nat.le_refl _⟩ (fun e10 μ' hc => ?_)
          obtain ⟨rfl, mo, rfl, hmo0, hmo⟩ := hc
          refine gg_goto (tgt := 93) dX10_alike_74 (by decide) ?_
          refine gg_ireti dX10_alike_93 rfl ⟨rfl, rfl⟩ ?_
          refine ⟨rfl, ?_⟩
          unfold gAk
          first | (left; refine ⟨?_, rfl⟩; omega) | (right; refine ⟨by omega, ?_⟩; first | (left; exact ⟨by omega, Or.inl ⟨hal, rfl⟩⟩) | (left; exact ⟨by omega, Or.inr ⟨hal, rfl⟩⟩) | (right; left; exact ⟨by omega, mo, rfl, hmo⟩) | (right; right; exact ⟨by omega, rfl⟩))
      · refine gg_aload_n dX10_alike_57 0 rfl ?_
        refine gg_iload_n dX10_alike_58 1 rfl ?_
        refine gg_callVi (own := RX10) (yt := gm_X10_unlike) rfl gl_RX10_325 gk_X10_unlike gr_X10_unlike dX10_alike_59 (c_X10_unlike (d := d - 1) hf hM hW (by omega)) sh_145 pl_145 (by decide) rfl rfl rfl (Nat.le_of_ble_eq_true rfl) (by show _ ≤ d; omega) ⟨Nat.le_refl _, Nat.le_refl _⟩ (fun e11 μ' hc => ?_)
        obtain ⟨rfl, rfl⟩ := hc
        refine gg_ireti dX10_alike_62 rfl ⟨rfl, rfl⟩ ?_
        refine ⟨rfl, ?_⟩
        unfold gAk
        first | (left; refine ⟨?_, rfl⟩; omega) | (right; refine ⟨by omega, ?_⟩; first | (left; exact ⟨by omega, Or.inl ⟨hal, rfl⟩⟩) | (left; exact ⟨by omega, Or.inr ⟨hal, rfl⟩⟩) | (right; left; exact ⟨by omega, mo, rfl, hmo⟩) | (right; right; exact ⟨by omega, rfl⟩))
    · refine gg_iload_n dX10_alike_44 3 rfl ?_
      refine gg_iconst dX10_alike_45 ?_
      refine gg_icmp_ge (tgt := 52) dX10_alike_46 (by decide) (by omega) (fun hb12 => ?_) (fun hb12 => ?_)
      · refine gg_iload_n dX10_alike_52 3 rfl ?_
        refine gg_iconst dX10_alike_53 ?_
        refine gg_icmp_ne (tgt := 63) dX10_alike_54 (by decide) (by omega) (fun hb13 => ?_) (fun hb13 => ?_)
        · refine gg_iload_n dX10_alike_63 3 rfl ?_
          refine gg_iconst dX10_alike_64 ?_
          refine gg_icmp_ne (tgt := 77) dX10_alike_65 (by decide) (by omega) (fun hb14 => ?_) (fun hb14 => ?_)
          · refine gg_aload_n dX10_alike_77 0 rfl ?_
            refine gg_iload_n dX10_alike_78 1 rfl ?_
            refine gg_iconst dX10_alike_79 ?_
            refine gg_iload_n dX10_alike_80 2 rfl ?_
            refine gg_iconst dX10_alike_81 ?_
            refine gg_callVi (own := RX10) (yt := gm_X10_areAlike) rfl gl_RX10_321 gk_X10_areAlike gr_X10_areAlike dX10_alike_82 (c_X10_areAlike (d := d - 1) hf hM hW hg hM' hW' (i := 0) (j := 0) (by omega) (by omega)) sh_145 pl_145 (by decide) rfl rfl rfl (Nat.le_of_ble_eq_true rfl) (by show _ ≤ d; omega) ⟨Nat.le_refl _, Nat.le_refl _⟩ (fun e15 μ' hc => ?_)
            obtain ⟨rfl, ⟨rfl, hal⟩ | ⟨rfl, hal⟩⟩ := hc
            · refine gg_if_eq_f (tgt := 92) dX10_alike_85 (by decide) (by decide) (by decide) ?_
              refine gg_iconst dX10_alike_88 ?_
              refine gg_goto (tgt := 93) dX10_alike_89 (by decide) ?_
              refine gg_ireti dX10_alike_93 rfl ⟨rfl, rfl⟩ ?_
              refine ⟨rfl, ?_⟩
              unfold gAk
              first | (left; refine ⟨?_, rfl⟩; omega) | (right; refine ⟨by omega, ?_⟩; first | (left; exact ⟨by omega, Or.inl ⟨hal, rfl⟩⟩) | (left; exact ⟨by omega, Or.inr ⟨hal, rfl⟩⟩) | (right; left; exact ⟨by omega, mo, rfl, hmo⟩) | (right; right; exact ⟨by omega, rfl⟩))
            · refine gg_if_eq_t (tgt := 92) dX10_alike_85 (by decide) (by decide) (by decide) ?_
              refine gg_iconst dX10_alike_92 ?_
              refine gg_ireti dX10_alike_93 rfl ⟨rfl, rfl⟩ ?_
              refine ⟨rfl, ?_⟩
              unfold gAk
              first | (left; refine ⟨?_, rfl⟩; omega) | (right; refine ⟨by omega, ?_⟩; first | (left; exact ⟨by omega, Or.inl ⟨hal, rfl⟩⟩) | (left; exact ⟨by omega, Or.inr ⟨hal, rfl⟩⟩) | (right; left; exact ⟨by omega, mo, rfl, hmo⟩) | (right; right; exact ⟨by omega, rfl⟩))
          · refine gg_aload_n dX10_alike_68 0 rfl ?_
            refine gg_iload_n dX10_alike_69 1 rfl ?_
            refine gg_iload_n dX10_alike_70 2 rfl ?_
            refine gg_callVi (own := RX10) (yt := gm_X10_shared) rfl gl_RX10_328 gk_X10_shared gr_X10_shared dX10_alike_71 (c_X10_shared (d := d - 1) hf hM hW hg hM' hW' (by omega)) sh_145 pl_145 (by decide) rfl rfl rfl (Nat.le_of_ble_eq_true rfl) (by show _ ≤ d; omega) ⟨Nat.le_refl _, Nat.le_refl _⟩ (fun e16 μ' hc => ?_)
            obtain ⟨rfl, mo, rfl, hmo0, hmo⟩ := hc
            refine gg_goto (tgt := 93) dX10_alike_74 (by decide) ?_
            refine gg_ireti dX10_alike_93 rfl ⟨rfl, rfl⟩ ?_
            refine ⟨rfl, ?_⟩
            unfold gAk
            first | (left; refine ⟨?_, rfl⟩; omega) | (right; refine ⟨by omega, ?_⟩; first | (left; exact ⟨by omega, Or.inl ⟨hal, rfl⟩⟩) | (left; exact ⟨by omega, Or.inr ⟨hal, rfl⟩⟩) | (right; left; exact ⟨by omega, mo, rfl, hmo⟩) | (right; right; exact ⟨by omega, rfl⟩))
        · refine gg_aload_n dX10_alike_57 0 rfl ?_
          refine gg_iload_n dX10_alike_58 1 rfl ?_
          refine gg_callVi (own := RX10) (yt := gm_X10_unlike) rfl gl_RX10_325 gk_X10_unlike gr_X10_unlike dX10_alike_59 (c_X10_unlike (d := d - 1) hf hM hW (by omega)) sh_145 pl_145 (by decide) rfl rfl rfl (Nat.le_of_ble_eq_true rfl) (by show _ ≤ d; omega) ⟨Nat.le_refl _, Nat.le_refl _⟩ (fun e17 μ' hc => ?_)
          obtain ⟨rfl, rfl⟩ := hc
          refine gg_ireti dX10_alike_62 rfl ⟨rfl, rfl⟩ ?_
          refine ⟨rfl, ?_⟩
          unfold gAk
          first | (left; refine ⟨?_, rfl⟩; omega) | (right; refine ⟨by omega, ?_⟩; first | (left; exact ⟨by omega, Or.inl ⟨hal, rfl⟩⟩) | (left; exact ⟨by omega, Or.inr ⟨hal, rfl⟩⟩) | (right; left; exact ⟨by omega, mo, rfl, hmo⟩) | (right; right; exact ⟨by omega, rfl⟩))
      · refine gg_bipush dX10_alike_49 (by decide) ?_
        refine gg_ireti dX10_alike_51 rfl ⟨rfl, rfl⟩ ?_
        refine ⟨rfl, ?_⟩
        unfold gAk
        first | (left; refine ⟨?_, rfl⟩; omega) | (right; refine ⟨by omega, ?_⟩; first | (left; exact ⟨by omega, Or.inl ⟨hal, rfl⟩⟩) | (left; exact ⟨by omega, Or.inr ⟨hal, rfl⟩⟩) | (right; left; exact ⟨by omega, mo, rfl, hmo⟩) | (right; right; exact ⟨by omega, rfl⟩))

set_option maxRecDepth 10000 in
theorem c_X10_alike_out {l : Launch} {Γ : gC} {ad : Nat → Nat} {I : Nat → Nat → Int} {J : Nat → Nat → Int64} {d : Nat} {i k w : Int} (hi : -2147483648 ≤ i ∧ i ≤ 2147483647) (hk : -2147483648 ≤ k ∧ k ≤ 2147483647) (hw : -2147483648 ≤ w ∧ w ≤ 2147483647) (ho : ¬ (0 ≤ i ∧ i ≤ 11 ∧ 0 ≤ k ∧ k ≤ 11 ∧ 0 ≤ w ∧ w ≤ 2)) (hd : 3 ≤ d) : gKi l Γ gm_X10_alike d [.ref (gad (gSS ad) 145), .int (iv i), .int (iv k), .int (iv w)] (gSS ad, I, J) (fun e μ => μ = (gSS ad, I, J) ∧ e = -2) := by
  refine gKi_of gk_X10_alike.1 (Nat.le_of_ble_eq_true rfl) ?_
  show gG l Γ gm_X10_alike (d, 0, 0, 0, 0) 0 [(0, .ref (gad (gSS ad) 145)), (1, .int (iv i)), (2, .int (iv k)), (3, .int (iv w))] [] _ _
  refine gg_iload_n dX10_alike_0 1 rfl ?_
  refine gg_callSi (own := RX10) (yt := gm_X10_isFormula) rfl gl_RX10_181 gk_X10_isFormula gr_X10_isFormula dX10_alike_1 (c_X10_isFormula (d := d - 1) (by omega) (by omega)) rfl rfl (Nat.le_of_ble_eq_true rfl) (by show _ ≤ d; omega) ⟨Nat.le_refl _, Nat.le_refl _⟩ (fun e1 μ' hc => ?_)
  obtain ⟨rfl, ⟨rfl, hb2⟩ | ⟨rfl, hb2⟩⟩ := hc
  · refine gg_if_eq_f (tgt := 23) dX10_alike_4 (by decide) (by decide) (by decide) ?_
    refine gg_iload_n dX10_alike_7 2 rfl ?_
    refine gg_callSi (own := RX10) (yt := gm_X10_isFormula) rfl gl_RX10_181 gk_X10_isFormula gr_X10_isFormula dX10_alike_8 (c_X10_isFormula (d := d - 1) (by omega) (by omega)) rfl rfl (Nat.le_of_ble_eq_true rfl) (by show _ ≤ d; omega) ⟨Nat.le_refl _, Nat.le_refl _⟩ (fun e3 μ' hc => ?_)
    obtain ⟨rfl, ⟨rfl, hb4⟩ | ⟨rfl, hb4⟩⟩ := hc
    · refine gg_if_eq_f (tgt := 23) dX10_alike_11 (by decide) (by decide) (by decide) ?_
      refine gg_iload_n dX10_alike_14 3 rfl ?_
      refine gg_iconst dX10_alike_15 ?_
      refine gg_iconst dX10_alike_16 ?_
      refine gg_callSi (own := RX10) (yt := gm_X10_in) rfl gl_RX10_84 gk_X10_in gr_X10_in dX10_alike_17 (c_X10_in (d := d - 1) (by omega)) rfl rfl (Nat.le_of_ble_eq_true rfl) (by show _ ≤ d; omega) ⟨Nat.le_refl _, Nat.le_refl _⟩ (fun e5 μ' hc => ?_)
      obtain ⟨rfl, ⟨rfl, hb6⟩ | ⟨rfl, hb6⟩⟩ := hc
      · refine gg_if_ne_t (tgt := 26) dX10_alike_20 (by decide) (by decide) (by decide) ?_
        exfalso
        omega
      · refine gg_if_ne_f (tgt := 26) dX10_alike_20 (by decide) (by decide) (by decide) ?_
        refine gg_bipush dX10_alike_23 (by decide) ?_
        refine gg_ireti dX10_alike_25 rfl ⟨rfl, rfl⟩ ?_
        exact ⟨rfl, rfl⟩
    · refine gg_if_eq_t (tgt := 23) dX10_alike_11 (by decide) (by decide) (by decide) ?_
      refine gg_bipush dX10_alike_23 (by decide) ?_
      refine gg_ireti dX10_alike_25 rfl ⟨rfl, rfl⟩ ?_
      exact ⟨rfl, rfl⟩
  · refine gg_if_eq_t (tgt := 23) dX10_alike_4 (by decide) (by decide) (by decide) ?_
    refine gg_bipush dX10_alike_23 (by decide) ?_
    refine gg_ireti dX10_alike_25 rfl ⟨rfl, rfl⟩ ?_
    exact ⟨rfl, rfl⟩

