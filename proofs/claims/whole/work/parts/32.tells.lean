/-! tells: the whole calls -/
noncomputable def gTs (nf : Nat → Nat) (Kf : Nat → Nat → Nat) (Nf : Nat → Nat → Int64) (Zf : Nat → Nat → Nat) (f nm : Nat) (wh pl so : Int) (sn : Nat) (v T : Nat → Int) : Int := if pl < 0 then -2 else if nf f = 0 then -3 else if so < 0 then -11 else if 20 < sn then -2 else if wh = 0 then gFi (gOt (nf f) (Kf f) (Nf f) (Zf f) v nm T) sn else if wh = 1 then gBt (fun k : Nat => 0 < nf k ∧ gFi (gOt (nf k) (Kf k) (Nf k) (Zf k) v nm T) sn = -1) 12 else if wh = 2 then gBt (fun k : Nat => gFi (gOt (nf f) (Kf f) (Nf f) (Zf f) v k T) sn = -1) 8 else if 100 ≤ wh then gFi (fun t : Nat => gFi (gOt (nf f) (Kf f) (gst (Nf f) pl.toNat (gi2l (t : Int))) (Zf f) v nm T) sn = -1) 100 else (gCo (fun t : Nat => gFi (gOt (nf f) (Kf f) (gst (Nf f) pl.toNat (gi2l (t : Int))) (Zf f) v nm T) sn = -1) 100 : Int)
theorem gOt_congr {n : Nat} {K : Nat → Nat} {N : Nat → Int64} {Z : Nat → Nat} (hW : gWf n K N Z) (hn : 0 < n) {v v' T T' : Nat → Int} {nm i : Nat} (hv : ∀ q, q < 8 → v q = v' q) (hT : T i = T' i) : gOt n K N Z v nm T i ↔ gOt n K N Z v' nm T' i := by
  unfold gOt
  rw [gWo_v hW (v := gup v nm (i : Int)) (v' := gup v' nm (i : Int)) (fun q hq => by simp only [gup]; rw [hv q hq]) hn, hT]
theorem gTs_congr {nf : Nat → Nat} {Kf : Nat → Nat → Nat} {Nf : Nat → Nat → Int64} {Zf : Nat → Nat → Nat} {f nm : Nat} {wh pl so : Int} {sn : Nat} {v v' T T' : Nat → Int} (hf : f < 12) (hW : ∀ f, f < 12 → gWf (nf f) (Kf f) (Nf f) (Zf f)) (hp : 10 ≤ wh → 0 ≤ pl → Kf f pl.toNat = 0) (hv : ∀ q, q < 8 → v q = v' q) (hT : ∀ j, j < sn → T j = T' j) (hwh : (0 ≤ wh ∧ wh ≤ 2) ∨ 10 ≤ wh) : gTs nf Kf Nf Zf f nm wh pl so sn v T = gTs nf Kf Nf Zf f nm wh pl so sn v' T' := by
  unfold gTs
  by_cases h1 : pl < 0
  · rw [if_pos h1, if_pos h1]
  rw [if_neg h1, if_neg h1]
  by_cases h2 : nf f = 0
  · rw [if_pos h2, if_pos h2]
  rw [if_neg h2, if_neg h2]
  by_cases h3 : so < 0
  · rw [if_pos h3, if_pos h3]
  rw [if_neg h3, if_neg h3]
  by_cases h4 : 20 < sn
  · rw [if_pos h4, if_pos h4]
  rw [if_neg h4, if_neg h4]
  have h0 : 0 < nf f := by omega
  by_cases h5 : wh = 0
  · rw [if_pos h5, if_pos h5]
    exact gFi_congr sn (fun t ht => gOt_congr (hW f hf) h0 hv (hT t ht))
  rw [if_neg h5, if_neg h5]
  by_cases h6 : wh = 1
  · rw [if_pos h6, if_pos h6]
    refine gBt_congr 12 (fun k hk => ?_)
    refine ⟨fun h => ⟨h.1, ?_⟩, fun h => ⟨h.1, ?_⟩⟩
    · rw [← gFi_congr sn (fun t ht => gOt_congr (hW k hk) h.1 hv (hT t ht))]
      exact h.2
    · rw [gFi_congr sn (fun t ht => gOt_congr (hW k hk) h.1 hv (hT t ht))]
      exact h.2
  rw [if_neg h6, if_neg h6]
  by_cases h7 : wh = 2
  · rw [if_pos h7, if_pos h7]
    refine gBt_congr 8 (fun k hk => ?_)
    show gFi _ sn = -1 ↔ gFi _ sn = -1
    rw [gFi_congr sn (fun t ht => gOt_congr (hW f hf) h0 hv (hT t ht))]
  rw [if_neg h7, if_neg h7]
  have hk := hp (by omega) (by omega)
  have hq : ∀ t : Nat, (gFi (gOt (nf f) (Kf f) (gst (Nf f) pl.toNat (gi2l (t : Int))) (Zf f) v nm T) sn = -1) ↔ (gFi (gOt (nf f) (Kf f) (gst (Nf f) pl.toNat (gi2l (t : Int))) (Zf f) v' nm T') sn = -1) := by
    intro t
    rw [gFi_congr sn (fun i hi => gOt_congr (gWf_st (hW f hf) hk) h0 hv (hT i hi))]
  by_cases h8 : 100 ≤ wh
  · rw [if_pos h8, if_pos h8]
    exact gFi_congr 100 (fun t _ => hq t)
  · rw [if_neg h8, if_neg h8, gCo_congr 100 (fun t _ => hq t)]
set_option maxRecDepth 10000 in
theorem c_X9_isQuestion {l : Launch} {Γ : gC} {ad : Nat → Nat} {I : Nat → Nat → Int} {J : Nat → Nat → Int64} {d : Nat} {w : Int} (hw : -2147483648 ≤ w ∧ w ≤ 2147483647) : gKi l Γ gm_X9_isQuestion d [.int (iv w)] (gSS ad, I, J) (fun e μ => μ = (gSS ad, I, J) ∧ ((e = 1 ∧ (((0 ≤ w ∧ w ≤ 2) ∨ (10 ≤ w ∧ w ≤ 50) ∨ (100 ≤ w ∧ w ≤ 140)))) ∨ (e = 0 ∧ ¬ (((0 ≤ w ∧ w ≤ 2) ∨ (10 ≤ w ∧ w ≤ 50) ∨ (100 ≤ w ∧ w ≤ 140)))))) := by
  refine gKi_of gk_X9_isQuestion.1 (Nat.le_of_ble_eq_true rfl) ?_
  show gG l Γ gm_X9_isQuestion (d, 0, 0, 0, 0) 0 [(0, .int (iv w))] [] _ _
  refine gg_iload_n dX9_isQuestion_0 0 rfl ?_
  refine gg_if_lt (tgt := 9) dX9_isQuestion_1 (by decide) (by omega) (fun hb1 => ?_) (fun hb1 => ?_)
  · refine gg_iload_n dX9_isQuestion_9 0 rfl ?_
    refine gg_bipush dX9_isQuestion_10 (by decide) ?_
    refine gg_icmp_lt (tgt := 21) dX9_isQuestion_12 (by decide) (by omega) (fun hb2 => ?_) (fun hb2 => ?_)
    · refine gg_iload_n dX9_isQuestion_21 0 rfl ?_
      refine gg_bipush dX9_isQuestion_22 (by decide) ?_
      refine gg_icmp_lt (tgt := 38) dX9_isQuestion_24 (by decide) (by omega) (fun hb3 => ?_) (fun hb3 => ?_)
      · refine gg_iconst dX9_isQuestion_38 ?_
        refine gg_iretz dX9_isQuestion_39 rfl (by decide) ⟨rfl, rfl⟩ ?_
        exact ⟨rfl, Or.inr ⟨rfl, by omega⟩⟩
      · refine gg_iload_n dX9_isQuestion_27 0 rfl ?_
        refine gg_sipush dX9_isQuestion_28 (by decide) ?_
        refine gg_icmp_gt (tgt := 38) dX9_isQuestion_31 (by decide) (by omega) (fun hb4 => ?_) (fun hb4 => ?_)
        · refine gg_iconst dX9_isQuestion_38 ?_
          refine gg_iretz dX9_isQuestion_39 rfl (by decide) ⟨rfl, rfl⟩ ?_
          exact ⟨rfl, Or.inr ⟨rfl, by omega⟩⟩
        · refine gg_iconst dX9_isQuestion_34 ?_
          refine gg_goto (tgt := 39) dX9_isQuestion_35 (by decide) ?_
          refine gg_iretz dX9_isQuestion_39 rfl (by decide) ⟨rfl, rfl⟩ ?_
          exact ⟨rfl, Or.inl ⟨rfl, by omega⟩⟩
    · refine gg_iload_n dX9_isQuestion_15 0 rfl ?_
      refine gg_bipush dX9_isQuestion_16 (by decide) ?_
      refine gg_icmp_le (tgt := 34) dX9_isQuestion_18 (by decide) (by omega) (fun hb5 => ?_) (fun hb5 => ?_)
      · refine gg_iconst dX9_isQuestion_34 ?_
        refine gg_goto (tgt := 39) dX9_isQuestion_35 (by decide) ?_
        refine gg_iretz dX9_isQuestion_39 rfl (by decide) ⟨rfl, rfl⟩ ?_
        exact ⟨rfl, Or.inl ⟨rfl, by omega⟩⟩
      · refine gg_iload_n dX9_isQuestion_21 0 rfl ?_
        refine gg_bipush dX9_isQuestion_22 (by decide) ?_
        refine gg_icmp_lt (tgt := 38) dX9_isQuestion_24 (by decide) (by omega) (fun hb6 => ?_) (fun hb6 => ?_)
        · refine gg_iconst dX9_isQuestion_38 ?_
          refine gg_iretz dX9_isQuestion_39 rfl (by decide) ⟨rfl, rfl⟩ ?_
          exact ⟨rfl, Or.inr ⟨rfl, by omega⟩⟩
        · refine gg_iload_n dX9_isQuestion_27 0 rfl ?_
          refine gg_sipush dX9_isQuestion_28 (by decide) ?_
          refine gg_icmp_gt (tgt := 38) dX9_isQuestion_31 (by decide) (by omega) (fun hb7 => ?_) (fun hb7 => ?_)
          · refine gg_iconst dX9_isQuestion_38 ?_
            refine gg_iretz dX9_isQuestion_39 rfl (by decide) ⟨rfl, rfl⟩ ?_
            exact ⟨rfl, Or.inr ⟨rfl, by omega⟩⟩
          · refine gg_iconst dX9_isQuestion_34 ?_
            refine gg_goto (tgt := 39) dX9_isQuestion_35 (by decide) ?_
            refine gg_iretz dX9_isQuestion_39 rfl (by decide) ⟨rfl, rfl⟩ ?_
            exact ⟨rfl, Or.inl ⟨rfl, by omega⟩⟩
  · refine gg_iload_n dX9_isQuestion_4 0 rfl ?_
    refine gg_iconst dX9_isQuestion_5 ?_
    refine gg_icmp_le (tgt := 34) dX9_isQuestion_6 (by decide) (by omega) (fun hb8 => ?_) (fun hb8 => ?_)
    · refine gg_iconst dX9_isQuestion_34 ?_
      refine gg_goto (tgt := 39) dX9_isQuestion_35 (by decide) ?_
      refine gg_iretz dX9_isQuestion_39 rfl (by decide) ⟨rfl, rfl⟩ ?_
      exact ⟨rfl, Or.inl ⟨rfl, by omega⟩⟩
    · refine gg_iload_n dX9_isQuestion_9 0 rfl ?_
      refine gg_bipush dX9_isQuestion_10 (by decide) ?_
      refine gg_icmp_lt (tgt := 21) dX9_isQuestion_12 (by decide) (by omega) (fun hb9 => ?_) (fun hb9 => ?_)
      · refine gg_iload_n dX9_isQuestion_21 0 rfl ?_
        refine gg_bipush dX9_isQuestion_22 (by decide) ?_
        refine gg_icmp_lt (tgt := 38) dX9_isQuestion_24 (by decide) (by omega) (fun hb10 => ?_) (fun hb10 => ?_)
        · refine gg_iconst dX9_isQuestion_38 ?_
          refine gg_iretz dX9_isQuestion_39 rfl (by decide) ⟨rfl, rfl⟩ ?_
          exact ⟨rfl, Or.inr ⟨rfl, by omega⟩⟩
        · refine gg_iload_n dX9_isQuestion_27 0 rfl ?_
          refine gg_sipush dX9_isQuestion_28 (by decide) ?_
          refine gg_icmp_gt (tgt := 38) dX9_isQuestion_31 (by decide) (by omega) (fun hb11 => ?_) (fun hb11 => ?_)
          · refine gg_iconst dX9_isQuestion_38 ?_
            refine gg_iretz dX9_isQuestion_39 rfl (by decide) ⟨rfl, rfl⟩ ?_
            exact ⟨rfl, Or.inr ⟨rfl, by omega⟩⟩
          · refine gg_iconst dX9_isQuestion_34 ?_
            refine gg_goto (tgt := 39) dX9_isQuestion_35 (by decide) ?_
            refine gg_iretz dX9_isQuestion_39 rfl (by decide) ⟨rfl, rfl⟩ ?_
            exact ⟨rfl, Or.inl ⟨rfl, by omega⟩⟩
      · refine gg_iload_n dX9_isQuestion_15 0 rfl ?_
        refine gg_bipush dX9_isQuestion_16 (by decide) ?_
        refine gg_icmp_le (tgt := 34) dX9_isQuestion_18 (by decide) (by omega) (fun hb12 => ?_) (fun hb12 => ?_)
        · refine gg_iconst dX9_isQuestion_34 ?_
          refine gg_goto (tgt := 39) dX9_isQuestion_35 (by decide) ?_
          refine gg_iretz dX9_isQuestion_39 rfl (by decide) ⟨rfl, rfl⟩ ?_
          exact ⟨rfl, Or.inl ⟨rfl, by omega⟩⟩
        · refine gg_iload_n dX9_isQuestion_21 0 rfl ?_
          refine gg_bipush dX9_isQuestion_22 (by decide) ?_
          refine gg_icmp_lt (tgt := 38) dX9_isQuestion_24 (by decide) (by omega) (fun hb13 => ?_) (fun hb13 => ?_)
          · refine gg_iconst dX9_isQuestion_38 ?_
            refine gg_iretz dX9_isQuestion_39 rfl (by decide) ⟨rfl, rfl⟩ ?_
            exact ⟨rfl, Or.inr ⟨rfl, by omega⟩⟩
          · refine gg_iload_n dX9_isQuestion_27 0 rfl ?_
            refine gg_sipush dX9_isQuestion_28 (by decide) ?_
            refine gg_icmp_gt (tgt := 38) dX9_isQuestion_31 (by decide) (by omega) (fun hb14 => ?_) (fun hb14 => ?_)
            · refine gg_iconst dX9_isQuestion_38 ?_
              refine gg_iretz dX9_isQuestion_39 rfl (by decide) ⟨rfl, rfl⟩ ?_
              exact ⟨rfl, Or.inr ⟨rfl, by omega⟩⟩
            · refine gg_iconst dX9_isQuestion_34 ?_
              refine gg_goto (tgt := 39) dX9_isQuestion_35 (by decide) ?_
              refine gg_iretz dX9_isQuestion_39 rfl (by decide) ⟨rfl, rfl⟩ ?_
              exact ⟨rfl, Or.inl ⟨rfl, by omega⟩⟩

set_option maxRecDepth 10000 in
theorem c_X9_tells {l : Launch} {Γ : gC} {ad : Nat → Nat} {I : Nat → Nat → Int} {J : Nat → Nat → Int64} {d : Nat} {nf : Nat → Nat} {Kf : Nat → Nat → Nat} {Nf : Nat → Nat → Int64} {Zf : Nat → Nat → Nat} (hA : ∀ f, f < 12 → gAt I J (41 + 8 * f) (nf f) (Kf f) (Nf f) (Zf f)) (hW : ∀ f, f < 12 → gWf (nf f) (Kf f) (Nf f) (Zf f)) {s sn f nm : Nat} {so wh : Int} {T v : Nat → Int} (hs : s < 4) (hf : f < 12) (hnm : nm < 8) (hso : I (137 + 2 * s) 1 = so) (hsn : I (137 + 2 * s) 2 = (sn : Int)) (hr : -1 ≤ so ∧ so ≤ 1) (hn4 : sn ≤ 40) (hTr : ∀ j, j < sn → -2147483648 ≤ T j ∧ T j ≤ 2147483647) (hv : I 3 = v) (hT : I (138 + 2 * s) = T) (hwh : ((0 ≤ wh ∧ wh ≤ 2) ∨ (10 ≤ wh ∧ wh ≤ 50) ∨ (100 ≤ wh ∧ wh ≤ 140))) (hd : 9 ≤ d) : gKi l Γ gm_X9_tells d [.ref (gad (gSS ad) 0), .int (iv (s : Int)), .int (iv (f : Int)), .int (iv (nm : Int)), .int (iv wh)] (gSS ad, I, J) (fun e μ => ∃ pl : Int, (wh < 10 → pl = 0) ∧ (10 ≤ wh → gPno (Kf f) (nf f) (if wh < 100 then wh - 10 else wh - 100) pl) ∧ ∃ I' J', μ = (gSS ad, I', J') ∧ (∀ p, p ≠ 7 → p ≠ 8 → p ≠ 9 → p ≠ 11 → I' p = I p) ∧ (∀ p, p ≠ 26 → p ≠ 10 → J' p = J p) ∧ e = gTs nf Kf Nf Zf f nm wh pl so sn v T) := by
  refine gKi_of gk_X9_tells.1 (Nat.le_of_ble_eq_true rfl) ?_
  show gG l Γ gm_X9_tells (d, 0, 0, 0, 0) 0 [(0, .ref (gad (gSS ad) 0)), (1, .int (iv (s : Int))), (2, .int (iv (f : Int))), (3, .int (iv (nm : Int))), (4, .int (iv wh))] [] _ _
  refine gg_iload_n dX9_tells_0 1 rfl ?_
  refine gg_callSi (own := RX9) (yt := gm_X9_isSheet) rfl gl_RX9_236 gk_X9_isSheet gr_X9_isSheet dX9_tells_1 (c_X9_isSheet (d := d - 1) (by omega)) rfl rfl (Nat.le_of_ble_eq_true rfl) (by show _ ≤ d; omega) ⟨Nat.le_refl _, Nat.le_refl _⟩ (fun e1 μ' hc => ?_)
  obtain ⟨rfl, ⟨rfl, hb2⟩ | ⟨rfl, hb2⟩⟩ := hc
  rotate_left
  · omega
  refine gg_if_eq_f (tgt := 29) dX9_tells_4 (by decide) (by decide) (by decide) ?_
  refine gg_iload_n dX9_tells_7 2 rfl ?_
  refine gg_callSi (own := RX9) (yt := gm_X9_isFormula) rfl gl_RX9_106 gk_X9_isFormula gr_X9_isFormula dX9_tells_8 (c_X9_isFormula (d := d - 1) (by omega)) rfl rfl (Nat.le_of_ble_eq_true rfl) (by show _ ≤ d; omega) ⟨Nat.le_refl _, Nat.le_refl _⟩ (fun e3 μ' hc => ?_)
  obtain ⟨rfl, ⟨rfl, hb4⟩ | ⟨rfl, hb4⟩⟩ := hc
  rotate_left
  · omega
  refine gg_if_eq_f (tgt := 29) dX9_tells_11 (by decide) (by decide) (by decide) ?_
  refine gg_iload_n dX9_tells_14 3 rfl ?_
  refine gg_callSi (own := RX9) (yt := gm_X9_isName) rfl gl_RX9_122 gk_X9_isName gr_X9_isName dX9_tells_15 (c_X9_isName (d := d - 1) (by omega)) rfl rfl (Nat.le_of_ble_eq_true rfl) (by show _ ≤ d; omega) ⟨Nat.le_refl _, Nat.le_refl _⟩ (fun e5 μ' hc => ?_)
  obtain ⟨rfl, ⟨rfl, hb6⟩ | ⟨rfl, hb6⟩⟩ := hc
  rotate_left
  · omega
  refine gg_if_eq_f (tgt := 29) dX9_tells_18 (by decide) (by decide) (by decide) ?_
  refine gg_iload dX9_tells_21 4 rfl ?_
  refine gg_callSi (own := RX9) (yt := gm_X9_isQuestion) rfl gl_RX9_239 gk_X9_isQuestion gr_X9_isQuestion dX9_tells_23 (c_X9_isQuestion (d := d - 1) (by omega)) rfl rfl (Nat.le_of_ble_eq_true rfl) (by show _ ≤ d; omega) ⟨Nat.le_refl _, Nat.le_refl _⟩ (fun e7 μ' hc => ?_)
  obtain ⟨rfl, ⟨rfl, hb8⟩ | ⟨rfl, hb8⟩⟩ := hc
  rotate_left
  · omega
  refine gg_if_ne_t (tgt := 32) dX9_tells_26 (by decide) (by decide) (by decide) ?_
  refine gg_aload_n dX9_tells_32 0 rfl ?_
  refine gg_getR (k' := 1) rfl gf_RX9_11 dX9_tells_33 sh_0 pl_0 (by decide) (by decide) rr_0_0 ?_
  refine gg_iload_n dX9_tells_36 2 rfl ?_
  refine gg_aaldj (t := 4) f (k' := (41 + 8 * f)) dX9_tells_37 sh_1 (by decide) pl_1 (by decide) rfl hf (rr_1 hf) ?_
  refine gg_astore (ls' := [(5, .ref (gad (gSS ad) (41 + 8 * f))), (0, .ref (gad (gSS ad) 0)), (1, .int (iv (s : Int))), (2, .int (iv (f : Int))), (3, .int (iv (nm : Int))), (4, .int (iv wh))]) dX9_tells_38 (by decide) rfl ?_
  refine gg_iload dX9_tells_40 5 rfl ?_
  refine gg_bipush dX9_tells_42 (by decide) ?_
  refine gg_icmp_ge (tgt := 51) dX9_tells_44 (by decide) (by omega) (fun hw => ?_) (fun hw => ?_)
  · refine gg_aload dX9_tells_51 0 rfl ?_
    refine gg_iload dX9_tells_53 5 rfl ?_
    refine gg_bipush dX9_tells_55 (by decide) ?_
    refine gg_icmp_ge (tgt := 68) dX9_tells_57 (by decide) (by omega) (fun hw2 => ?_) (fun hw2 => ?_)
    · refine gg_iload dX9_tells_68 5 rfl ?_
      refine gg_bipush dX9_tells_70 (by decide) ?_
      refine gg_isub dX9_tells_72 ?_
      refine gg_callVi (own := RX9) (yt := gm_X1_placeOfNumber) rfl gl_RX9_242 gk_X1_placeOfNumber gr_X1_placeOfNumber dX9_tells_73 (c_X1_placeOfNumber (d := d - 1) (gF_fo f hf) (hA f hf) (hW f hf) (k := (wh - 100)) (by omega)) (gFsh (gF_fo f hf)) (gFlt (gF_fo f hf)) (by decide) rfl rfl rfl (Nat.le_of_ble_eq_true rfl) (by show _ ≤ d; omega) ⟨Nat.le_refl _, Nat.le_refl _⟩ (fun pe μ' hc => ?_)
      obtain ⟨rfl, hpe⟩ := hc
      have hpr := gPno_rng hpe
      have hnn := (hW f hf).1
      refine gg_istore (ls' := [(6, .int (iv pe)), (5, .ref (gad (gSS ad) (41 + 8 * f))), (0, .ref (gad (gSS ad) 0)), (1, .int (iv (s : Int))), (2, .int (iv (f : Int))), (3, .int (iv (nm : Int))), (4, .int (iv wh))]) dX9_tells_76 (by decide) rfl ?_
      refine gg_iload dX9_tells_78 0 rfl ?_
      refine gg_if_ge (tgt := 86) dX9_tells_80 (by decide) (by omega) (fun hpg => ?_) (fun hpg => ?_)
      · obtain ⟨pl, rfl⟩ : ∃ pl : Nat, pe = (pl : Int) := ⟨pe.toNat, by omega⟩
        have hkp : Kf f pl = 0 := hpr.2.2 (by omega)
        refine gg_aload dX9_tells_86 1 rfl ?_
        refine gg_callVi (own := RX9) (yt := gm_X1_isEmpty) rfl gl_RX9_128 gk_X1_isEmpty gr_X1_isEmpty dX9_tells_88 (c_X1_isEmpty (d := d - 1) (gF_fo f hf) (hA f hf) (hW f hf).1) (gFsh (gF_fo f hf)) (gFlt (gF_fo f hf)) (by decide) rfl rfl rfl (Nat.le_of_ble_eq_true rfl) (by show _ ≤ d; omega) ⟨Nat.le_refl _, Nat.le_refl _⟩ (fun e9 μ' hc => ?_)
        obtain ⟨rfl, ⟨rfl, hn0⟩ | ⟨rfl, hn0⟩⟩ := hc
        · refine gg_if_eq_f (tgt := 97) dX9_tells_91 (by decide) (by decide) (by decide) ?_
          refine gg_bipush dX9_tells_94 (by decide) ?_
          refine gg_ireti dX9_tells_96 rfl ⟨rfl, rfl⟩ ?_
          refine ⟨(pl : Int), fun h => absurd h (by omega), fun _ => by first | (rw [if_pos (show wh < 100 by omega)]; exact hpe) | (rw [if_neg (show ¬ wh < 100 by omega)]; exact hpe), _, _, rfl, fun p h1 h2 h3 h4 => rfl, fun p h1 h2 => rfl, ?_⟩
          unfold gTs
          rw [if_neg (show ¬ (pl : Int) < 0 by omega), if_pos (show nf f = 0 by omega)]
        · refine gg_if_eq_t (tgt := 97) dX9_tells_91 (by decide) (by decide) (by decide) ?_
          refine gg_aload_n dX9_tells_97 2 rfl ?_
          refine gg_getR (k' := 5) rfl gf_RX9_27 dX9_tells_98 sh_0 pl_0 (by decide) (by decide) rr_0_5 ?_
          refine gg_iload_n dX9_tells_101 3 rfl ?_
          refine gg_aaldj (t := 5) s (k' := (137 + 2 * s)) dX9_tells_102 sh_5 (by decide) pl_5 (by decide) rfl hs (rr_5 hs) ?_
          refine gg_astore (ls' := [(7, .ref (gad (gSS ad) (137 + 2 * s))), (6, .int (iv (pl : Int))), (5, .ref (gad (gSS ad) (41 + 8 * f))), (0, .ref (gad (gSS ad) 0)), (1, .int (iv (s : Int))), (2, .int (iv (f : Int))), (3, .int (iv (nm : Int))), (4, .int (iv wh))]) dX9_tells_103 (by decide) rfl ?_
          refine gg_aload dX9_tells_105 0 rfl ?_
          refine gg_callVi (own := RX9) (yt := gm_X6_isMissing) rfl gl_RX9_245 gk_X6_isMissing gr_X6_isMissing dX9_tells_107 (c_X6_isMissing (d := d - 1) hs hso hsn hr hn4) (gSt_sh hs) (gSt_lt hs) (by decide) rfl rfl rfl (Nat.le_of_ble_eq_true rfl) (by show _ ≤ d; omega) ⟨Nat.le_refl _, Nat.le_refl _⟩ (fun e10 μ' hc => ?_)
          obtain ⟨rfl, ⟨rfl, hms⟩ | ⟨rfl, hms⟩⟩ := hc
          · refine gg_if_eq_f (tgt := 116) dX9_tells_110 (by decide) (by decide) (by decide) ?_
            refine gg_bipush dX9_tells_113 (by decide) ?_
            refine gg_ireti dX9_tells_115 rfl ⟨rfl, rfl⟩ ?_
            refine ⟨(pl : Int), fun h => absurd h (by omega), fun _ => by first | (rw [if_pos (show wh < 100 by omega)]; exact hpe) | (rw [if_neg (show ¬ wh < 100 by omega)]; exact hpe), _, _, rfl, fun p h1 h2 h3 h4 => rfl, fun p h1 h2 => rfl, ?_⟩
            unfold gTs
            rw [if_neg (show ¬ (pl : Int) < 0 by omega), if_neg (show ¬ nf f = 0 by omega), if_pos (show so < 0 by omega)]
          · refine gg_if_eq_t (tgt := 116) dX9_tells_110 (by decide) (by decide) (by decide) ?_
            refine gg_aload dX9_tells_116 0 rfl ?_
            refine gg_callVi (own := RX9) (yt := gm_X6_size) rfl gl_RX9_248 gk_X6_size gr_X6_size dX9_tells_118 (c_X6_size (d := d - 1) hs hso hsn hr hn4) (gSt_sh hs) (gSt_lt hs) (by decide) rfl rfl rfl (Nat.le_of_ble_eq_true rfl) (by show _ ≤ d; omega) ⟨Nat.le_refl _, Nat.le_refl _⟩ (fun e11 μ' hc => ?_)
            obtain ⟨rfl, rfl⟩ := hc
            refine gg_bipush dX9_tells_121 (by decide) ?_
            refine gg_icmp_le (tgt := 129) dX9_tells_123 (by decide) (by omega) (fun h20 => ?_) (fun h20 => ?_)
            · refine gg_iload dX9_tells_129 7 rfl ?_
              refine gg_tsw_out (tgt := 183) dX9_tells_131 (by omega) (by omega) (by decide) ?_
              refine gg_aload_n dX9_tells_183 3 rfl ?_
              refine gg_aload dX9_tells_184 0 rfl ?_
              refine gg_aload dX9_tells_186 2 rfl ?_
              refine gg_iload_n dX9_tells_188 6 rfl ?_
              refine gg_iload dX9_tells_189 1 rfl ?_
              refine gg_iload dX9_tells_191 7 rfl ?_
              refine gg_bipush dX9_tells_193 (by decide) ?_
              refine gg_icmp_lt (tgt := 202) dX9_tells_195 (by decide) (by omega) (fun hle => ?_) (fun hle => ?_)
              · refine gg_iconst dX9_tells_202 ?_
                refine gg_callVi (own := RX9) (yt := gm_X9_numbersTold) rfl gl_RX9_261 gk_X9_numbersTold gr_X9_numbersTold dX9_tells_203 (c_X9_numbersTold (d := d - 1) (gF_fo f hf) (hW f hf) (hA f hf) (so := so) (sn := sn) (T := T) (v := v) hs hso hsn hr (by omega) hTr hv hT (nm := nm) (pl := pl) (le := 0) hnm (by omega) hkp (by decide) (by omega)) sh_0 pl_0 (by decide) rfl rfl rfl (Nat.le_of_ble_eq_true rfl) (by show _ ≤ d; omega) ⟨Nat.le_refl _, Nat.le_refl _⟩ (fun e12 μ' hc => ?_)
                obtain ⟨I2, J2, rfl, hI2, hJ2, rfl⟩ := hc
                refine gg_ireti dX9_tells_206 rfl ⟨rfl, rfl⟩ ?_
                refine ⟨(pl : Int), fun h => absurd h (by omega), fun _ => by first | (rw [if_pos (show wh < 100 by omega)]; exact hpe) | (rw [if_neg (show ¬ wh < 100 by omega)]; exact hpe), _, _, rfl, fun p h1 h2 h3 h4 => hI2 p h1 h2 h3 h4, fun p h1 h2 => hJ2 p h1 h2, ?_⟩
                unfold gTs
                rw [if_neg (show ¬ (pl : Int) < 0 by omega), if_neg (show ¬ nf f = 0 by omega), if_neg (show ¬ so < 0 by omega), if_neg (show ¬ 20 < sn by omega), if_neg (show ¬ wh = 0 by omega), if_neg (show ¬ wh = 1 by omega), if_neg (show ¬ wh = 2 by omega), if_neg (show ¬ 100 ≤ wh by omega)]
                exact rfl
              · refine gg_iconst dX9_tells_198 ?_
                refine gg_goto (tgt := 203) dX9_tells_199 (by decide) ?_
                refine gg_callVi (own := RX9) (yt := gm_X9_numbersTold) rfl gl_RX9_261 gk_X9_numbersTold gr_X9_numbersTold dX9_tells_203 (c_X9_numbersTold (d := d - 1) (gF_fo f hf) (hW f hf) (hA f hf) (so := so) (sn := sn) (T := T) (v := v) hs hso hsn hr (by omega) hTr hv hT (nm := nm) (pl := pl) (le := 1) hnm (by omega) hkp (by decide) (by omega)) sh_0 pl_0 (by decide) rfl rfl rfl (Nat.le_of_ble_eq_true rfl) (by show _ ≤ d; omega) ⟨Nat.le_refl _, Nat.le_refl _⟩ (fun e13 μ' hc => ?_)
                obtain ⟨I2, J2, rfl, hI2, hJ2, rfl⟩ := hc
                refine gg_ireti dX9_tells_206 rfl ⟨rfl, rfl⟩ ?_
                refine ⟨(pl : Int), fun h => absurd h (by omega), fun _ => by first | (rw [if_pos (show wh < 100 by omega)]; exact hpe) | (rw [if_neg (show ¬ wh < 100 by omega)]; exact hpe), _, _, rfl, fun p h1 h2 h3 h4 => hI2 p h1 h2 h3 h4, fun p h1 h2 => hJ2 p h1 h2, ?_⟩
                unfold gTs
                rw [if_neg (show ¬ (pl : Int) < 0 by omega), if_neg (show ¬ nf f = 0 by omega), if_neg (show ¬ so < 0 by omega), if_neg (show ¬ 20 < sn by omega), if_neg (show ¬ wh = 0 by omega), if_neg (show ¬ wh = 1 by omega), if_neg (show ¬ wh = 2 by omega), if_pos (show 100 ≤ wh by omega)]
                exact rfl
            · refine gg_bipush dX9_tells_126 (by decide) ?_
              refine gg_ireti dX9_tells_128 rfl ⟨rfl, rfl⟩ ?_
              refine ⟨(pl : Int), fun h => absurd h (by omega), fun _ => by first | (rw [if_pos (show wh < 100 by omega)]; exact hpe) | (rw [if_neg (show ¬ wh < 100 by omega)]; exact hpe), _, _, rfl, fun p h1 h2 h3 h4 => rfl, fun p h1 h2 => rfl, ?_⟩
              unfold gTs
              rw [if_neg (show ¬ (pl : Int) < 0 by omega), if_neg (show ¬ nf f = 0 by omega), if_neg (show ¬ so < 0 by omega), if_pos (show 20 < sn by omega)]
      · refine gg_bipush dX9_tells_83 (by decide) ?_
        refine gg_ireti dX9_tells_85 rfl ⟨rfl, rfl⟩ ?_
        refine ⟨pe, fun h => absurd h (by omega), fun _ => by first | (rw [if_pos (show wh < 100 by omega)]; exact hpe) | (rw [if_neg (show ¬ wh < 100 by omega)]; exact hpe), _, _, rfl, fun p h1 h2 h3 h4 => rfl, fun p h1 h2 => rfl, ?_⟩
        unfold gTs
        rw [if_pos (show pe < 0 by omega)]
    · refine gg_iload dX9_tells_60 5 rfl ?_
      refine gg_bipush dX9_tells_62 (by decide) ?_
      refine gg_isub dX9_tells_64 ?_
      refine gg_goto (tgt := 73) dX9_tells_65 (by decide) ?_
      refine gg_callVi (own := RX9) (yt := gm_X1_placeOfNumber) rfl gl_RX9_242 gk_X1_placeOfNumber gr_X1_placeOfNumber dX9_tells_73 (c_X1_placeOfNumber (d := d - 1) (gF_fo f hf) (hA f hf) (hW f hf) (k := (wh - 10)) (by omega)) (gFsh (gF_fo f hf)) (gFlt (gF_fo f hf)) (by decide) rfl rfl rfl (Nat.le_of_ble_eq_true rfl) (by show _ ≤ d; omega) ⟨Nat.le_refl _, Nat.le_refl _⟩ (fun pe μ' hc => ?_)
      obtain ⟨rfl, hpe⟩ := hc
      have hpr := gPno_rng hpe
      have hnn := (hW f hf).1
      refine gg_istore (ls' := [(6, .int (iv pe)), (5, .ref (gad (gSS ad) (41 + 8 * f))), (0, .ref (gad (gSS ad) 0)), (1, .int (iv (s : Int))), (2, .int (iv (f : Int))), (3, .int (iv (nm : Int))), (4, .int (iv wh))]) dX9_tells_76 (by decide) rfl ?_
      refine gg_iload dX9_tells_78 0 rfl ?_
      refine gg_if_ge (tgt := 86) dX9_tells_80 (by decide) (by omega) (fun hpg => ?_) (fun hpg => ?_)
      · obtain ⟨pl, rfl⟩ : ∃ pl : Nat, pe = (pl : Int) := ⟨pe.toNat, by omega⟩
        have hkp : Kf f pl = 0 := hpr.2.2 (by omega)
        refine gg_aload dX9_tells_86 1 rfl ?_
        refine gg_callVi (own := RX9) (yt := gm_X1_isEmpty) rfl gl_RX9_128 gk_X1_isEmpty gr_X1_isEmpty dX9_tells_88 (c_X1_isEmpty (d := d - 1) (gF_fo f hf) (hA f hf) (hW f hf).1) (gFsh (gF_fo f hf)) (gFlt (gF_fo f hf)) (by decide) rfl rfl rfl (Nat.le_of_ble_eq_true rfl) (by show _ ≤ d; omega) ⟨Nat.le_refl _, Nat.le_refl _⟩ (fun e14 μ' hc => ?_)
        obtain ⟨rfl, ⟨rfl, hn0⟩ | ⟨rfl, hn0⟩⟩ := hc
        · refine gg_if_eq_f (tgt := 97) dX9_tells_91 (by decide) (by decide) (by decide) ?_
          refine gg_bipush dX9_tells_94 (by decide) ?_
          refine gg_ireti dX9_tells_96 rfl ⟨rfl, rfl⟩ ?_
          refine ⟨(pl : Int), fun h => absurd h (by omega), fun _ => by first | (rw [if_pos (show wh < 100 by omega)]; exact hpe) | (rw [if_neg (show ¬ wh < 100 by omega)]; exact hpe), _, _, rfl, fun p h1 h2 h3 h4 => rfl, fun p h1 h2 => rfl, ?_⟩
          unfold gTs
          rw [if_neg (show ¬ (pl : Int) < 0 by omega), if_pos (show nf f = 0 by omega)]
        · refine gg_if_eq_t (tgt := 97) dX9_tells_91 (by decide) (by decide) (by decide) ?_
          refine gg_aload_n dX9_tells_97 2 rfl ?_
          refine gg_getR (k' := 5) rfl gf_RX9_27 dX9_tells_98 sh_0 pl_0 (by decide) (by decide) rr_0_5 ?_
          refine gg_iload_n dX9_tells_101 3 rfl ?_
          refine gg_aaldj (t := 5) s (k' := (137 + 2 * s)) dX9_tells_102 sh_5 (by decide) pl_5 (by decide) rfl hs (rr_5 hs) ?_
          refine gg_astore (ls' := [(7, .ref (gad (gSS ad) (137 + 2 * s))), (6, .int (iv (pl : Int))), (5, .ref (gad (gSS ad) (41 + 8 * f))), (0, .ref (gad (gSS ad) 0)), (1, .int (iv (s : Int))), (2, .int (iv (f : Int))), (3, .int (iv (nm : Int))), (4, .int (iv wh))]) dX9_tells_103 (by decide) rfl ?_
          refine gg_aload dX9_tells_105 0 rfl ?_
          refine gg_callVi (own := RX9) (yt := gm_X6_isMissing) rfl gl_RX9_245 gk_X6_isMissing gr_X6_isMissing dX9_tells_107 (c_X6_isMissing (d := d - 1) hs hso hsn hr hn4) (gSt_sh hs) (gSt_lt hs) (by decide) rfl rfl rfl (Nat.le_of_ble_eq_true rfl) (by show _ ≤ d; omega) ⟨Nat.le_refl _, Nat.le_refl _⟩ (fun e15 μ' hc => ?_)
          obtain ⟨rfl, ⟨rfl, hms⟩ | ⟨rfl, hms⟩⟩ := hc
          · refine gg_if_eq_f (tgt := 116) dX9_tells_110 (by decide) (by decide) (by decide) ?_
            refine gg_bipush dX9_tells_113 (by decide) ?_
            refine gg_ireti dX9_tells_115 rfl ⟨rfl, rfl⟩ ?_
            refine ⟨(pl : Int), fun h => absurd h (by omega), fun _ => by first | (rw [if_pos (show wh < 100 by omega)]; exact hpe) | (rw [if_neg (show ¬ wh < 100 by omega)]; exact hpe), _, _, rfl, fun p h1 h2 h3 h4 => rfl, fun p h1 h2 => rfl, ?_⟩
            unfold gTs
            rw [if_neg (show ¬ (pl : Int) < 0 by omega), if_neg (show ¬ nf f = 0 by omega), if_pos (show so < 0 by omega)]
          · refine gg_if_eq_t (tgt := 116) dX9_tells_110 (by decide) (by decide) (by decide) ?_
            refine gg_aload dX9_tells_116 0 rfl ?_
            refine gg_callVi (own := RX9) (yt := gm_X6_size) rfl gl_RX9_248 gk_X6_size gr_X6_size dX9_tells_118 (c_X6_size (d := d - 1) hs hso hsn hr hn4) (gSt_sh hs) (gSt_lt hs) (by decide) rfl rfl rfl (Nat.le_of_ble_eq_true rfl) (by show _ ≤ d; omega) ⟨Nat.le_refl _, Nat.le_refl _⟩ (fun e16 μ' hc => ?_)
            obtain ⟨rfl, rfl⟩ := hc
            refine gg_bipush dX9_tells_121 (by decide) ?_
            refine gg_icmp_le (tgt := 129) dX9_tells_123 (by decide) (by omega) (fun h20 => ?_) (fun h20 => ?_)
            · refine gg_iload dX9_tells_129 7 rfl ?_
              refine gg_tsw_out (tgt := 183) dX9_tells_131 (by omega) (by omega) (by decide) ?_
              refine gg_aload_n dX9_tells_183 3 rfl ?_
              refine gg_aload dX9_tells_184 0 rfl ?_
              refine gg_aload dX9_tells_186 2 rfl ?_
              refine gg_iload_n dX9_tells_188 6 rfl ?_
              refine gg_iload dX9_tells_189 1 rfl ?_
              refine gg_iload dX9_tells_191 7 rfl ?_
              refine gg_bipush dX9_tells_193 (by decide) ?_
              refine gg_icmp_lt (tgt := 202) dX9_tells_195 (by decide) (by omega) (fun hle => ?_) (fun hle => ?_)
              · refine gg_iconst dX9_tells_202 ?_
                refine gg_callVi (own := RX9) (yt := gm_X9_numbersTold) rfl gl_RX9_261 gk_X9_numbersTold gr_X9_numbersTold dX9_tells_203 (c_X9_numbersTold (d := d - 1) (gF_fo f hf) (hW f hf) (hA f hf) (so := so) (sn := sn) (T := T) (v := v) hs hso hsn hr (by omega) hTr hv hT (nm := nm) (pl := pl) (le := 0) hnm (by omega) hkp (by decide) (by omega)) sh_0 pl_0 (by decide) rfl rfl rfl (Nat.le_of_ble_eq_true rfl) (by show _ ≤ d; omega) ⟨Nat.le_refl _, Nat.le_refl _⟩ (fun e17 μ' hc => ?_)
                obtain ⟨I2, J2, rfl, hI2, hJ2, rfl⟩ := hc
                refine gg_ireti dX9_tells_206 rfl ⟨rfl, rfl⟩ ?_
                refine ⟨(pl : Int), fun h => absurd h (by omega), fun _ => by first | (rw [if_pos (show wh < 100 by omega)]; exact hpe) | (rw [if_neg (show ¬ wh < 100 by omega)]; exact hpe), _, _, rfl, fun p h1 h2 h3 h4 => hI2 p h1 h2 h3 h4, fun p h1 h2 => hJ2 p h1 h2, ?_⟩
                unfold gTs
                rw [if_neg (show ¬ (pl : Int) < 0 by omega), if_neg (show ¬ nf f = 0 by omega), if_neg (show ¬ so < 0 by omega), if_neg (show ¬ 20 < sn by omega), if_neg (show ¬ wh = 0 by omega), if_neg (show ¬ wh = 1 by omega), if_neg (show ¬ wh = 2 by omega), if_neg (show ¬ 100 ≤ wh by omega)]
                exact rfl
              · refine gg_iconst dX9_tells_198 ?_
                refine gg_goto (tgt := 203) dX9_tells_199 (by decide) ?_
                refine gg_callVi (own := RX9) (yt := gm_X9_numbersTold) rfl gl_RX9_261 gk_X9_numbersTold gr_X9_numbersTold dX9_tells_203 (c_X9_numbersTold (d := d - 1) (gF_fo f hf) (hW f hf) (hA f hf) (so := so) (sn := sn) (T := T) (v := v) hs hso hsn hr (by omega) hTr hv hT (nm := nm) (pl := pl) (le := 1) hnm (by omega) hkp (by decide) (by omega)) sh_0 pl_0 (by decide) rfl rfl rfl (Nat.le_of_ble_eq_true rfl) (by show _ ≤ d; omega) ⟨Nat.le_refl _, Nat.le_refl _⟩ (fun e18 μ' hc => ?_)
                obtain ⟨I2, J2, rfl, hI2, hJ2, rfl⟩ := hc
                refine gg_ireti dX9_tells_206 rfl ⟨rfl, rfl⟩ ?_
                refine ⟨(pl : Int), fun h => absurd h (by omega), fun _ => by first | (rw [if_pos (show wh < 100 by omega)]; exact hpe) | (rw [if_neg (show ¬ wh < 100 by omega)]; exact hpe), _, _, rfl, fun p h1 h2 h3 h4 => hI2 p h1 h2 h3 h4, fun p h1 h2 => hJ2 p h1 h2, ?_⟩
                unfold gTs
                rw [if_neg (show ¬ (pl : Int) < 0 by omega), if_neg (show ¬ nf f = 0 by omega), if_neg (show ¬ so < 0 by omega), if_neg (show ¬ 20 < sn by omega), if_neg (show ¬ wh = 0 by omega), if_neg (show ¬ wh = 1 by omega), if_neg (show ¬ wh = 2 by omega), if_pos (show 100 ≤ wh by omega)]
                exact rfl
            · refine gg_bipush dX9_tells_126 (by decide) ?_
              refine gg_ireti dX9_tells_128 rfl ⟨rfl, rfl⟩ ?_
              refine ⟨(pl : Int), fun h => absurd h (by omega), fun _ => by first | (rw [if_pos (show wh < 100 by omega)]; exact hpe) | (rw [if_neg (show ¬ wh < 100 by omega)]; exact hpe), _, _, rfl, fun p h1 h2 h3 h4 => rfl, fun p h1 h2 => rfl, ?_⟩
              unfold gTs
              rw [if_neg (show ¬ (pl : Int) < 0 by omega), if_neg (show ¬ nf f = 0 by omega), if_neg (show ¬ so < 0 by omega), if_pos (show 20 < sn by omega)]
      · refine gg_bipush dX9_tells_83 (by decide) ?_
        refine gg_ireti dX9_tells_85 rfl ⟨rfl, rfl⟩ ?_
        refine ⟨pe, fun h => absurd h (by omega), fun _ => by first | (rw [if_pos (show wh < 100 by omega)]; exact hpe) | (rw [if_neg (show ¬ wh < 100 by omega)]; exact hpe), _, _, rfl, fun p h1 h2 h3 h4 => rfl, fun p h1 h2 => rfl, ?_⟩
        unfold gTs
        rw [if_pos (show pe < 0 by omega)]
  · refine gg_iconst dX9_tells_47 ?_
    refine gg_goto (tgt := 76) dX9_tells_48 (by decide) ?_
    refine gg_istore (ls' := [(6, .int (iv 0)), (5, .ref (gad (gSS ad) (41 + 8 * f))), (0, .ref (gad (gSS ad) 0)), (1, .int (iv (s : Int))), (2, .int (iv (f : Int))), (3, .int (iv (nm : Int))), (4, .int (iv wh))]) dX9_tells_76 (by decide) rfl ?_
    refine gg_iload dX9_tells_78 0 rfl ?_
    refine gg_if_ge_t (tgt := 86) dX9_tells_80 (by decide) (by decide) (by decide) ?_
    refine gg_aload dX9_tells_86 1 rfl ?_
    refine gg_callVi (own := RX9) (yt := gm_X1_isEmpty) rfl gl_RX9_128 gk_X1_isEmpty gr_X1_isEmpty dX9_tells_88 (c_X1_isEmpty (d := d - 1) (gF_fo f hf) (hA f hf) (hW f hf).1) (gFsh (gF_fo f hf)) (gFlt (gF_fo f hf)) (by decide) rfl rfl rfl (Nat.le_of_ble_eq_true rfl) (by show _ ≤ d; omega) ⟨Nat.le_refl _, Nat.le_refl _⟩ (fun e19 μ' hc => ?_)
    obtain ⟨rfl, ⟨rfl, hn0⟩ | ⟨rfl, hn0⟩⟩ := hc
    · refine gg_if_eq_f (tgt := 97) dX9_tells_91 (by decide) (by decide) (by decide) ?_
      refine gg_bipush dX9_tells_94 (by decide) ?_
      refine gg_ireti dX9_tells_96 rfl ⟨rfl, rfl⟩ ?_
      refine ⟨0, fun _ => rfl, fun h => absurd h (by omega), _, _, rfl, fun p h1 h2 h3 h4 => rfl, fun p h1 h2 => rfl, ?_⟩
      unfold gTs
      rw [if_neg (show ¬ (0 : Int) < 0 by omega), if_pos (show nf f = 0 by omega)]
    · refine gg_if_eq_t (tgt := 97) dX9_tells_91 (by decide) (by decide) (by decide) ?_
      refine gg_aload_n dX9_tells_97 2 rfl ?_
      refine gg_getR (k' := 5) rfl gf_RX9_27 dX9_tells_98 sh_0 pl_0 (by decide) (by decide) rr_0_5 ?_
      refine gg_iload_n dX9_tells_101 3 rfl ?_
      refine gg_aaldj (t := 5) s (k' := (137 + 2 * s)) dX9_tells_102 sh_5 (by decide) pl_5 (by decide) rfl hs (rr_5 hs) ?_
      refine gg_astore (ls' := [(7, .ref (gad (gSS ad) (137 + 2 * s))), (6, .int (iv 0)), (5, .ref (gad (gSS ad) (41 + 8 * f))), (0, .ref (gad (gSS ad) 0)), (1, .int (iv (s : Int))), (2, .int (iv (f : Int))), (3, .int (iv (nm : Int))), (4, .int (iv wh))]) dX9_tells_103 (by decide) rfl ?_
      refine gg_aload dX9_tells_105 0 rfl ?_
      refine gg_callVi (own := RX9) (yt := gm_X6_isMissing) rfl gl_RX9_245 gk_X6_isMissing gr_X6_isMissing dX9_tells_107 (c_X6_isMissing (d := d - 1) hs hso hsn hr hn4) (gSt_sh hs) (gSt_lt hs) (by decide) rfl rfl rfl (Nat.le_of_ble_eq_true rfl) (by show _ ≤ d; omega) ⟨Nat.le_refl _, Nat.le_refl _⟩ (fun e20 μ' hc => ?_)
      obtain ⟨rfl, ⟨rfl, hms⟩ | ⟨rfl, hms⟩⟩ := hc
      · refine gg_if_eq_f (tgt := 116) dX9_tells_110 (by decide) (by decide) (by decide) ?_
        refine gg_bipush dX9_tells_113 (by decide) ?_
        refine gg_ireti dX9_tells_115 rfl ⟨rfl, rfl⟩ ?_
        refine ⟨0, fun _ => rfl, fun h => absurd h (by omega), _, _, rfl, fun p h1 h2 h3 h4 => rfl, fun p h1 h2 => rfl, ?_⟩
        unfold gTs
        rw [if_neg (show ¬ (0 : Int) < 0 by omega), if_neg (show ¬ nf f = 0 by omega), if_pos (show so < 0 by omega)]
      · refine gg_if_eq_t (tgt := 116) dX9_tells_110 (by decide) (by decide) (by decide) ?_
        refine gg_aload dX9_tells_116 0 rfl ?_
        refine gg_callVi (own := RX9) (yt := gm_X6_size) rfl gl_RX9_248 gk_X6_size gr_X6_size dX9_tells_118 (c_X6_size (d := d - 1) hs hso hsn hr hn4) (gSt_sh hs) (gSt_lt hs) (by decide) rfl rfl rfl (Nat.le_of_ble_eq_true rfl) (by show _ ≤ d; omega) ⟨Nat.le_refl _, Nat.le_refl _⟩ (fun e21 μ' hc => ?_)
        obtain ⟨rfl, rfl⟩ := hc
        refine gg_bipush dX9_tells_121 (by decide) ?_
        refine gg_icmp_le (tgt := 129) dX9_tells_123 (by decide) (by omega) (fun h20 => ?_) (fun h20 => ?_)
        · refine gg_iload dX9_tells_129 7 rfl ?_
          obtain hk | hk | hk := (by omega : wh = 0 ∨ wh = 1 ∨ wh = 2)
          · refine gg_toI (b := 0) (by omega) ?_
            refine gg_tsw (off := 25) (tgt := 156) dX9_tells_131 (by decide) (by decide) rfl (by decide) ?_
            refine gg_aload_n dX9_tells_156 3 rfl ?_
            refine gg_aload dX9_tells_157 0 rfl ?_
            refine gg_aload dX9_tells_159 2 rfl ?_
            refine gg_iload_n dX9_tells_161 6 rfl ?_
            refine gg_callVi (own := RX9) (yt := gm_X9_firstOtherwise) rfl gl_RX9_249 gk_X9_firstOtherwise gr_X9_firstOtherwise dX9_tells_162 (c_X9_firstOtherwise (d := d - 1) (gF_fo f hf) (hW f hf) (by omega) (hA f hf) (so := so) (sn := sn) (T := T) (v := v) hs hso hsn hr (by omega) hTr hv hT hnm (by omega)) sh_0 pl_0 (by decide) rfl rfl rfl (Nat.le_of_ble_eq_true rfl) (by show _ ≤ d; omega) ⟨Nat.le_refl _, Nat.le_refl _⟩ (fun e22 μ' hc => ?_)
            obtain ⟨I2, J2, rfl, hI2, hJ2, rfl⟩ := hc
            refine gg_ireti dX9_tells_165 rfl ⟨rfl, rfl⟩ ?_
            refine ⟨0, fun _ => rfl, fun h => absurd h (by omega), _, _, rfl, fun p h1 h2 h3 h4 => hI2 p h1, fun p h1 h2 => hJ2 p h1, ?_⟩
            unfold gTs
            rw [if_neg (show ¬ (0 : Int) < 0 by omega), if_neg (show ¬ nf f = 0 by omega), if_neg (show ¬ so < 0 by omega), if_neg (show ¬ 20 < sn by omega), if_pos (show wh = 0 by omega)]
          · refine gg_toI (b := 1) (by omega) ?_
            refine gg_tsw (off := 35) (tgt := 166) dX9_tells_131 (by decide) (by decide) rfl (by decide) ?_
            refine gg_aload_n dX9_tells_166 3 rfl ?_
            refine gg_aload dX9_tells_167 0 rfl ?_
            refine gg_iload_n dX9_tells_169 6 rfl ?_
            refine gg_callVi (own := RX9) (yt := gm_X9_formulasTold) rfl gl_RX9_253 gk_X9_formulasTold gr_X9_formulasTold dX9_tells_170 (c_X9_formulasTold (d := d - 1) hA hW (so := so) (sn := sn) (T := T) (v := v) hs hso hsn hr (by omega) hTr hv hT hnm (by omega)) sh_0 pl_0 (by decide) rfl rfl rfl (Nat.le_of_ble_eq_true rfl) (by show _ ≤ d; omega) ⟨Nat.le_refl _, Nat.le_refl _⟩ (fun e23 μ' hc => ?_)
            obtain ⟨I2, J2, rfl, hI2, hJ2, rfl⟩ := hc
            refine gg_ireti dX9_tells_173 rfl ⟨rfl, rfl⟩ ?_
            refine ⟨0, fun _ => rfl, fun h => absurd h (by omega), _, _, rfl, fun p h1 h2 h3 h4 => hI2 p h1, fun p h1 h2 => hJ2 p h1, ?_⟩
            unfold gTs
            rw [if_neg (show ¬ (0 : Int) < 0 by omega), if_neg (show ¬ nf f = 0 by omega), if_neg (show ¬ so < 0 by omega), if_neg (show ¬ 20 < sn by omega), if_neg (show ¬ wh = 0 by omega), if_pos (show wh = 1 by omega)]
          · refine gg_toI (b := 2) (by omega) ?_
            refine gg_tsw (off := 43) (tgt := 174) dX9_tells_131 (by decide) (by decide) rfl (by decide) ?_
            refine gg_aload_n dX9_tells_174 3 rfl ?_
            refine gg_aload dX9_tells_175 0 rfl ?_
            refine gg_aload dX9_tells_177 2 rfl ?_
            refine gg_callVi (own := RX9) (yt := gm_X9_namesTold) rfl gl_RX9_257 gk_X9_namesTold gr_X9_namesTold dX9_tells_179 (c_X9_namesTold (d := d - 1) (gF_fo f hf) (hW f hf) (by omega) (hA f hf) (so := so) (sn := sn) (T := T) (v := v) hs hso hsn hr (by omega) hTr hv hT (by omega)) sh_0 pl_0 (by decide) rfl rfl rfl (Nat.le_of_ble_eq_true rfl) (by show _ ≤ d; omega) ⟨Nat.le_refl _, Nat.le_refl _⟩ (fun e24 μ' hc => ?_)
            obtain ⟨I2, J2, rfl, hI2, hJ2, rfl⟩ := hc
            refine gg_ireti dX9_tells_182 rfl ⟨rfl, rfl⟩ ?_
            refine ⟨0, fun _ => rfl, fun h => absurd h (by omega), _, _, rfl, fun p h1 h2 h3 h4 => hI2 p h1, fun p h1 h2 => hJ2 p h1, ?_⟩
            unfold gTs
            rw [if_neg (show ¬ (0 : Int) < 0 by omega), if_neg (show ¬ nf f = 0 by omega), if_neg (show ¬ so < 0 by omega), if_neg (show ¬ 20 < sn by omega), if_neg (show ¬ wh = 0 by omega), if_neg (show ¬ wh = 1 by omega), if_pos (show wh = 2 by omega)]
        · refine gg_bipush dX9_tells_126 (by decide) ?_
          refine gg_ireti dX9_tells_128 rfl ⟨rfl, rfl⟩ ?_
          refine ⟨0, fun _ => rfl, fun h => absurd h (by omega), _, _, rfl, fun p h1 h2 h3 h4 => rfl, fun p h1 h2 => rfl, ?_⟩
          unfold gTs
          rw [if_neg (show ¬ (0 : Int) < 0 by omega), if_neg (show ¬ nf f = 0 by omega), if_neg (show ¬ so < 0 by omega), if_pos (show 20 < sn by omega)]

set_option maxRecDepth 10000 in
theorem c_X9_tells_out {l : Launch} {Γ : gC} {ad : Nat → Nat} {I : Nat → Nat → Int} {J : Nat → Nat → Int64} {d : Nat} {s0 i nm wh : Int} (hs0 : -2147483648 ≤ s0 ∧ s0 ≤ 2147483647) (hi : -2147483648 ≤ i ∧ i ≤ 2147483647) (hnm : -2147483648 ≤ nm ∧ nm ≤ 2147483647) (hwh : -2147483648 ≤ wh ∧ wh ≤ 2147483647) (ho : ¬ (0 ≤ s0 ∧ s0 ≤ 3 ∧ 0 ≤ i ∧ i ≤ 11 ∧ 0 ≤ nm ∧ nm ≤ 7 ∧ ((0 ≤ wh ∧ wh ≤ 2) ∨ (10 ≤ wh ∧ wh ≤ 50) ∨ (100 ≤ wh ∧ wh ≤ 140)))) (hd : 3 ≤ d) : gKi l Γ gm_X9_tells d [.ref (gad (gSS ad) 0), .int (iv s0), .int (iv i), .int (iv nm), .int (iv wh)] (gSS ad, I, J) (fun e μ => μ = (gSS ad, I, J) ∧ e = -2) := by
  refine gKi_of gk_X9_tells.1 (Nat.le_of_ble_eq_true rfl) ?_
  show gG l Γ gm_X9_tells (d, 0, 0, 0, 0) 0 [(0, .ref (gad (gSS ad) 0)), (1, .int (iv s0)), (2, .int (iv i)), (3, .int (iv nm)), (4, .int (iv wh))] [] _ _
  refine gg_iload_n dX9_tells_0 1 rfl ?_
  refine gg_callSi (own := RX9) (yt := gm_X9_isSheet) rfl gl_RX9_236 gk_X9_isSheet gr_X9_isSheet dX9_tells_1 (c_X9_isSheet (d := d - 1) (by omega)) rfl rfl (Nat.le_of_ble_eq_true rfl) (by show _ ≤ d; omega) ⟨Nat.le_refl _, Nat.le_refl _⟩ (fun e1 μ' hc => ?_)
  obtain ⟨rfl, ⟨rfl, hb2⟩ | ⟨rfl, hb2⟩⟩ := hc
  · refine gg_if_eq_f (tgt := 29) dX9_tells_4 (by decide) (by decide) (by decide) ?_
    refine gg_iload_n dX9_tells_7 2 rfl ?_
    refine gg_callSi (own := RX9) (yt := gm_X9_isFormula) rfl gl_RX9_106 gk_X9_isFormula gr_X9_isFormula dX9_tells_8 (c_X9_isFormula (d := d - 1) (by omega)) rfl rfl (Nat.le_of_ble_eq_true rfl) (by show _ ≤ d; omega) ⟨Nat.le_refl _, Nat.le_refl _⟩ (fun e3 μ' hc => ?_)
    obtain ⟨rfl, ⟨rfl, hb4⟩ | ⟨rfl, hb4⟩⟩ := hc
    · refine gg_if_eq_f (tgt := 29) dX9_tells_11 (by decide) (by decide) (by decide) ?_
      refine gg_iload_n dX9_tells_14 3 rfl ?_
      refine gg_callSi (own := RX9) (yt := gm_X9_isName) rfl gl_RX9_122 gk_X9_isName gr_X9_isName dX9_tells_15 (c_X9_isName (d := d - 1) (by omega)) rfl rfl (Nat.le_of_ble_eq_true rfl) (by show _ ≤ d; omega) ⟨Nat.le_refl _, Nat.le_refl _⟩ (fun e5 μ' hc => ?_)
      obtain ⟨rfl, ⟨rfl, hb6⟩ | ⟨rfl, hb6⟩⟩ := hc
      · refine gg_if_eq_f (tgt := 29) dX9_tells_18 (by decide) (by decide) (by decide) ?_
        refine gg_iload dX9_tells_21 4 rfl ?_
        refine gg_callSi (own := RX9) (yt := gm_X9_isQuestion) rfl gl_RX9_239 gk_X9_isQuestion gr_X9_isQuestion dX9_tells_23 (c_X9_isQuestion (d := d - 1) (by omega)) rfl rfl (Nat.le_of_ble_eq_true rfl) (by show _ ≤ d; omega) ⟨Nat.le_refl _, Nat.le_refl _⟩ (fun e7 μ' hc => ?_)
        obtain ⟨rfl, ⟨rfl, hb8⟩ | ⟨rfl, hb8⟩⟩ := hc
        · refine gg_if_ne_t (tgt := 32) dX9_tells_26 (by decide) (by decide) (by decide) ?_
          exfalso
          omega
        · refine gg_if_ne_f (tgt := 32) dX9_tells_26 (by decide) (by decide) (by decide) ?_
          refine gg_bipush dX9_tells_29 (by decide) ?_
          refine gg_ireti dX9_tells_31 rfl ⟨rfl, rfl⟩ ?_
          exact ⟨rfl, rfl⟩
      · refine gg_if_eq_t (tgt := 29) dX9_tells_18 (by decide) (by decide) (by decide) ?_
        refine gg_bipush dX9_tells_29 (by decide) ?_
        refine gg_ireti dX9_tells_31 rfl ⟨rfl, rfl⟩ ?_
        exact ⟨rfl, rfl⟩
    · refine gg_if_eq_t (tgt := 29) dX9_tells_11 (by decide) (by decide) (by decide) ?_
      refine gg_bipush dX9_tells_29 (by decide) ?_
      refine gg_ireti dX9_tells_31 rfl ⟨rfl, rfl⟩ ?_
      exact ⟨rfl, rfl⟩
  · refine gg_if_eq_t (tgt := 29) dX9_tells_4 (by decide) (by decide) (by decide) ?_
    refine gg_bipush dX9_tells_29 (by decide) ?_
    refine gg_ireti dX9_tells_31 rfl ⟨rfl, rfl⟩ ?_
    exact ⟨rfl, rfl⟩

set_option maxRecDepth 10000 in
theorem w1_X10_tells {l : Launch} {Γ : gC} {ad : Nat → Nat} {I0 : Nat → Nat → Int} {J : Nat → Nat → Int64} {d : Nat} {nf : Nat → Nat} {Kf : Nat → Nat → Nat} {Nf : Nat → Nat → Int64} {Zf : Nat → Nat → Nat} (hM : ∀ f, f < 12 → gMt I0 J f (nf f) (Kf f) (Nf f) (Zf f)) (hW : ∀ f, f < 12 → gWf (nf f) (Kf f) (Nf f) (Zf f)) {s sn : Nat} {T v : Nat → Int} (hs : s < 4) (hsn : I0 238 s = (sn : Int)) (hn2 : sn ≤ 20) (hTr : ∀ j, j < sn → -2147483648 ≤ T j ∧ T j ≤ 2147483647) (hv : I0 186 = v) (hT : I0 (240 + s) = T) {f nm : Nat} {wh : Int} (hnm : nm < 8) (hwh : wh = 1) (hd : 205 ≤ d) : ∀ (m : Nat) (i : Nat) (I : Nat → Nat → Int), 12 - i < m → (i ≤ 12) → (∀ p, p ≠ 190 → I p = I0 p) → gG l Γ gm_X10_tells (d, 0, 0, 0, 0) 200 [(8, .int (iv (i : Int))), (7, .int (iv (gBt (fun k : Nat => 0 < nf k ∧ gFi (gOt (nf k) (Kf k) (Nf k) (Zf k) v nm T) sn = -1) i))), (0, .ref (gad (gSS ad) 145)), (1, .int (iv (s : Int))), (2, .int (iv (f : Int))), (3, .int (iv (nm : Int))), (4, .int (iv wh)), (5, .int (iv 0)), (6, .int (iv 0))] [] (gSS ad, I, J) (gDi (fun e μ => ∃ I', μ = (gSS ad, I', J) ∧ (∀ p, p ≠ 190 → I' p = I0 p) ∧ e = gBt (fun k : Nat => 0 < nf k ∧ gFi (gOt (nf k) (Kf k) (Nf k) (Zf k) v nm T) sn = -1) 12)) := by
  intro m
  induction m with
  | zero => intros; omega
  | succ m ih =>
    intro i I hm hi hI
    refine gg_iload dX10_tells_200 6 rfl ?_
    refine gg_iconst dX10_tells_202 ?_
    refine gg_icmp_ne_f (tgt := 250) dX10_tells_203 (by decide) (by omega) (by omega) ?_
    refine gg_iload dX10_tells_206 0 rfl ?_
    refine gg_bipush dX10_tells_208 (by decide) ?_
    refine gg_icmp_ge (tgt := 250) dX10_tells_210 (by decide) (by omega) (fun hx => ?_) (fun hx => ?_)
    · have h8 : i = 12 := by omega
      subst h8
      refine gg_iconst dX10_tells_250 ?_
      refine gg_istore (ls' := [(8, .int (iv 0)), (7, .int (iv (gBt (fun k : Nat => 0 < nf k ∧ gFi (gOt (nf k) (Kf k) (Nf k) (Zf k) v nm T) sn = -1) 12))), (0, .ref (gad (gSS ad) 145)), (1, .int (iv (s : Int))), (2, .int (iv (f : Int))), (3, .int (iv (nm : Int))), (4, .int (iv wh)), (5, .int (iv 0)), (6, .int (iv 0))]) dX10_tells_251 (by decide) rfl ?_
      refine gg_iload dX10_tells_253 6 rfl ?_
      refine gg_iconst dX10_tells_255 ?_
      refine gg_icmp_ne_t (tgt := 293) dX10_tells_256 (by decide) (by omega) (by omega) ?_
      refine gg_iload dX10_tells_293 1 rfl ?_
      refine gg_ireti dX10_tells_295 rfl ⟨rfl, rfl⟩ ?_
      exact ⟨I, rfl, hI, rfl⟩
    · have h8 : i < 12 := by omega
      have hWi := hW i h8
      have hMi : gMt I J i (nf i) (Kf i) (Nf i) (Zf i) := gMt_lo h8 (hM i h8) (fun p h1 h2 => hI p (by omega))
      have hfr := gFi_rng (P := gOt (nf i) (Kf i) (Nf i) (Zf i) v nm T) sn
      refine gg_aload_n dX10_tells_213 2 rfl ?_
      refine gg_getR (k' := 146) rfl gf_RX10_9 dX10_tells_214 sh_145 pl_145 (by decide) (by decide) rr_145_0 ?_
      refine gg_iload dX10_tells_217 0 rfl ?_
      refine gg_ialdj i dX10_tells_219 sh_146 pl_146 (by decide) rfl h8 ?_
      refine gg_toI (b := (nf i : Int)) hMi.1 ?_
      refine gg_if_le (tgt := 244) dX10_tells_220 (by decide) (by have := hWi.1; omega) (fun he => ?_) (fun he => ?_)
      · have hnp : ¬ (fun k : Nat => 0 < nf k ∧ gFi (gOt (nf k) (Kf k) (Nf k) (Zf k) v nm T) sn = -1) i := fun hh => absurd hh.1 (by omega)
        refine gg_iincv (ls' := [(8, .int (iv ((i + 1 : Nat) : Int))), (7, .int (iv (gBt (fun k : Nat => 0 < nf k ∧ gFi (gOt (nf k) (Kf k) (Nf k) (Zf k) v nm T) sn = -1) i))), (0, .ref (gad (gSS ad) 145)), (1, .int (iv (s : Int))), (2, .int (iv (f : Int))), (3, .int (iv (nm : Int))), (4, .int (iv wh)), (5, .int (iv 0)), (6, .int (iv 0))]) dX10_tells_244 0 rfl (by omega) (by decide) rfl ?_
        refine gg_goto (tgt := 200) dX10_tells_247 (by decide) ?_
        rw [← gBt_f (P := (fun k : Nat => 0 < nf k ∧ gFi (gOt (nf k) (Kf k) (Nf k) (Zf k) v nm T) sn = -1)) hnp]
        exact ih (i + 1) I (by omega) (by omega) hI
      · refine gg_aload_n dX10_tells_223 2 rfl ?_
        refine gg_iload_n dX10_tells_224 3 rfl ?_
        refine gg_iload dX10_tells_225 0 rfl ?_
        refine gg_iload_n dX10_tells_227 5 rfl ?_
        refine gg_callVi (own := RX10) (yt := gm_X10_otherwise) rfl gl_RX10_344 gk_X10_otherwise gr_X10_otherwise dX10_tells_228 (c_X10_otherwise (d := d - 1) h8 hMi (hW i h8) (sn := sn) (T := T) (v := v) hs (by rw [hI _ (by omega)]; exact hsn) hn2 hTr (by rw [hI _ (by omega)]; exact hv) (by rw [hI _ (by omega)]; exact hT) (by omega) (nm := nm) hnm (by have := (hW i h8).1; omega)) sh_145 pl_145 (by decide) rfl rfl rfl (Nat.le_of_ble_eq_true rfl) (by show _ ≤ d; omega) ⟨Nat.le_refl _, Nat.le_refl _⟩ (fun e1 μ' hc => ?_)
        obtain ⟨I2, rfl, hI2, rfl⟩ := hc
        refine gg_iconst dX10_tells_231 ?_
        refine gg_icmp_ne (tgt := 244) dX10_tells_232 (by decide) (by omega) (fun hc => ?_) (fun hc => ?_)
        · have hnp : ¬ (fun k : Nat => 0 < nf k ∧ gFi (gOt (nf k) (Kf k) (Nf k) (Zf k) v nm T) sn = -1) i := fun hh => hc hh.2
          refine gg_iincv (ls' := [(8, .int (iv ((i + 1 : Nat) : Int))), (7, .int (iv (gBt (fun k : Nat => 0 < nf k ∧ gFi (gOt (nf k) (Kf k) (Nf k) (Zf k) v nm T) sn = -1) i))), (0, .ref (gad (gSS ad) 145)), (1, .int (iv (s : Int))), (2, .int (iv (f : Int))), (3, .int (iv (nm : Int))), (4, .int (iv wh)), (5, .int (iv 0)), (6, .int (iv 0))]) dX10_tells_244 0 rfl (by omega) (by decide) rfl ?_
          refine gg_goto (tgt := 200) dX10_tells_247 (by decide) ?_
          rw [← gBt_f (P := (fun k : Nat => 0 < nf k ∧ gFi (gOt (nf k) (Kf k) (Nf k) (Zf k) v nm T) sn = -1)) hnp]
          exact ih (i + 1) I2 (by omega) (by omega) (fun p hp => by rw [hI2 p hp]; exact hI p hp)
        · have hpp : (fun k : Nat => 0 < nf k ∧ gFi (gOt (nf k) (Kf k) (Nf k) (Zf k) v nm T) sn = -1) i := ⟨by omega, hc⟩
          refine gg_iload dX10_tells_235 1 rfl ?_
          refine gg_iconst dX10_tells_237 ?_
          refine gg_iload dX10_tells_238 0 rfl ?_
          refine gg_ishl dX10_tells_240 ?_
          refine gg_ior dX10_tells_241 ?_
          refine gg_toI (b := gBt (fun k : Nat => 0 < nf k ∧ gFi (gOt (nf k) (Kf k) (Nf k) (Zf k) v nm T) sn = -1) (i + 1)) (gBt_t (P := (fun k : Nat => 0 < nf k ∧ gFi (gOt (nf k) (Kf k) (Nf k) (Zf k) v nm T) sn = -1)) hpp).symm ?_
          refine gg_istore (ls' := [(7, .int (iv (gBt (fun k : Nat => 0 < nf k ∧ gFi (gOt (nf k) (Kf k) (Nf k) (Zf k) v nm T) sn = -1) (i + 1)))), (8, .int (iv (i : Int))), (0, .ref (gad (gSS ad) 145)), (1, .int (iv (s : Int))), (2, .int (iv (f : Int))), (3, .int (iv (nm : Int))), (4, .int (iv wh)), (5, .int (iv 0)), (6, .int (iv 0))]) dX10_tells_242 (by decide) rfl ?_
          refine gg_iincv (ls' := [(8, .int (iv ((i + 1 : Nat) : Int))), (7, .int (iv (gBt (fun k : Nat => 0 < nf k ∧ gFi (gOt (nf k) (Kf k) (Nf k) (Zf k) v nm T) sn = -1) (i + 1)))), (0, .ref (gad (gSS ad) 145)), (1, .int (iv (s : Int))), (2, .int (iv (f : Int))), (3, .int (iv (nm : Int))), (4, .int (iv wh)), (5, .int (iv 0)), (6, .int (iv 0))]) dX10_tells_244 1 rfl (by omega) (by decide) rfl ?_
          refine gg_goto (tgt := 200) dX10_tells_247 (by decide) ?_
          exact ih (i + 1) I2 (by omega) (by omega) (fun p hp => by rw [hI2 p hp]; exact hI p hp)

set_option maxRecDepth 10000 in
theorem w2_X10_tells {l : Launch} {Γ : gC} {ad : Nat → Nat} {I0 : Nat → Nat → Int} {J : Nat → Nat → Int64} {d : Nat} {nf : Nat → Nat} {Kf : Nat → Nat → Nat} {Nf : Nat → Nat → Int64} {Zf : Nat → Nat → Nat} (hM : ∀ f, f < 12 → gMt I0 J f (nf f) (Kf f) (Nf f) (Zf f)) (hW : ∀ f, f < 12 → gWf (nf f) (Kf f) (Nf f) (Zf f)) {s sn : Nat} {T v : Nat → Int} (hs : s < 4) (hsn : I0 238 s = (sn : Int)) (hn2 : sn ≤ 20) (hTr : ∀ j, j < sn → -2147483648 ≤ T j ∧ T j ≤ 2147483647) (hv : I0 186 = v) (hT : I0 (240 + s) = T) {f nm : Nat} {wh : Int} (hf : f < 12) (hn0 : 0 < nf f) (hwh : wh = 2) (hd : 205 ≤ d) : ∀ (m : Nat) (i : Nat) (I : Nat → Nat → Int), 8 - i < m → (i ≤ 8) → (∀ p, p ≠ 190 → I p = I0 p) → gG l Γ gm_X10_tells (d, 0, 0, 0, 0) 253 [(8, .int (iv (i : Int))), (7, .int (iv (gBt (fun k : Nat => gFi (gOt (nf f) (Kf f) (Nf f) (Zf f) v k T) sn = -1) i))), (0, .ref (gad (gSS ad) 145)), (1, .int (iv (s : Int))), (2, .int (iv (f : Int))), (3, .int (iv (nm : Int))), (4, .int (iv wh)), (5, .int (iv 0)), (6, .int (iv 0))] [] (gSS ad, I, J) (gDi (fun e μ => ∃ I', μ = (gSS ad, I', J) ∧ (∀ p, p ≠ 190 → I' p = I0 p) ∧ e = gBt (fun k : Nat => gFi (gOt (nf f) (Kf f) (Nf f) (Zf f) v k T) sn = -1) 8)) := by
  intro m
  induction m with
  | zero => intros; omega
  | succ m ih =>
    intro i I hm hi hI
    refine gg_iload dX10_tells_253 6 rfl ?_
    refine gg_iconst dX10_tells_255 ?_
    refine gg_icmp_ne_f (tgt := 293) dX10_tells_256 (by decide) (by omega) (by omega) ?_
    refine gg_iload dX10_tells_259 0 rfl ?_
    refine gg_bipush dX10_tells_261 (by decide) ?_
    refine gg_icmp_ge (tgt := 293) dX10_tells_263 (by decide) (by omega) (fun hx => ?_) (fun hx => ?_)
    · have h8 : i = 8 := by omega
      subst h8
      refine gg_iload dX10_tells_293 1 rfl ?_
      refine gg_ireti dX10_tells_295 rfl ⟨rfl, rfl⟩ ?_
      exact ⟨I, rfl, hI, rfl⟩
    · have h8 : i < 8 := by omega
      have hMf : gMt I J f (nf f) (Kf f) (Nf f) (Zf f) := gMt_lo hf (hM f hf) (fun p h1 h2 => hI p (by omega))
      have hfr := gFi_rng (P := gOt (nf f) (Kf f) (Nf f) (Zf f) v i T) sn
      refine gg_aload_n dX10_tells_266 2 rfl ?_
      refine gg_iload_n dX10_tells_267 3 rfl ?_
      refine gg_iload_n dX10_tells_268 4 rfl ?_
      refine gg_iload dX10_tells_269 0 rfl ?_
      refine gg_callVi (own := RX10) (yt := gm_X10_otherwise) rfl gl_RX10_344 gk_X10_otherwise gr_X10_otherwise dX10_tells_271 (c_X10_otherwise (d := d - 1) hf hMf (hW f hf) (sn := sn) (T := T) (v := v) hs (by rw [hI _ (by omega)]; exact hsn) hn2 hTr (by rw [hI _ (by omega)]; exact hv) (by rw [hI _ (by omega)]; exact hT) (by omega) (nm := i) h8 (by have := (hW f hf).1; omega)) sh_145 pl_145 (by decide) rfl rfl rfl (Nat.le_of_ble_eq_true rfl) (by show _ ≤ d; omega) ⟨Nat.le_refl _, Nat.le_refl _⟩ (fun e1 μ' hc => ?_)
      obtain ⟨I2, rfl, hI2, rfl⟩ := hc
      refine gg_iconst dX10_tells_274 ?_
      refine gg_icmp_ne (tgt := 287) dX10_tells_275 (by decide) (by omega) (fun hc => ?_) (fun hc => ?_)
      · have hnp : ¬ (fun k : Nat => gFi (gOt (nf f) (Kf f) (Nf f) (Zf f) v k T) sn = -1) i := hc
        refine gg_iincv (ls' := [(8, .int (iv ((i + 1 : Nat) : Int))), (7, .int (iv (gBt (fun k : Nat => gFi (gOt (nf f) (Kf f) (Nf f) (Zf f) v k T) sn = -1) i))), (0, .ref (gad (gSS ad) 145)), (1, .int (iv (s : Int))), (2, .int (iv (f : Int))), (3, .int (iv (nm : Int))), (4, .int (iv wh)), (5, .int (iv 0)), (6, .int (iv 0))]) dX10_tells_287 0 rfl (by omega) (by decide) rfl ?_
        refine gg_goto (tgt := 253) dX10_tells_290 (by decide) ?_
        rw [← gBt_f (P := (fun k : Nat => gFi (gOt (nf f) (Kf f) (Nf f) (Zf f) v k T) sn = -1)) hnp]
        exact ih (i + 1) I2 (by omega) (by omega) (fun p hp => by rw [hI2 p hp]; exact hI p hp)
      · have hpp : (fun k : Nat => gFi (gOt (nf f) (Kf f) (Nf f) (Zf f) v k T) sn = -1) i := hc
        refine gg_iload dX10_tells_278 1 rfl ?_
        refine gg_iconst dX10_tells_280 ?_
        refine gg_iload dX10_tells_281 0 rfl ?_
        refine gg_ishl dX10_tells_283 ?_
        refine gg_ior dX10_tells_284 ?_
        refine gg_toI (b := gBt (fun k : Nat => gFi (gOt (nf f) (Kf f) (Nf f) (Zf f) v k T) sn = -1) (i + 1)) (gBt_t (P := (fun k : Nat => gFi (gOt (nf f) (Kf f) (Nf f) (Zf f) v k T) sn = -1)) hpp).symm ?_
        refine gg_istore (ls' := [(7, .int (iv (gBt (fun k : Nat => gFi (gOt (nf f) (Kf f) (Nf f) (Zf f) v k T) sn = -1) (i + 1)))), (8, .int (iv (i : Int))), (0, .ref (gad (gSS ad) 145)), (1, .int (iv (s : Int))), (2, .int (iv (f : Int))), (3, .int (iv (nm : Int))), (4, .int (iv wh)), (5, .int (iv 0)), (6, .int (iv 0))]) dX10_tells_285 (by decide) rfl ?_
        refine gg_iincv (ls' := [(8, .int (iv ((i + 1 : Nat) : Int))), (7, .int (iv (gBt (fun k : Nat => gFi (gOt (nf f) (Kf f) (Nf f) (Zf f) v k T) sn = -1) (i + 1)))), (0, .ref (gad (gSS ad) 145)), (1, .int (iv (s : Int))), (2, .int (iv (f : Int))), (3, .int (iv (nm : Int))), (4, .int (iv wh)), (5, .int (iv 0)), (6, .int (iv 0))]) dX10_tells_287 1 rfl (by omega) (by decide) rfl ?_
        refine gg_goto (tgt := 253) dX10_tells_290 (by decide) ?_
        exact ih (i + 1) I2 (by omega) (by omega) (fun p hp => by rw [hI2 p hp]; exact hI p hp)

set_option maxRecDepth 10000 in
theorem w3_X10_tells {l : Launch} {Γ : gC} {ad : Nat → Nat} {I : Nat → Nat → Int} {J : Nat → Nat → Int64} {d : Nat} {nf : Nat → Nat} {Kf : Nat → Nat → Nat} {Nf : Nat → Nat → Int64} {Zf : Nat → Nat → Nat} (hM : ∀ f, f < 12 → gMt I J f (nf f) (Kf f) (Nf f) (Zf f)) (hW : ∀ f, f < 12 → gWf (nf f) (Kf f) (Nf f) (Zf f)) {s sn : Nat} {T v : Nat → Int} (hs : s < 4) (hsn : I 238 s = (sn : Int)) (hn2 : sn ≤ 20) (hTr : ∀ j, j < sn → -2147483648 ≤ T j ∧ T j ≤ 2147483647) (hv : I 186 = v) (hT : I (240 + s) = T) {f nm : Nat} {wh : Int} (hf : f < 12) (hn0 : 0 < nf f) (hwh : wh = 2) (hd : 205 ≤ d) : gG l Γ gm_X10_tells (d, 0, 0, 0, 0) 200 [(8, .int (iv 0)), (7, .int (iv 0)), (0, .ref (gad (gSS ad) 145)), (1, .int (iv (s : Int))), (2, .int (iv (f : Int))), (3, .int (iv (nm : Int))), (4, .int (iv wh)), (5, .int (iv 0)), (6, .int (iv 0))] [] (gSS ad, I, J) (gDi (fun e μ => ∃ I', μ = (gSS ad, I', J) ∧ (∀ p, p ≠ 190 → I' p = I p) ∧ e = gBt (fun k : Nat => gFi (gOt (nf f) (Kf f) (Nf f) (Zf f) v k T) sn = -1) 8)) := by
  refine gg_iload dX10_tells_200 6 rfl ?_
  refine gg_iconst dX10_tells_202 ?_
  refine gg_icmp_ne_t (tgt := 250) dX10_tells_203 (by decide) (by omega) (by omega) ?_
  refine gg_iconst dX10_tells_250 ?_
  refine gg_istore (ls' := [(8, .int (iv 0)), (7, .int (iv 0)), (0, .ref (gad (gSS ad) 145)), (1, .int (iv (s : Int))), (2, .int (iv (f : Int))), (3, .int (iv (nm : Int))), (4, .int (iv wh)), (5, .int (iv 0)), (6, .int (iv 0))]) dX10_tells_251 (by decide) rfl ?_
  refine gg_sub [0, 1, 2, 3, 4, 5, 6, 7, 8] rfl ?_
  exact w2_X10_tells hM hW hs hsn hn2 hTr hv hT hf hn0 hwh hd 9 0 I (by omega) (by omega) (fun _ _ => rfl)

set_option maxRecDepth 10000 in
theorem c_X10_tells {l : Launch} {Γ : gC} {ad : Nat → Nat} {I : Nat → Nat → Int} {J : Nat → Nat → Int64} {d : Nat} {nf : Nat → Nat} {Kf : Nat → Nat → Nat} {Nf : Nat → Nat → Int64} {Zf : Nat → Nat → Nat} (hM : ∀ f, f < 12 → gMt I J f (nf f) (Kf f) (Nf f) (Zf f)) (hW : ∀ f, f < 12 → gWf (nf f) (Kf f) (Nf f) (Zf f)) {s sn f nm : Nat} {so wh : Int} {T v : Nat → Int} (hs : s < 4) (hf : f < 12) (hnm : nm < 8) (hso : I 237 s = so) (hsn : I 238 s = (sn : Int)) (hr : -1 ≤ so ∧ so ≤ 1) (hn4 : sn ≤ 40) (hTr : ∀ j, j < sn → -2147483648 ≤ T j ∧ T j ≤ 2147483647) (hv : I 186 = v) (hT : I (240 + s) = T) (hwh : ((0 ≤ wh ∧ wh ≤ 2) ∨ (10 ≤ wh ∧ wh ≤ 50) ∨ (100 ≤ wh ∧ wh ≤ 140))) (hd : 206 ≤ d) : gKi l Γ gm_X10_tells d [.ref (gad (gSS ad) 145), .int (iv (s : Int)), .int (iv (f : Int)), .int (iv (nm : Int)), .int (iv wh)] (gSS ad, I, J) (fun e μ => ∃ pl : Int, (wh < 10 → pl = 0) ∧ (10 ≤ wh → gPno (Kf f) (nf f) (if wh < 100 then wh - 10 else wh - 100) pl) ∧ ∃ I' J', μ = (gSS ad, I', J') ∧ (∀ p, p ≠ 190 → I' p = I p) ∧ (∀ p, J' p = J p) ∧ e = gTs nf Kf Nf Zf f nm wh pl so sn v T) := by
  refine gKi_of gk_X10_tells.1 (Nat.le_of_ble_eq_true rfl) ?_
  show gG l Γ gm_X10_tells (d, 0, 0, 0, 0) 0 [(0, .ref (gad (gSS ad) 145)), (1, .int (iv (s : Int))), (2, .int (iv (f : Int))), (3, .int (iv (nm : Int))), (4, .int (iv wh))] [] _ _
  refine gg_iload dX10_tells_0 4 rfl ?_
  refine gg_bipush dX10_tells_2 (by decide) ?_
  refine gg_bipush dX10_tells_4 (by decide) ?_
  refine gg_callSi (own := RX10) (yt := gm_X10_in) rfl gl_RX10_84 gk_X10_in gr_X10_in dX10_tells_6 (c_X10_in (d := d - 1) (by omega)) rfl rfl (Nat.le_of_ble_eq_true rfl) (by show _ ≤ d; omega) ⟨Nat.le_refl _, Nat.le_refl _⟩ (fun e1 μ' hc => ?_)
  obtain ⟨rfl, ⟨rfl, hb2⟩ | ⟨rfl, hb2⟩⟩ := hc
  · refine gg_if_ne_t (tgt := 25) dX10_tells_9 (by decide) (by decide) (by decide) ?_
    refine gg_iconst dX10_tells_25 ?_
    refine gg_goto (tgt := 30) dX10_tells_26 (by decide) ?_
    refine gg_istore (ls' := [(5, .int (iv 1)), (0, .ref (gad (gSS ad) 145)), (1, .int (iv (s : Int))), (2, .int (iv (f : Int))), (3, .int (iv (nm : Int))), (4, .int (iv wh))]) dX10_tells_30 (by decide) rfl ?_
    refine gg_iload_n dX10_tells_32 2 rfl ?_
    refine gg_callSi (own := RX10) (yt := gm_X10_isSheet) rfl gl_RX10_347 gk_X10_isSheet gr_X10_isSheet dX10_tells_33 (c_X10_isSheet (d := d - 1) (by omega) (by omega)) rfl rfl (Nat.le_of_ble_eq_true rfl) (by show _ ≤ d; omega) ⟨Nat.le_refl _, Nat.le_refl _⟩ (fun e3 μ' hc => ?_)
    obtain ⟨rfl, ⟨rfl, hb4⟩ | ⟨rfl, hb4⟩⟩ := hc
    rotate_left
    · omega
    refine gg_if_eq_f (tgt := 68) dX10_tells_36 (by decide) (by decide) (by decide) ?_
    refine gg_iload_n dX10_tells_39 3 rfl ?_
    refine gg_callSi (own := RX10) (yt := gm_X10_isFormula) rfl gl_RX10_181 gk_X10_isFormula gr_X10_isFormula dX10_tells_40 (c_X10_isFormula (d := d - 1) (by omega) (by omega)) rfl rfl (Nat.le_of_ble_eq_true rfl) (by show _ ≤ d; omega) ⟨Nat.le_refl _, Nat.le_refl _⟩ (fun e5 μ' hc => ?_)
    obtain ⟨rfl, ⟨rfl, hb6⟩ | ⟨rfl, hb6⟩⟩ := hc
    rotate_left
    · omega
    refine gg_if_eq_f (tgt := 68) dX10_tells_43 (by decide) (by decide) (by decide) ?_
    refine gg_iload_n dX10_tells_46 4 rfl ?_
    refine gg_callSi (own := RX10) (yt := gm_X10_isName) rfl gl_RX10_189 gk_X10_isName gr_X10_isName dX10_tells_47 (c_X10_isName (d := d - 1) (by omega) (by omega)) rfl rfl (Nat.le_of_ble_eq_true rfl) (by show _ ≤ d; omega) ⟨Nat.le_refl _, Nat.le_refl _⟩ (fun e7 μ' hc => ?_)
    obtain ⟨rfl, ⟨rfl, hb8⟩ | ⟨rfl, hb8⟩⟩ := hc
    rotate_left
    · omega
    refine gg_if_eq_f (tgt := 68) dX10_tells_50 (by decide) (by decide) (by decide) ?_
    refine gg_iload dX10_tells_53 5 rfl ?_
    refine gg_iconst dX10_tells_55 ?_
    refine gg_iconst dX10_tells_56 ?_
    refine gg_callSi (own := RX10) (yt := gm_X10_in) rfl gl_RX10_84 gk_X10_in gr_X10_in dX10_tells_57 (c_X10_in (d := d - 1) (by omega)) rfl rfl (Nat.le_of_ble_eq_true rfl) (by show _ ≤ d; omega) ⟨Nat.le_refl _, Nat.le_refl _⟩ (fun e9 μ' hc => ?_)
    obtain ⟨rfl, ⟨rfl, hb10⟩ | ⟨rfl, hb10⟩⟩ := hc
    · omega
    refine gg_if_ne_f (tgt := 71) dX10_tells_60 (by decide) (by decide) (by decide) ?_
    refine gg_iload dX10_tells_63 0 rfl ?_
    refine gg_if_ne_t (tgt := 71) dX10_tells_65 (by decide) (by decide) (by decide) ?_
    refine gg_iload dX10_tells_71 0 rfl ?_
    refine gg_if_eq_f (tgt := 104) dX10_tells_73 (by decide) (by decide) (by decide) ?_
    refine gg_aload_n dX10_tells_76 1 rfl ?_
    refine gg_iload_n dX10_tells_77 3 rfl ?_
    refine gg_iload dX10_tells_78 5 rfl ?_
    refine gg_bipush dX10_tells_80 (by decide) ?_
    refine gg_icmp_ge (tgt := 93) dX10_tells_82 (by decide) (by omega) (fun hw2 => ?_) (fun hw2 => ?_)
    · refine gg_iload dX10_tells_93 5 rfl ?_
      refine gg_bipush dX10_tells_95 (by decide) ?_
      refine gg_isub dX10_tells_97 ?_
      refine gg_callVi (own := RX10) (yt := gm_X10_numberAt) rfl gl_RX10_350 gk_X10_numberAt gr_X10_numberAt dX10_tells_98 (c_X10_numberAt (d := d - 1) hf (hM f hf) (hW f hf) (k := (wh - 100)) (by omega)) sh_145 pl_145 (by decide) rfl rfl rfl (Nat.le_of_ble_eq_true rfl) (by show _ ≤ d; omega) ⟨Nat.le_refl _, Nat.le_refl _⟩ (fun pe μ' hc => ?_)
      obtain ⟨rfl, hpe⟩ := hc
      have hpr := gPno_rng hpe
      have hnn := (hW f hf).1
      refine gg_goto (tgt := 105) dX10_tells_101 (by decide) ?_
      refine gg_istore (ls' := [(6, .int (iv pe)), (5, .int (iv 1)), (0, .ref (gad (gSS ad) 145)), (1, .int (iv (s : Int))), (2, .int (iv (f : Int))), (3, .int (iv (nm : Int))), (4, .int (iv wh))]) dX10_tells_105 (by decide) rfl ?_
      refine gg_iload dX10_tells_107 0 rfl ?_
      refine gg_iconst dX10_tells_109 ?_
      refine gg_icmp_ne (tgt := 116) dX10_tells_110 (by decide) (by omega) (fun hpg => ?_) (fun hpg => ?_)
      · obtain ⟨pl, rfl⟩ : ∃ pl : Nat, pe = (pl : Int) := ⟨pe.toNat, by omega⟩
        have hkp : Kf f pl = 0 := hpr.2.2 (by omega)
        refine gg_aload_n dX10_tells_116 2 rfl ?_
        refine gg_getR (k' := 146) rfl gf_RX10_9 dX10_tells_117 sh_145 pl_145 (by decide) (by decide) rr_145_0 ?_
        refine gg_iload_n dX10_tells_120 4 rfl ?_
        refine gg_ialdj f dX10_tells_121 sh_146 pl_146 (by decide) rfl hf ?_
        refine gg_toI (b := (nf f : Int)) (hM f hf).1 ?_
        refine gg_if_ne (tgt := 128) dX10_tells_122 (by decide) (by have := (hW f hf).1; omega) (fun hn0 => ?_) (fun hn0 => ?_)
        · refine gg_aload_n dX10_tells_128 2 rfl ?_
          refine gg_getR (k' := 237) rfl gf_RX10_72 dX10_tells_129 sh_145 pl_145 (by decide) (by decide) rr_145_33 ?_
          refine gg_iload_n dX10_tells_132 3 rfl ?_
          refine gg_ialdj s dX10_tells_133 sh_237 pl_237 (by decide) rfl hs ?_
          refine gg_toI (b := so) hso ?_
          refine gg_if_ge (tgt := 140) dX10_tells_134 (by decide) (by omega) (fun hms => ?_) (fun hms => ?_)
          · refine gg_aload_n dX10_tells_140 2 rfl ?_
            refine gg_getR (k' := 238) rfl gf_RX10_75 dX10_tells_141 sh_145 pl_145 (by decide) (by decide) rr_145_34 ?_
            refine gg_iload_n dX10_tells_144 3 rfl ?_
            refine gg_ialdj s dX10_tells_145 sh_238 pl_238 (by decide) rfl hs ?_
            refine gg_toI (b := (sn : Int)) hsn ?_
            refine gg_bipush dX10_tells_146 (by decide) ?_
            refine gg_icmp_le (tgt := 154) dX10_tells_148 (by decide) (by omega) (fun h20 => ?_) (fun h20 => ?_)
            · refine gg_iload dX10_tells_154 1 rfl ?_
              refine gg_if_eq_f (tgt := 181) dX10_tells_156 (by decide) (by decide) (by decide) ?_
              refine gg_aload_n dX10_tells_159 2 rfl ?_
              refine gg_iload_n dX10_tells_160 3 rfl ?_
              refine gg_iload_n dX10_tells_161 4 rfl ?_
              refine gg_iload_n dX10_tells_162 5 rfl ?_
              refine gg_iload dX10_tells_163 0 rfl ?_
              refine gg_iload dX10_tells_165 6 rfl ?_
              refine gg_bipush dX10_tells_167 (by decide) ?_
              refine gg_icmp_lt (tgt := 176) dX10_tells_169 (by decide) (by omega) (fun hle => ?_) (fun hle => ?_)
              · refine gg_iconst dX10_tells_176 ?_
                refine gg_callVi (own := RX10) (yt := gm_X10_numbersBy) rfl gl_RX10_353 gk_X10_numbersBy gr_X10_numbersBy dX10_tells_177 (c_X10_numbersBy (d := d - 1) hf (hM f hf) (hW f hf) (sn := sn) (T := T) (v := v) hs hsn (by omega) hTr hv hT (nm := nm) (pl := pl) (le := 0) hnm (by omega) hkp (by decide) (by have := (hW f hf).1; omega)) sh_145 pl_145 (by decide) rfl rfl rfl (Nat.le_of_ble_eq_true rfl) (by show _ ≤ d; omega) ⟨Nat.le_refl _, Nat.le_refl _⟩ (fun e11 μ' hc => ?_)
                obtain ⟨I2, J2, rfl, hI2, hJ2, rfl⟩ := hc
                refine gg_ireti dX10_tells_180 rfl ⟨rfl, rfl⟩ ?_
                refine ⟨(pl : Int), fun h => absurd h (by omega), fun _ => by first | (rw [if_pos (show wh < 100 by omega)]; exact hpe) | (rw [if_neg (show ¬ wh < 100 by omega)]; exact hpe), _, _, rfl, hI2, hJ2, ?_⟩
                unfold gTs
                rw [if_neg (show ¬ (pl : Int) < 0 by omega), if_neg (show ¬ nf f = 0 by omega), if_neg (show ¬ so < 0 by omega), if_neg (show ¬ 20 < sn by omega), if_neg (show ¬ wh = 0 by omega), if_neg (show ¬ wh = 1 by omega), if_neg (show ¬ wh = 2 by omega), if_neg (show ¬ 100 ≤ wh by omega)]
                exact rfl
              · refine gg_iconst dX10_tells_172 ?_
                refine gg_goto (tgt := 177) dX10_tells_173 (by decide) ?_
                refine gg_callVi (own := RX10) (yt := gm_X10_numbersBy) rfl gl_RX10_353 gk_X10_numbersBy gr_X10_numbersBy dX10_tells_177 (c_X10_numbersBy (d := d - 1) hf (hM f hf) (hW f hf) (sn := sn) (T := T) (v := v) hs hsn (by omega) hTr hv hT (nm := nm) (pl := pl) (le := 1) hnm (by omega) hkp (by decide) (by have := (hW f hf).1; omega)) sh_145 pl_145 (by decide) rfl rfl rfl (Nat.le_of_ble_eq_true rfl) (by show _ ≤ d; omega) ⟨Nat.le_refl _, Nat.le_refl _⟩ (fun e12 μ' hc => ?_)
                obtain ⟨I2, J2, rfl, hI2, hJ2, rfl⟩ := hc
                refine gg_ireti dX10_tells_180 rfl ⟨rfl, rfl⟩ ?_
                refine ⟨(pl : Int), fun h => absurd h (by omega), fun _ => by first | (rw [if_pos (show wh < 100 by omega)]; exact hpe) | (rw [if_neg (show ¬ wh < 100 by omega)]; exact hpe), _, _, rfl, hI2, hJ2, ?_⟩
                unfold gTs
                rw [if_neg (show ¬ (pl : Int) < 0 by omega), if_neg (show ¬ nf f = 0 by omega), if_neg (show ¬ so < 0 by omega), if_neg (show ¬ 20 < sn by omega), if_neg (show ¬ wh = 0 by omega), if_neg (show ¬ wh = 1 by omega), if_neg (show ¬ wh = 2 by omega), if_pos (show 100 ≤ wh by omega)]
                exact rfl
            · refine gg_bipush dX10_tells_151 (by decide) ?_
              refine gg_ireti dX10_tells_153 rfl ⟨rfl, rfl⟩ ?_
              refine ⟨(pl : Int), fun h => absurd h (by omega), fun _ => by first | (rw [if_pos (show wh < 100 by omega)]; exact hpe) | (rw [if_neg (show ¬ wh < 100 by omega)]; exact hpe), _, _, rfl, fun p _ => rfl, fun p => rfl, ?_⟩
              unfold gTs
              rw [if_neg (show ¬ (pl : Int) < 0 by omega), if_neg (show ¬ nf f = 0 by omega), if_neg (show ¬ so < 0 by omega), if_pos (show 20 < sn by omega)]
          · refine gg_bipush dX10_tells_137 (by decide) ?_
            refine gg_ireti dX10_tells_139 rfl ⟨rfl, rfl⟩ ?_
            refine ⟨(pl : Int), fun h => absurd h (by omega), fun _ => by first | (rw [if_pos (show wh < 100 by omega)]; exact hpe) | (rw [if_neg (show ¬ wh < 100 by omega)]; exact hpe), _, _, rfl, fun p _ => rfl, fun p => rfl, ?_⟩
            unfold gTs
            rw [if_neg (show ¬ (pl : Int) < 0 by omega), if_neg (show ¬ nf f = 0 by omega), if_pos (show so < 0 by omega)]
        · refine gg_bipush dX10_tells_125 (by decide) ?_
          refine gg_ireti dX10_tells_127 rfl ⟨rfl, rfl⟩ ?_
          refine ⟨(pl : Int), fun h => absurd h (by omega), fun _ => by first | (rw [if_pos (show wh < 100 by omega)]; exact hpe) | (rw [if_neg (show ¬ wh < 100 by omega)]; exact hpe), _, _, rfl, fun p _ => rfl, fun p => rfl, ?_⟩
          unfold gTs
          rw [if_neg (show ¬ (pl : Int) < 0 by omega), if_pos (show nf f = 0 by omega)]
      · refine gg_bipush dX10_tells_113 (by decide) ?_
        refine gg_ireti dX10_tells_115 rfl ⟨rfl, rfl⟩ ?_
        refine ⟨pe, fun h => absurd h (by omega), fun _ => by first | (rw [if_pos (show wh < 100 by omega)]; exact hpe) | (rw [if_neg (show ¬ wh < 100 by omega)]; exact hpe), _, _, rfl, fun p _ => rfl, fun p => rfl, ?_⟩
        unfold gTs
        rw [if_pos (show pe < 0 by omega)]
    · refine gg_iload dX10_tells_85 5 rfl ?_
      refine gg_bipush dX10_tells_87 (by decide) ?_
      refine gg_isub dX10_tells_89 ?_
      refine gg_goto (tgt := 98) dX10_tells_90 (by decide) ?_
      refine gg_callVi (own := RX10) (yt := gm_X10_numberAt) rfl gl_RX10_350 gk_X10_numberAt gr_X10_numberAt dX10_tells_98 (c_X10_numberAt (d := d - 1) hf (hM f hf) (hW f hf) (k := (wh - 10)) (by omega)) sh_145 pl_145 (by decide) rfl rfl rfl (Nat.le_of_ble_eq_true rfl) (by show _ ≤ d; omega) ⟨Nat.le_refl _, Nat.le_refl _⟩ (fun pe μ' hc => ?_)
      obtain ⟨rfl, hpe⟩ := hc
      have hpr := gPno_rng hpe
      have hnn := (hW f hf).1
      refine gg_goto (tgt := 105) dX10_tells_101 (by decide) ?_
      refine gg_istore (ls' := [(6, .int (iv pe)), (5, .int (iv 1)), (0, .ref (gad (gSS ad) 145)), (1, .int (iv (s : Int))), (2, .int (iv (f : Int))), (3, .int (iv (nm : Int))), (4, .int (iv wh))]) dX10_tells_105 (by decide) rfl ?_
      refine gg_iload dX10_tells_107 0 rfl ?_
      refine gg_iconst dX10_tells_109 ?_
      refine gg_icmp_ne (tgt := 116) dX10_tells_110 (by decide) (by omega) (fun hpg => ?_) (fun hpg => ?_)
      · obtain ⟨pl, rfl⟩ : ∃ pl : Nat, pe = (pl : Int) := ⟨pe.toNat, by omega⟩
        have hkp : Kf f pl = 0 := hpr.2.2 (by omega)
        refine gg_aload_n dX10_tells_116 2 rfl ?_
        refine gg_getR (k' := 146) rfl gf_RX10_9 dX10_tells_117 sh_145 pl_145 (by decide) (by decide) rr_145_0 ?_
        refine gg_iload_n dX10_tells_120 4 rfl ?_
        refine gg_ialdj f dX10_tells_121 sh_146 pl_146 (by decide) rfl hf ?_
        refine gg_toI (b := (nf f : Int)) (hM f hf).1 ?_
        refine gg_if_ne (tgt := 128) dX10_tells_122 (by decide) (by have := (hW f hf).1; omega) (fun hn0 => ?_) (fun hn0 => ?_)
        · refine gg_aload_n dX10_tells_128 2 rfl ?_
          refine gg_getR (k' := 237) rfl gf_RX10_72 dX10_tells_129 sh_145 pl_145 (by decide) (by decide) rr_145_33 ?_
          refine gg_iload_n dX10_tells_132 3 rfl ?_
          refine gg_ialdj s dX10_tells_133 sh_237 pl_237 (by decide) rfl hs ?_
          refine gg_toI (b := so) hso ?_
          refine gg_if_ge (tgt := 140) dX10_tells_134 (by decide) (by omega) (fun hms => ?_) (fun hms => ?_)
          · refine gg_aload_n dX10_tells_140 2 rfl ?_
            refine gg_getR (k' := 238) rfl gf_RX10_75 dX10_tells_141 sh_145 pl_145 (by decide) (by decide) rr_145_34 ?_
            refine gg_iload_n dX10_tells_144 3 rfl ?_
            refine gg_ialdj s dX10_tells_145 sh_238 pl_238 (by decide) rfl hs ?_
            refine gg_toI (b := (sn : Int)) hsn ?_
            refine gg_bipush dX10_tells_146 (by decide) ?_
            refine gg_icmp_le (tgt := 154) dX10_tells_148 (by decide) (by omega) (fun h20 => ?_) (fun h20 => ?_)
            · refine gg_iload dX10_tells_154 1 rfl ?_
              refine gg_if_eq_f (tgt := 181) dX10_tells_156 (by decide) (by decide) (by decide) ?_
              refine gg_aload_n dX10_tells_159 2 rfl ?_
              refine gg_iload_n dX10_tells_160 3 rfl ?_
              refine gg_iload_n dX10_tells_161 4 rfl ?_
              refine gg_iload_n dX10_tells_162 5 rfl ?_
              refine gg_iload dX10_tells_163 0 rfl ?_
              refine gg_iload dX10_tells_165 6 rfl ?_
              refine gg_bipush dX10_tells_167 (by decide) ?_
              refine gg_icmp_lt (tgt := 176) dX10_tells_169 (by decide) (by omega) (fun hle => ?_) (fun hle => ?_)
              · refine gg_iconst dX10_tells_176 ?_
                refine gg_callVi (own := RX10) (yt := gm_X10_numbersBy) rfl gl_RX10_353 gk_X10_numbersBy gr_X10_numbersBy dX10_tells_177 (c_X10_numbersBy (d := d - 1) hf (hM f hf) (hW f hf) (sn := sn) (T := T) (v := v) hs hsn (by omega) hTr hv hT (nm := nm) (pl := pl) (le := 0) hnm (by omega) hkp (by decide) (by have := (hW f hf).1; omega)) sh_145 pl_145 (by decide) rfl rfl rfl (Nat.le_of_ble_eq_true rfl) (by show _ ≤ d; omega) ⟨Nat.le_refl _, Nat.le_refl _⟩ (fun e13 μ' hc => ?_)
                obtain ⟨I2, J2, rfl, hI2, hJ2, rfl⟩ := hc
                refine gg_ireti dX10_tells_180 rfl ⟨rfl, rfl⟩ ?_
                refine ⟨(pl : Int), fun h => absurd h (by omega), fun _ => by first | (rw [if_pos (show wh < 100 by omega)]; exact hpe) | (rw [if_neg (show ¬ wh < 100 by omega)]; exact hpe), _, _, rfl, hI2, hJ2, ?_⟩
                unfold gTs
                rw [if_neg (show ¬ (pl : Int) < 0 by omega), if_neg (show ¬ nf f = 0 by omega), if_neg (show ¬ so < 0 by omega), if_neg (show ¬ 20 < sn by omega), if_neg (show ¬ wh = 0 by omega), if_neg (show ¬ wh = 1 by omega), if_neg (show ¬ wh = 2 by omega), if_neg (show ¬ 100 ≤ wh by omega)]
                exact rfl
              · refine gg_iconst dX10_tells_172 ?_
                refine gg_goto (tgt := 177) dX10_tells_173 (by decide) ?_
                refine gg_callVi (own := RX10) (yt := gm_X10_numbersBy) rfl gl_RX10_353 gk_X10_numbersBy gr_X10_numbersBy dX10_tells_177 (c_X10_numbersBy (d := d - 1) hf (hM f hf) (hW f hf) (sn := sn) (T := T) (v := v) hs hsn (by omega) hTr hv hT (nm := nm) (pl := pl) (le := 1) hnm (by omega) hkp (by decide) (by have := (hW f hf).1; omega)) sh_145 pl_145 (by decide) rfl rfl rfl (Nat.le_of_ble_eq_true rfl) (by show _ ≤ d; omega) ⟨Nat.le_refl _, Nat.le_refl _⟩ (fun e14 μ' hc => ?_)
                obtain ⟨I2, J2, rfl, hI2, hJ2, rfl⟩ := hc
                refine gg_ireti dX10_tells_180 rfl ⟨rfl, rfl⟩ ?_
                refine ⟨(pl : Int), fun h => absurd h (by omega), fun _ => by first | (rw [if_pos (show wh < 100 by omega)]; exact hpe) | (rw [if_neg (show ¬ wh < 100 by omega)]; exact hpe), _, _, rfl, hI2, hJ2, ?_⟩
                unfold gTs
                rw [if_neg (show ¬ (pl : Int) < 0 by omega), if_neg (show ¬ nf f = 0 by omega), if_neg (show ¬ so < 0 by omega), if_neg (show ¬ 20 < sn by omega), if_neg (show ¬ wh = 0 by omega), if_neg (show ¬ wh = 1 by omega), if_neg (show ¬ wh = 2 by omega), if_pos (show 100 ≤ wh by omega)]
                exact rfl
            · refine gg_bipush dX10_tells_151 (by decide) ?_
              refine gg_ireti dX10_tells_153 rfl ⟨rfl, rfl⟩ ?_
              refine ⟨(pl : Int), fun h => absurd h (by omega), fun _ => by first | (rw [if_pos (show wh < 100 by omega)]; exact hpe) | (rw [if_neg (show ¬ wh < 100 by omega)]; exact hpe), _, _, rfl, fun p _ => rfl, fun p => rfl, ?_⟩
              unfold gTs
              rw [if_neg (show ¬ (pl : Int) < 0 by omega), if_neg (show ¬ nf f = 0 by omega), if_neg (show ¬ so < 0 by omega), if_pos (show 20 < sn by omega)]
          · refine gg_bipush dX10_tells_137 (by decide) ?_
            refine gg_ireti dX10_tells_139 rfl ⟨rfl, rfl⟩ ?_
            refine ⟨(pl : Int), fun h => absurd h (by omega), fun _ => by first | (rw [if_pos (show wh < 100 by omega)]; exact hpe) | (rw [if_neg (show ¬ wh < 100 by omega)]; exact hpe), _, _, rfl, fun p _ => rfl, fun p => rfl, ?_⟩
            unfold gTs
            rw [if_neg (show ¬ (pl : Int) < 0 by omega), if_neg (show ¬ nf f = 0 by omega), if_pos (show so < 0 by omega)]
        · refine gg_bipush dX10_tells_125 (by decide) ?_
          refine gg_ireti dX10_tells_127 rfl ⟨rfl, rfl⟩ ?_
          refine ⟨(pl : Int), fun h => absurd h (by omega), fun _ => by first | (rw [if_pos (show wh < 100 by omega)]; exact hpe) | (rw [if_neg (show ¬ wh < 100 by omega)]; exact hpe), _, _, rfl, fun p _ => rfl, fun p => rfl, ?_⟩
          unfold gTs
          rw [if_neg (show ¬ (pl : Int) < 0 by omega), if_pos (show nf f = 0 by omega)]
      · refine gg_bipush dX10_tells_113 (by decide) ?_
        refine gg_ireti dX10_tells_115 rfl ⟨rfl, rfl⟩ ?_
        refine ⟨pe, fun h => absurd h (by omega), fun _ => by first | (rw [if_pos (show wh < 100 by omega)]; exact hpe) | (rw [if_neg (show ¬ wh < 100 by omega)]; exact hpe), _, _, rfl, fun p _ => rfl, fun p => rfl, ?_⟩
        unfold gTs
        rw [if_pos (show pe < 0 by omega)]
  · refine gg_if_ne_f (tgt := 25) dX10_tells_9 (by decide) (by decide) (by decide) ?_
    refine gg_iload dX10_tells_12 4 rfl ?_
    refine gg_bipush dX10_tells_14 (by decide) ?_
    refine gg_sipush dX10_tells_16 (by decide) ?_
    refine gg_callSi (own := RX10) (yt := gm_X10_in) rfl gl_RX10_84 gk_X10_in gr_X10_in dX10_tells_19 (c_X10_in (d := d - 1) (by omega)) rfl rfl (Nat.le_of_ble_eq_true rfl) (by show _ ≤ d; omega) ⟨Nat.le_refl _, Nat.le_refl _⟩ (fun e15 μ' hc => ?_)
    obtain ⟨rfl, ⟨rfl, hb16⟩ | ⟨rfl, hb16⟩⟩ := hc
    · refine gg_if_eq_f (tgt := 29) dX10_tells_22 (by decide) (by decide) (by decide) ?_
      refine gg_iconst dX10_tells_25 ?_
      refine gg_goto (tgt := 30) dX10_tells_26 (by decide) ?_
      refine gg_istore (ls' := [(5, .int (iv 1)), (0, .ref (gad (gSS ad) 145)), (1, .int (iv (s : Int))), (2, .int (iv (f : Int))), (3, .int (iv (nm : Int))), (4, .int (iv wh))]) dX10_tells_30 (by decide) rfl ?_
      refine gg_iload_n dX10_tells_32 2 rfl ?_
      refine gg_callSi (own := RX10) (yt := gm_X10_isSheet) rfl gl_RX10_347 gk_X10_isSheet gr_X10_isSheet dX10_tells_33 (c_X10_isSheet (d := d - 1) (by omega) (by omega)) rfl rfl (Nat.le_of_ble_eq_true rfl) (by show _ ≤ d; omega) ⟨Nat.le_refl _, Nat.le_refl _⟩ (fun e17 μ' hc => ?_)
      obtain ⟨rfl, ⟨rfl, hb18⟩ | ⟨rfl, hb18⟩⟩ := hc
      rotate_left
      · omega
      refine gg_if_eq_f (tgt := 68) dX10_tells_36 (by decide) (by decide) (by decide) ?_
      refine gg_iload_n dX10_tells_39 3 rfl ?_
      refine gg_callSi (own := RX10) (yt := gm_X10_isFormula) rfl gl_RX10_181 gk_X10_isFormula gr_X10_isFormula dX10_tells_40 (c_X10_isFormula (d := d - 1) (by omega) (by omega)) rfl rfl (Nat.le_of_ble_eq_true rfl) (by show _ ≤ d; omega) ⟨Nat.le_refl _, Nat.le_refl _⟩ (fun e19 μ' hc => ?_)
      obtain ⟨rfl, ⟨rfl, hb20⟩ | ⟨rfl, hb20⟩⟩ := hc
      rotate_left
      · omega
      refine gg_if_eq_f (tgt := 68) dX10_tells_43 (by decide) (by decide) (by decide) ?_
      refine gg_iload_n dX10_tells_46 4 rfl ?_
      refine gg_callSi (own := RX10) (yt := gm_X10_isName) rfl gl_RX10_189 gk_X10_isName gr_X10_isName dX10_tells_47 (c_X10_isName (d := d - 1) (by omega) (by omega)) rfl rfl (Nat.le_of_ble_eq_true rfl) (by show _ ≤ d; omega) ⟨Nat.le_refl _, Nat.le_refl _⟩ (fun e21 μ' hc => ?_)
      obtain ⟨rfl, ⟨rfl, hb22⟩ | ⟨rfl, hb22⟩⟩ := hc
      rotate_left
      · omega
      refine gg_if_eq_f (tgt := 68) dX10_tells_50 (by decide) (by decide) (by decide) ?_
      refine gg_iload dX10_tells_53 5 rfl ?_
      refine gg_iconst dX10_tells_55 ?_
      refine gg_iconst dX10_tells_56 ?_
      refine gg_callSi (own := RX10) (yt := gm_X10_in) rfl gl_RX10_84 gk_X10_in gr_X10_in dX10_tells_57 (c_X10_in (d := d - 1) (by omega)) rfl rfl (Nat.le_of_ble_eq_true rfl) (by show _ ≤ d; omega) ⟨Nat.le_refl _, Nat.le_refl _⟩ (fun e23 μ' hc => ?_)
      obtain ⟨rfl, ⟨rfl, hb24⟩ | ⟨rfl, hb24⟩⟩ := hc
      · omega
      refine gg_if_ne_f (tgt := 71) dX10_tells_60 (by decide) (by decide) (by decide) ?_
      refine gg_iload dX10_tells_63 0 rfl ?_
      refine gg_if_ne_t (tgt := 71) dX10_tells_65 (by decide) (by decide) (by decide) ?_
      refine gg_iload dX10_tells_71 0 rfl ?_
      refine gg_if_eq_f (tgt := 104) dX10_tells_73 (by decide) (by decide) (by decide) ?_
      refine gg_aload_n dX10_tells_76 1 rfl ?_
      refine gg_iload_n dX10_tells_77 3 rfl ?_
      refine gg_iload dX10_tells_78 5 rfl ?_
      refine gg_bipush dX10_tells_80 (by decide) ?_
      refine gg_icmp_ge (tgt := 93) dX10_tells_82 (by decide) (by omega) (fun hw2 => ?_) (fun hw2 => ?_)
      · refine gg_iload dX10_tells_93 5 rfl ?_
        refine gg_bipush dX10_tells_95 (by decide) ?_
        refine gg_isub dX10_tells_97 ?_
        refine gg_callVi (own := RX10) (yt := gm_X10_numberAt) rfl gl_RX10_350 gk_X10_numberAt gr_X10_numberAt dX10_tells_98 (c_X10_numberAt (d := d - 1) hf (hM f hf) (hW f hf) (k := (wh - 100)) (by omega)) sh_145 pl_145 (by decide) rfl rfl rfl (Nat.le_of_ble_eq_true rfl) (by show _ ≤ d; omega) ⟨Nat.le_refl _, Nat.le_refl _⟩ (fun pe μ' hc => ?_)
        obtain ⟨rfl, hpe⟩ := hc
        have hpr := gPno_rng hpe
        have hnn := (hW f hf).1
        refine gg_goto (tgt := 105) dX10_tells_101 (by decide) ?_
        refine gg_istore (ls' := [(6, .int (iv pe)), (5, .int (iv 1)), (0, .ref (gad (gSS ad) 145)), (1, .int (iv (s : Int))), (2, .int (iv (f : Int))), (3, .int (iv (nm : Int))), (4, .int (iv wh))]) dX10_tells_105 (by decide) rfl ?_
        refine gg_iload dX10_tells_107 0 rfl ?_
        refine gg_iconst dX10_tells_109 ?_
        refine gg_icmp_ne (tgt := 116) dX10_tells_110 (by decide) (by omega) (fun hpg => ?_) (fun hpg => ?_)
        · obtain ⟨pl, rfl⟩ : ∃ pl : Nat, pe = (pl : Int) := ⟨pe.toNat, by omega⟩
          have hkp : Kf f pl = 0 := hpr.2.2 (by omega)
          refine gg_aload_n dX10_tells_116 2 rfl ?_
          refine gg_getR (k' := 146) rfl gf_RX10_9 dX10_tells_117 sh_145 pl_145 (by decide) (by decide) rr_145_0 ?_
          refine gg_iload_n dX10_tells_120 4 rfl ?_
          refine gg_ialdj f dX10_tells_121 sh_146 pl_146 (by decide) rfl hf ?_
          refine gg_toI (b := (nf f : Int)) (hM f hf).1 ?_
          refine gg_if_ne (tgt := 128) dX10_tells_122 (by decide) (by have := (hW f hf).1; omega) (fun hn0 => ?_) (fun hn0 => ?_)
          · refine gg_aload_n dX10_tells_128 2 rfl ?_
            refine gg_getR (k' := 237) rfl gf_RX10_72 dX10_tells_129 sh_145 pl_145 (by decide) (by decide) rr_145_33 ?_
            refine gg_iload_n dX10_tells_132 3 rfl ?_
            refine gg_ialdj s dX10_tells_133 sh_237 pl_237 (by decide) rfl hs ?_
            refine gg_toI (b := so) hso ?_
            refine gg_if_ge (tgt := 140) dX10_tells_134 (by decide) (by omega) (fun hms => ?_) (fun hms => ?_)
            · refine gg_aload_n dX10_tells_140 2 rfl ?_
              refine gg_getR (k' := 238) rfl gf_RX10_75 dX10_tells_141 sh_145 pl_145 (by decide) (by decide) rr_145_34 ?_
              refine gg_iload_n dX10_tells_144 3 rfl ?_
              refine gg_ialdj s dX10_tells_145 sh_238 pl_238 (by decide) rfl hs ?_
              refine gg_toI (b := (sn : Int)) hsn ?_
              refine gg_bipush dX10_tells_146 (by decide) ?_
              refine gg_icmp_le (tgt := 154) dX10_tells_148 (by decide) (by omega) (fun h20 => ?_) (fun h20 => ?_)
              · refine gg_iload dX10_tells_154 1 rfl ?_
                refine gg_if_eq_f (tgt := 181) dX10_tells_156 (by decide) (by decide) (by decide) ?_
                refine gg_aload_n dX10_tells_159 2 rfl ?_
                refine gg_iload_n dX10_tells_160 3 rfl ?_
                refine gg_iload_n dX10_tells_161 4 rfl ?_
                refine gg_iload_n dX10_tells_162 5 rfl ?_
                refine gg_iload dX10_tells_163 0 rfl ?_
                refine gg_iload dX10_tells_165 6 rfl ?_
                refine gg_bipush dX10_tells_167 (by decide) ?_
                refine gg_icmp_lt (tgt := 176) dX10_tells_169 (by decide) (by omega) (fun hle => ?_) (fun hle => ?_)
                · refine gg_iconst dX10_tells_176 ?_
                  refine gg_callVi (own := RX10) (yt := gm_X10_numbersBy) rfl gl_RX10_353 gk_X10_numbersBy gr_X10_numbersBy dX10_tells_177 (c_X10_numbersBy (d := d - 1) hf (hM f hf) (hW f hf) (sn := sn) (T := T) (v := v) hs hsn (by omega) hTr hv hT (nm := nm) (pl := pl) (le := 0) hnm (by omega) hkp (by decide) (by have := (hW f hf).1; omega)) sh_145 pl_145 (by decide) rfl rfl rfl (Nat.le_of_ble_eq_true rfl) (by show _ ≤ d; omega) ⟨Nat.le_refl _, Nat.le_refl _⟩ (fun e25 μ' hc => ?_)
                  obtain ⟨I2, J2, rfl, hI2, hJ2, rfl⟩ := hc
                  refine gg_ireti dX10_tells_180 rfl ⟨rfl, rfl⟩ ?_
                  refine ⟨(pl : Int), fun h => absurd h (by omega), fun _ => by first | (rw [if_pos (show wh < 100 by omega)]; exact hpe) | (rw [if_neg (show ¬ wh < 100 by omega)]; exact hpe), _, _, rfl, hI2, hJ2, ?_⟩
                  unfold gTs
                  rw [if_neg (show ¬ (pl : Int) < 0 by omega), if_neg (show ¬ nf f = 0 by omega), if_neg (show ¬ so < 0 by omega), if_neg (show ¬ 20 < sn by omega), if_neg (show ¬ wh = 0 by omega), if_neg (show ¬ wh = 1 by omega), if_neg (show ¬ wh = 2 by omega), if_neg (show ¬ 100 ≤ wh by omega)]
                  exact rfl
                · refine gg_iconst dX10_tells_172 ?_
                  refine gg_goto (tgt := 177) dX10_tells_173 (by decide) ?_
                  refine gg_callVi (own := RX10) (yt := gm_X10_numbersBy) rfl gl_RX10_353 gk_X10_numbersBy gr_X10_numbersBy dX10_tells_177 (c_X10_numbersBy (d := d - 1) hf (hM f hf) (hW f hf) (sn := sn) (T := T) (v := v) hs hsn (by omega) hTr hv hT (nm := nm) (pl := pl) (le := 1) hnm (by omega) hkp (by decide) (by have := (hW f hf).1; omega)) sh_145 pl_145 (by decide) rfl rfl rfl (Nat.le_of_ble_eq_true rfl) (by show _ ≤ d; omega) ⟨Nat.le_refl _, Nat.le_refl _⟩ (fun e26 μ' hc => ?_)
                  obtain ⟨I2, J2, rfl, hI2, hJ2, rfl⟩ := hc
                  refine gg_ireti dX10_tells_180 rfl ⟨rfl, rfl⟩ ?_
                  refine ⟨(pl : Int), fun h => absurd h (by omega), fun _ => by first | (rw [if_pos (show wh < 100 by omega)]; exact hpe) | (rw [if_neg (show ¬ wh < 100 by omega)]; exact hpe), _, _, rfl, hI2, hJ2, ?_⟩
                  unfold gTs
                  rw [if_neg (show ¬ (pl : Int) < 0 by omega), if_neg (show ¬ nf f = 0 by omega), if_neg (show ¬ so < 0 by omega), if_neg (show ¬ 20 < sn by omega), if_neg (show ¬ wh = 0 by omega), if_neg (show ¬ wh = 1 by omega), if_neg (show ¬ wh = 2 by omega), if_pos (show 100 ≤ wh by omega)]
                  exact rfl
              · refine gg_bipush dX10_tells_151 (by decide) ?_
                refine gg_ireti dX10_tells_153 rfl ⟨rfl, rfl⟩ ?_
                refine ⟨(pl : Int), fun h => absurd h (by omega), fun _ => by first | (rw [if_pos (show wh < 100 by omega)]; exact hpe) | (rw [if_neg (show ¬ wh < 100 by omega)]; exact hpe), _, _, rfl, fun p _ => rfl, fun p => rfl, ?_⟩
                unfold gTs
                rw [if_neg (show ¬ (pl : Int) < 0 by omega), if_neg (show ¬ nf f = 0 by omega), if_neg (show ¬ so < 0 by omega), if_pos (show 20 < sn by omega)]
            · refine gg_bipush dX10_tells_137 (by decide) ?_
              refine gg_ireti dX10_tells_139 rfl ⟨rfl, rfl⟩ ?_
              refine ⟨(pl : Int), fun h => absurd h (by omega), fun _ => by first | (rw [if_pos (show wh < 100 by omega)]; exact hpe) | (rw [if_neg (show ¬ wh < 100 by omega)]; exact hpe), _, _, rfl, fun p _ => rfl, fun p => rfl, ?_⟩
              unfold gTs
              rw [if_neg (show ¬ (pl : Int) < 0 by omega), if_neg (show ¬ nf f = 0 by omega), if_pos (show so < 0 by omega)]
          · refine gg_bipush dX10_tells_125 (by decide) ?_
            refine gg_ireti dX10_tells_127 rfl ⟨rfl, rfl⟩ ?_
            refine ⟨(pl : Int), fun h => absurd h (by omega), fun _ => by first | (rw [if_pos (show wh < 100 by omega)]; exact hpe) | (rw [if_neg (show ¬ wh < 100 by omega)]; exact hpe), _, _, rfl, fun p _ => rfl, fun p => rfl, ?_⟩
            unfold gTs
            rw [if_neg (show ¬ (pl : Int) < 0 by omega), if_pos (show nf f = 0 by omega)]
        · refine gg_bipush dX10_tells_113 (by decide) ?_
          refine gg_ireti dX10_tells_115 rfl ⟨rfl, rfl⟩ ?_
          refine ⟨pe, fun h => absurd h (by omega), fun _ => by first | (rw [if_pos (show wh < 100 by omega)]; exact hpe) | (rw [if_neg (show ¬ wh < 100 by omega)]; exact hpe), _, _, rfl, fun p _ => rfl, fun p => rfl, ?_⟩
          unfold gTs
          rw [if_pos (show pe < 0 by omega)]
      · refine gg_iload dX10_tells_85 5 rfl ?_
        refine gg_bipush dX10_tells_87 (by decide) ?_
        refine gg_isub dX10_tells_89 ?_
        refine gg_goto (tgt := 98) dX10_tells_90 (by decide) ?_
        refine gg_callVi (own := RX10) (yt := gm_X10_numberAt) rfl gl_RX10_350 gk_X10_numberAt gr_X10_numberAt dX10_tells_98 (c_X10_numberAt (d := d - 1) hf (hM f hf) (hW f hf) (k := (wh - 10)) (by omega)) sh_145 pl_145 (by decide) rfl rfl rfl (Nat.le_of_ble_eq_true rfl) (by show _ ≤ d; omega) ⟨Nat.le_refl _, Nat.le_refl _⟩ (fun pe μ' hc => ?_)
        obtain ⟨rfl, hpe⟩ := hc
        have hpr := gPno_rng hpe
        have hnn := (hW f hf).1
        refine gg_goto (tgt := 105) dX10_tells_101 (by decide) ?_
        refine gg_istore (ls' := [(6, .int (iv pe)), (5, .int (iv 1)), (0, .ref (gad (gSS ad) 145)), (1, .int (iv (s : Int))), (2, .int (iv (f : Int))), (3, .int (iv (nm : Int))), (4, .int (iv wh))]) dX10_tells_105 (by decide) rfl ?_
        refine gg_iload dX10_tells_107 0 rfl ?_
        refine gg_iconst dX10_tells_109 ?_
        refine gg_icmp_ne (tgt := 116) dX10_tells_110 (by decide) (by omega) (fun hpg => ?_) (fun hpg => ?_)
        · obtain ⟨pl, rfl⟩ : ∃ pl : Nat, pe = (pl : Int) := ⟨pe.toNat, by omega⟩
          have hkp : Kf f pl = 0 := hpr.2.2 (by omega)
          refine gg_aload_n dX10_tells_116 2 rfl ?_
          refine gg_getR (k' := 146) rfl gf_RX10_9 dX10_tells_117 sh_145 pl_145 (by decide) (by decide) rr_145_0 ?_
          refine gg_iload_n dX10_tells_120 4 rfl ?_
          refine gg_ialdj f dX10_tells_121 sh_146 pl_146 (by decide) rfl hf ?_
          refine gg_toI (b := (nf f : Int)) (hM f hf).1 ?_
          refine gg_if_ne (tgt := 128) dX10_tells_122 (by decide) (by have := (hW f hf).1; omega) (fun hn0 => ?_) (fun hn0 => ?_)
          · refine gg_aload_n dX10_tells_128 2 rfl ?_
            refine gg_getR (k' := 237) rfl gf_RX10_72 dX10_tells_129 sh_145 pl_145 (by decide) (by decide) rr_145_33 ?_
            refine gg_iload_n dX10_tells_132 3 rfl ?_
            refine gg_ialdj s dX10_tells_133 sh_237 pl_237 (by decide) rfl hs ?_
            refine gg_toI (b := so) hso ?_
            refine gg_if_ge (tgt := 140) dX10_tells_134 (by decide) (by omega) (fun hms => ?_) (fun hms => ?_)
            · refine gg_aload_n dX10_tells_140 2 rfl ?_
              refine gg_getR (k' := 238) rfl gf_RX10_75 dX10_tells_141 sh_145 pl_145 (by decide) (by decide) rr_145_34 ?_
              refine gg_iload_n dX10_tells_144 3 rfl ?_
              refine gg_ialdj s dX10_tells_145 sh_238 pl_238 (by decide) rfl hs ?_
              refine gg_toI (b := (sn : Int)) hsn ?_
              refine gg_bipush dX10_tells_146 (by decide) ?_
              refine gg_icmp_le (tgt := 154) dX10_tells_148 (by decide) (by omega) (fun h20 => ?_) (fun h20 => ?_)
              · refine gg_iload dX10_tells_154 1 rfl ?_
                refine gg_if_eq_f (tgt := 181) dX10_tells_156 (by decide) (by decide) (by decide) ?_
                refine gg_aload_n dX10_tells_159 2 rfl ?_
                refine gg_iload_n dX10_tells_160 3 rfl ?_
                refine gg_iload_n dX10_tells_161 4 rfl ?_
                refine gg_iload_n dX10_tells_162 5 rfl ?_
                refine gg_iload dX10_tells_163 0 rfl ?_
                refine gg_iload dX10_tells_165 6 rfl ?_
                refine gg_bipush dX10_tells_167 (by decide) ?_
                refine gg_icmp_lt (tgt := 176) dX10_tells_169 (by decide) (by omega) (fun hle => ?_) (fun hle => ?_)
                · refine gg_iconst dX10_tells_176 ?_
                  refine gg_callVi (own := RX10) (yt := gm_X10_numbersBy) rfl gl_RX10_353 gk_X10_numbersBy gr_X10_numbersBy dX10_tells_177 (c_X10_numbersBy (d := d - 1) hf (hM f hf) (hW f hf) (sn := sn) (T := T) (v := v) hs hsn (by omega) hTr hv hT (nm := nm) (pl := pl) (le := 0) hnm (by omega) hkp (by decide) (by have := (hW f hf).1; omega)) sh_145 pl_145 (by decide) rfl rfl rfl (Nat.le_of_ble_eq_true rfl) (by show _ ≤ d; omega) ⟨Nat.le_refl _, Nat.le_refl _⟩ (fun e27 μ' hc => ?_)
                  obtain ⟨I2, J2, rfl, hI2, hJ2, rfl⟩ := hc
                  refine gg_ireti dX10_tells_180 rfl ⟨rfl, rfl⟩ ?_
                  refine ⟨(pl : Int), fun h => absurd h (by omega), fun _ => by first | (rw [if_pos (show wh < 100 by omega)]; exact hpe) | (rw [if_neg (show ¬ wh < 100 by omega)]; exact hpe), _, _, rfl, hI2, hJ2, ?_⟩
                  unfold gTs
                  rw [if_neg (show ¬ (pl : Int) < 0 by omega), if_neg (show ¬ nf f = 0 by omega), if_neg (show ¬ so < 0 by omega), if_neg (show ¬ 20 < sn by omega), if_neg (show ¬ wh = 0 by omega), if_neg (show ¬ wh = 1 by omega), if_neg (show ¬ wh = 2 by omega), if_neg (show ¬ 100 ≤ wh by omega)]
                  exact rfl
                · refine gg_iconst dX10_tells_172 ?_
                  refine gg_goto (tgt := 177) dX10_tells_173 (by decide) ?_
                  refine gg_callVi (own := RX10) (yt := gm_X10_numbersBy) rfl gl_RX10_353 gk_X10_numbersBy gr_X10_numbersBy dX10_tells_177 (c_X10_numbersBy (d := d - 1) hf (hM f hf) (hW f hf) (sn := sn) (T := T) (v := v) hs hsn (by omega) hTr hv hT (nm := nm) (pl := pl) (le := 1) hnm (by omega) hkp (by decide) (by have := (hW f hf).1; omega)) sh_145 pl_145 (by decide) rfl rfl rfl (Nat.le_of_ble_eq_true rfl) (by show _ ≤ d; omega) ⟨Nat.le_refl _, Nat.le_refl _⟩ (fun e28 μ' hc => ?_)
                  obtain ⟨I2, J2, rfl, hI2, hJ2, rfl⟩ := hc
                  refine gg_ireti dX10_tells_180 rfl ⟨rfl, rfl⟩ ?_
                  refine ⟨(pl : Int), fun h => absurd h (by omega), fun _ => by first | (rw [if_pos (show wh < 100 by omega)]; exact hpe) | (rw [if_neg (show ¬ wh < 100 by omega)]; exact hpe), _, _, rfl, hI2, hJ2, ?_⟩
                  unfold gTs
                  rw [if_neg (show ¬ (pl : Int) < 0 by omega), if_neg (show ¬ nf f = 0 by omega), if_neg (show ¬ so < 0 by omega), if_neg (show ¬ 20 < sn by omega), if_neg (show ¬ wh = 0 by omega), if_neg (show ¬ wh = 1 by omega), if_neg (show ¬ wh = 2 by omega), if_pos (show 100 ≤ wh by omega)]
                  exact rfl
              · refine gg_bipush dX10_tells_151 (by decide) ?_
                refine gg_ireti dX10_tells_153 rfl ⟨rfl, rfl⟩ ?_
                refine ⟨(pl : Int), fun h => absurd h (by omega), fun _ => by first | (rw [if_pos (show wh < 100 by omega)]; exact hpe) | (rw [if_neg (show ¬ wh < 100 by omega)]; exact hpe), _, _, rfl, fun p _ => rfl, fun p => rfl, ?_⟩
                unfold gTs
                rw [if_neg (show ¬ (pl : Int) < 0 by omega), if_neg (show ¬ nf f = 0 by omega), if_neg (show ¬ so < 0 by omega), if_pos (show 20 < sn by omega)]
            · refine gg_bipush dX10_tells_137 (by decide) ?_
              refine gg_ireti dX10_tells_139 rfl ⟨rfl, rfl⟩ ?_
              refine ⟨(pl : Int), fun h => absurd h (by omega), fun _ => by first | (rw [if_pos (show wh < 100 by omega)]; exact hpe) | (rw [if_neg (show ¬ wh < 100 by omega)]; exact hpe), _, _, rfl, fun p _ => rfl, fun p => rfl, ?_⟩
              unfold gTs
              rw [if_neg (show ¬ (pl : Int) < 0 by omega), if_neg (show ¬ nf f = 0 by omega), if_pos (show so < 0 by omega)]
          · refine gg_bipush dX10_tells_125 (by decide) ?_
            refine gg_ireti dX10_tells_127 rfl ⟨rfl, rfl⟩ ?_
            refine ⟨(pl : Int), fun h => absurd h (by omega), fun _ => by first | (rw [if_pos (show wh < 100 by omega)]; exact hpe) | (rw [if_neg (show ¬ wh < 100 by omega)]; exact hpe), _, _, rfl, fun p _ => rfl, fun p => rfl, ?_⟩
            unfold gTs
            rw [if_neg (show ¬ (pl : Int) < 0 by omega), if_pos (show nf f = 0 by omega)]
        · refine gg_bipush dX10_tells_113 (by decide) ?_
          refine gg_ireti dX10_tells_115 rfl ⟨rfl, rfl⟩ ?_
          refine ⟨pe, fun h => absurd h (by omega), fun _ => by first | (rw [if_pos (show wh < 100 by omega)]; exact hpe) | (rw [if_neg (show ¬ wh < 100 by omega)]; exact hpe), _, _, rfl, fun p _ => rfl, fun p => rfl, ?_⟩
          unfold gTs
          rw [if_pos (show pe < 0 by omega)]
    · refine gg_if_eq_t (tgt := 29) dX10_tells_22 (by decide) (by decide) (by decide) ?_
      refine gg_iconst dX10_tells_29 ?_
      refine gg_istore (ls' := [(5, .int (iv 0)), (0, .ref (gad (gSS ad) 145)), (1, .int (iv (s : Int))), (2, .int (iv (f : Int))), (3, .int (iv (nm : Int))), (4, .int (iv wh))]) dX10_tells_30 (by decide) rfl ?_
      refine gg_iload_n dX10_tells_32 2 rfl ?_
      refine gg_callSi (own := RX10) (yt := gm_X10_isSheet) rfl gl_RX10_347 gk_X10_isSheet gr_X10_isSheet dX10_tells_33 (c_X10_isSheet (d := d - 1) (by omega) (by omega)) rfl rfl (Nat.le_of_ble_eq_true rfl) (by show _ ≤ d; omega) ⟨Nat.le_refl _, Nat.le_refl _⟩ (fun e29 μ' hc => ?_)
      obtain ⟨rfl, ⟨rfl, hb30⟩ | ⟨rfl, hb30⟩⟩ := hc
      rotate_left
      · omega
      refine gg_if_eq_f (tgt := 68) dX10_tells_36 (by decide) (by decide) (by decide) ?_
      refine gg_iload_n dX10_tells_39 3 rfl ?_
      refine gg_callSi (own := RX10) (yt := gm_X10_isFormula) rfl gl_RX10_181 gk_X10_isFormula gr_X10_isFormula dX10_tells_40 (c_X10_isFormula (d := d - 1) (by omega) (by omega)) rfl rfl (Nat.le_of_ble_eq_true rfl) (by show _ ≤ d; omega) ⟨Nat.le_refl _, Nat.le_refl _⟩ (fun e31 μ' hc => ?_)
      obtain ⟨rfl, ⟨rfl, hb32⟩ | ⟨rfl, hb32⟩⟩ := hc
      rotate_left
      · omega
      refine gg_if_eq_f (tgt := 68) dX10_tells_43 (by decide) (by decide) (by decide) ?_
      refine gg_iload_n dX10_tells_46 4 rfl ?_
      refine gg_callSi (own := RX10) (yt := gm_X10_isName) rfl gl_RX10_189 gk_X10_isName gr_X10_isName dX10_tells_47 (c_X10_isName (d := d - 1) (by omega) (by omega)) rfl rfl (Nat.le_of_ble_eq_true rfl) (by show _ ≤ d; omega) ⟨Nat.le_refl _, Nat.le_refl _⟩ (fun e33 μ' hc => ?_)
      obtain ⟨rfl, ⟨rfl, hb34⟩ | ⟨rfl, hb34⟩⟩ := hc
      rotate_left
      · omega
      refine gg_if_eq_f (tgt := 68) dX10_tells_50 (by decide) (by decide) (by decide) ?_
      refine gg_iload dX10_tells_53 5 rfl ?_
      refine gg_iconst dX10_tells_55 ?_
      refine gg_iconst dX10_tells_56 ?_
      refine gg_callSi (own := RX10) (yt := gm_X10_in) rfl gl_RX10_84 gk_X10_in gr_X10_in dX10_tells_57 (c_X10_in (d := d - 1) (by omega)) rfl rfl (Nat.le_of_ble_eq_true rfl) (by show _ ≤ d; omega) ⟨Nat.le_refl _, Nat.le_refl _⟩ (fun e35 μ' hc => ?_)
      obtain ⟨rfl, ⟨rfl, hb36⟩ | ⟨rfl, hb36⟩⟩ := hc
      rotate_left
      · omega
      refine gg_if_ne_t (tgt := 71) dX10_tells_60 (by decide) (by decide) (by decide) ?_
      refine gg_iload dX10_tells_71 0 rfl ?_
      refine gg_if_eq_t (tgt := 104) dX10_tells_73 (by decide) (by decide) (by decide) ?_
      refine gg_iconst dX10_tells_104 ?_
      refine gg_istore (ls' := [(6, .int (iv 0)), (5, .int (iv 0)), (0, .ref (gad (gSS ad) 145)), (1, .int (iv (s : Int))), (2, .int (iv (f : Int))), (3, .int (iv (nm : Int))), (4, .int (iv wh))]) dX10_tells_105 (by decide) rfl ?_
      refine gg_iload dX10_tells_107 0 rfl ?_
      refine gg_iconst dX10_tells_109 ?_
      refine gg_icmp_ne_t (tgt := 116) dX10_tells_110 (by decide) (by decide) (by decide) ?_
      refine gg_aload_n dX10_tells_116 2 rfl ?_
      refine gg_getR (k' := 146) rfl gf_RX10_9 dX10_tells_117 sh_145 pl_145 (by decide) (by decide) rr_145_0 ?_
      refine gg_iload_n dX10_tells_120 4 rfl ?_
      refine gg_ialdj f dX10_tells_121 sh_146 pl_146 (by decide) rfl hf ?_
      refine gg_toI (b := (nf f : Int)) (hM f hf).1 ?_
      refine gg_if_ne (tgt := 128) dX10_tells_122 (by decide) (by have := (hW f hf).1; omega) (fun hn0 => ?_) (fun hn0 => ?_)
      · refine gg_aload_n dX10_tells_128 2 rfl ?_
        refine gg_getR (k' := 237) rfl gf_RX10_72 dX10_tells_129 sh_145 pl_145 (by decide) (by decide) rr_145_33 ?_
        refine gg_iload_n dX10_tells_132 3 rfl ?_
        refine gg_ialdj s dX10_tells_133 sh_237 pl_237 (by decide) rfl hs ?_
        refine gg_toI (b := so) hso ?_
        refine gg_if_ge (tgt := 140) dX10_tells_134 (by decide) (by omega) (fun hms => ?_) (fun hms => ?_)
        · refine gg_aload_n dX10_tells_140 2 rfl ?_
          refine gg_getR (k' := 238) rfl gf_RX10_75 dX10_tells_141 sh_145 pl_145 (by decide) (by decide) rr_145_34 ?_
          refine gg_iload_n dX10_tells_144 3 rfl ?_
          refine gg_ialdj s dX10_tells_145 sh_238 pl_238 (by decide) rfl hs ?_
          refine gg_toI (b := (sn : Int)) hsn ?_
          refine gg_bipush dX10_tells_146 (by decide) ?_
          refine gg_icmp_le (tgt := 154) dX10_tells_148 (by decide) (by omega) (fun h20 => ?_) (fun h20 => ?_)
          · refine gg_iload dX10_tells_154 1 rfl ?_
            refine gg_if_eq_t (tgt := 181) dX10_tells_156 (by decide) (by decide) (by decide) ?_
            refine gg_iload dX10_tells_181 6 rfl ?_
            refine gg_if_ne (tgt := 194) dX10_tells_183 (by decide) (by omega) (fun hwz => ?_) (fun hwz => ?_)
            · refine gg_iconst dX10_tells_194 ?_
              refine gg_istore (ls' := [(7, .int (iv 0)), (6, .int (iv 0)), (5, .int (iv 0)), (0, .ref (gad (gSS ad) 145)), (1, .int (iv (s : Int))), (2, .int (iv (f : Int))), (3, .int (iv (nm : Int))), (4, .int (iv wh))]) dX10_tells_195 (by decide) rfl ?_
              refine gg_iconst dX10_tells_197 ?_
              refine gg_istore (ls' := [(8, .int (iv 0)), (7, .int (iv 0)), (6, .int (iv 0)), (5, .int (iv 0)), (0, .ref (gad (gSS ad) 145)), (1, .int (iv (s : Int))), (2, .int (iv (f : Int))), (3, .int (iv (nm : Int))), (4, .int (iv wh))]) dX10_tells_198 (by decide) rfl ?_
              obtain hk | hk : wh = 1 ∨ wh = 2 := by omega
              · refine gg_sub [0, 1, 4, 5, 6, 7, 8, 3, 2] rfl ?_
                refine gG_post (w1_X10_tells hM hW hs hsn (by omega) hTr hv hT (f := f) hnm hk (by omega) 13 0 I (by omega) (by omega) (fun _ _ => rfl)) ?_
                rintro r μ ⟨e, rfl, I2, rfl, hI2, he⟩
                refine ⟨e, rfl, ?_⟩
                refine ⟨0, fun _ => rfl, fun h => absurd h (by omega), _, _, rfl, hI2, fun p => rfl, ?_⟩
                unfold gTs
                rw [if_neg (show ¬ (0 : Int) < 0 by omega), if_neg (show ¬ nf f = 0 by omega), if_neg (show ¬ so < 0 by omega), if_neg (show ¬ 20 < sn by omega), if_neg (show ¬ wh = 0 by omega), if_pos (show wh = 1 by omega)]
                exact he
              · refine gg_sub [0, 1, 4, 5, 6, 7, 8, 3, 2] rfl ?_
                refine gG_post (w3_X10_tells hM hW hs hsn (by omega) hTr hv hT (nm := nm) hf (by omega) hk (by omega)) ?_
                rintro r μ ⟨e, rfl, I2, rfl, hI2, he⟩
                refine ⟨e, rfl, ?_⟩
                refine ⟨0, fun _ => rfl, fun h => absurd h (by omega), _, _, rfl, hI2, fun p => rfl, ?_⟩
                unfold gTs
                rw [if_neg (show ¬ (0 : Int) < 0 by omega), if_neg (show ¬ nf f = 0 by omega), if_neg (show ¬ so < 0 by omega), if_neg (show ¬ 20 < sn by omega), if_neg (show ¬ wh = 0 by omega), if_neg (show ¬ wh = 1 by omega), if_pos (show wh = 2 by omega)]
                exact he
            · refine gg_aload_n dX10_tells_186 2 rfl ?_
              refine gg_iload_n dX10_tells_187 3 rfl ?_
              refine gg_iload_n dX10_tells_188 4 rfl ?_
              refine gg_iload_n dX10_tells_189 5 rfl ?_
              refine gg_callVi (own := RX10) (yt := gm_X10_otherwise) rfl gl_RX10_344 gk_X10_otherwise gr_X10_otherwise dX10_tells_190 (c_X10_otherwise (d := d - 1) hf (hM f hf) (hW f hf) (sn := sn) (T := T) (v := v) hs hsn (by omega) hTr hv hT (by omega) hnm (by have := (hW f hf).1; omega)) sh_145 pl_145 (by decide) rfl rfl rfl (Nat.le_of_ble_eq_true rfl) (by show _ ≤ d; omega) ⟨Nat.le_refl _, Nat.le_refl _⟩ (fun e37 μ' hc => ?_)
              obtain ⟨I2, rfl, hI2, rfl⟩ := hc
              refine gg_ireti dX10_tells_193 rfl ⟨rfl, rfl⟩ ?_
              refine ⟨0, fun _ => rfl, fun h => absurd h (by omega), _, _, rfl, hI2, fun p => rfl, ?_⟩
              unfold gTs
              rw [if_neg (show ¬ (0 : Int) < 0 by omega), if_neg (show ¬ nf f = 0 by omega), if_neg (show ¬ so < 0 by omega), if_neg (show ¬ 20 < sn by omega), if_pos (show wh = 0 by omega)]
          · refine gg_bipush dX10_tells_151 (by decide) ?_
            refine gg_ireti dX10_tells_153 rfl ⟨rfl, rfl⟩ ?_
            refine ⟨0, fun _ => rfl, fun h => absurd h (by omega), _, _, rfl, fun p _ => rfl, fun p => rfl, ?_⟩
            unfold gTs
            rw [if_neg (show ¬ (0 : Int) < 0 by omega), if_neg (show ¬ nf f = 0 by omega), if_neg (show ¬ so < 0 by omega), if_pos (show 20 < sn by omega)]
        · refine gg_bipush dX10_tells_137 (by decide) ?_
          refine gg_ireti dX10_tells_139 rfl ⟨rfl, rfl⟩ ?_
          refine ⟨0, fun _ => rfl, fun h => absurd h (by omega), _, _, rfl, fun p _ => rfl, fun p => rfl, ?_⟩
          unfold gTs
          rw [if_neg (show ¬ (0 : Int) < 0 by omega), if_neg (show ¬ nf f = 0 by omega), if_pos (show so < 0 by omega)]
      · refine gg_bipush dX10_tells_125 (by decide) ?_
        refine gg_ireti dX10_tells_127 rfl ⟨rfl, rfl⟩ ?_
        refine ⟨0, fun _ => rfl, fun h => absurd h (by omega), _, _, rfl, fun p _ => rfl, fun p => rfl, ?_⟩
        unfold gTs
        rw [if_neg (show ¬ (0 : Int) < 0 by omega), if_pos (show nf f = 0 by omega)]

set_option maxRecDepth 10000 in
theorem c_X10_tells_out {l : Launch} {Γ : gC} {ad : Nat → Nat} {I : Nat → Nat → Int} {J : Nat → Nat → Int64} {d : Nat} {s0 i nm wh : Int} (hs0 : -2147483648 ≤ s0 ∧ s0 ≤ 2147483647) (hi : -2147483648 ≤ i ∧ i ≤ 2147483647) (hnm : -2147483648 ≤ nm ∧ nm ≤ 2147483647) (hwh : -2147483648 ≤ wh ∧ wh ≤ 2147483647) (ho : ¬ (0 ≤ s0 ∧ s0 ≤ 3 ∧ 0 ≤ i ∧ i ≤ 11 ∧ 0 ≤ nm ∧ nm ≤ 7 ∧ ((0 ≤ wh ∧ wh ≤ 2) ∨ (10 ≤ wh ∧ wh ≤ 50) ∨ (100 ≤ wh ∧ wh ≤ 140)))) (hd : 3 ≤ d) : gKi l Γ gm_X10_tells d [.ref (gad (gSS ad) 145), .int (iv s0), .int (iv i), .int (iv nm), .int (iv wh)] (gSS ad, I, J) (fun e μ => μ = (gSS ad, I, J) ∧ e = -2) := by
  refine gKi_of gk_X10_tells.1 (Nat.le_of_ble_eq_true rfl) ?_
  show gG l Γ gm_X10_tells (d, 0, 0, 0, 0) 0 [(0, .ref (gad (gSS ad) 145)), (1, .int (iv s0)), (2, .int (iv i)), (3, .int (iv nm)), (4, .int (iv wh))] [] _ _
  refine gg_iload dX10_tells_0 4 rfl ?_
  refine gg_bipush dX10_tells_2 (by decide) ?_
  refine gg_bipush dX10_tells_4 (by decide) ?_
  refine gg_callSi (own := RX10) (yt := gm_X10_in) rfl gl_RX10_84 gk_X10_in gr_X10_in dX10_tells_6 (c_X10_in (d := d - 1) (by omega)) rfl rfl (Nat.le_of_ble_eq_true rfl) (by show _ ≤ d; omega) ⟨Nat.le_refl _, Nat.le_refl _⟩ (fun e1 μ' hc => ?_)
  obtain ⟨rfl, ⟨rfl, hb2⟩ | ⟨rfl, hb2⟩⟩ := hc
  · refine gg_if_ne_t (tgt := 25) dX10_tells_9 (by decide) (by decide) (by decide) ?_
    refine gg_iconst dX10_tells_25 ?_
    refine gg_goto (tgt := 30) dX10_tells_26 (by decide) ?_
    refine gg_istore (ls' := [(5, .int (iv 1)), (0, .ref (gad (gSS ad) 145)), (1, .int (iv s0)), (2, .int (iv i)), (3, .int (iv nm)), (4, .int (iv wh))]) dX10_tells_30 (by decide) rfl ?_
    refine gg_iload_n dX10_tells_32 2 rfl ?_
    refine gg_callSi (own := RX10) (yt := gm_X10_isSheet) rfl gl_RX10_347 gk_X10_isSheet gr_X10_isSheet dX10_tells_33 (c_X10_isSheet (d := d - 1) (by omega) (by omega)) rfl rfl (Nat.le_of_ble_eq_true rfl) (by show _ ≤ d; omega) ⟨Nat.le_refl _, Nat.le_refl _⟩ (fun e3 μ' hc => ?_)
    obtain ⟨rfl, ⟨rfl, hb4⟩ | ⟨rfl, hb4⟩⟩ := hc
    · refine gg_if_eq_f (tgt := 68) dX10_tells_36 (by decide) (by decide) (by decide) ?_
      refine gg_iload_n dX10_tells_39 3 rfl ?_
      refine gg_callSi (own := RX10) (yt := gm_X10_isFormula) rfl gl_RX10_181 gk_X10_isFormula gr_X10_isFormula dX10_tells_40 (c_X10_isFormula (d := d - 1) (by omega) (by omega)) rfl rfl (Nat.le_of_ble_eq_true rfl) (by show _ ≤ d; omega) ⟨Nat.le_refl _, Nat.le_refl _⟩ (fun e5 μ' hc => ?_)
      obtain ⟨rfl, ⟨rfl, hb6⟩ | ⟨rfl, hb6⟩⟩ := hc
      · refine gg_if_eq_f (tgt := 68) dX10_tells_43 (by decide) (by decide) (by decide) ?_
        refine gg_iload_n dX10_tells_46 4 rfl ?_
        refine gg_callSi (own := RX10) (yt := gm_X10_isName) rfl gl_RX10_189 gk_X10_isName gr_X10_isName dX10_tells_47 (c_X10_isName (d := d - 1) (by omega) (by omega)) rfl rfl (Nat.le_of_ble_eq_true rfl) (by show _ ≤ d; omega) ⟨Nat.le_refl _, Nat.le_refl _⟩ (fun e7 μ' hc => ?_)
        obtain ⟨rfl, ⟨rfl, hb8⟩ | ⟨rfl, hb8⟩⟩ := hc
        · refine gg_if_eq_f (tgt := 68) dX10_tells_50 (by decide) (by decide) (by decide) ?_
          refine gg_iload dX10_tells_53 5 rfl ?_
          refine gg_iconst dX10_tells_55 ?_
          refine gg_iconst dX10_tells_56 ?_
          refine gg_callSi (own := RX10) (yt := gm_X10_in) rfl gl_RX10_84 gk_X10_in gr_X10_in dX10_tells_57 (c_X10_in (d := d - 1) (by omega)) rfl rfl (Nat.le_of_ble_eq_true rfl) (by show _ ≤ d; omega) ⟨Nat.le_refl _, Nat.le_refl _⟩ (fun e9 μ' hc => ?_)
          obtain ⟨rfl, ⟨rfl, hb10⟩ | ⟨rfl, hb10⟩⟩ := hc
          · refine gg_if_ne_t (tgt := 71) dX10_tells_60 (by decide) (by decide) (by decide) ?_
            exfalso
            omega
          · refine gg_if_ne_f (tgt := 71) dX10_tells_60 (by decide) (by decide) (by decide) ?_
            refine gg_iload dX10_tells_63 0 rfl ?_
            refine gg_if_ne_t (tgt := 71) dX10_tells_65 (by decide) (by decide) (by decide) ?_
            exfalso
            omega
        · refine gg_if_eq_t (tgt := 68) dX10_tells_50 (by decide) (by decide) (by decide) ?_
          refine gg_bipush dX10_tells_68 (by decide) ?_
          refine gg_ireti dX10_tells_70 rfl ⟨rfl, rfl⟩ ?_
          exact ⟨rfl, rfl⟩
      · refine gg_if_eq_t (tgt := 68) dX10_tells_43 (by decide) (by decide) (by decide) ?_
        refine gg_bipush dX10_tells_68 (by decide) ?_
        refine gg_ireti dX10_tells_70 rfl ⟨rfl, rfl⟩ ?_
        exact ⟨rfl, rfl⟩
    · refine gg_if_eq_t (tgt := 68) dX10_tells_36 (by decide) (by decide) (by decide) ?_
      refine gg_bipush dX10_tells_68 (by decide) ?_
      refine gg_ireti dX10_tells_70 rfl ⟨rfl, rfl⟩ ?_
      exact ⟨rfl, rfl⟩
  · refine gg_if_ne_f (tgt := 25) dX10_tells_9 (by decide) (by decide) (by decide) ?_
    refine gg_iload dX10_tells_12 4 rfl ?_
    refine gg_bipush dX10_tells_14 (by decide) ?_
    refine gg_sipush dX10_tells_16 (by decide) ?_
    refine gg_callSi (own := RX10) (yt := gm_X10_in) rfl gl_RX10_84 gk_X10_in gr_X10_in dX10_tells_19 (c_X10_in (d := d - 1) (by omega)) rfl rfl (Nat.le_of_ble_eq_true rfl) (by show _ ≤ d; omega) ⟨Nat.le_refl _, Nat.le_refl _⟩ (fun e11 μ' hc => ?_)
    obtain ⟨rfl, ⟨rfl, hb12⟩ | ⟨rfl, hb12⟩⟩ := hc
    · refine gg_if_eq_f (tgt := 29) dX10_tells_22 (by decide) (by decide) (by decide) ?_
      refine gg_iconst dX10_tells_25 ?_
      refine gg_goto (tgt := 30) dX10_tells_26 (by decide) ?_
      refine gg_istore (ls' := [(5, .int (iv 1)), (0, .ref (gad (gSS ad) 145)), (1, .int (iv s0)), (2, .int (iv i)), (3, .int (iv nm)), (4, .int (iv wh))]) dX10_tells_30 (by decide) rfl ?_
      refine gg_iload_n dX10_tells_32 2 rfl ?_
      refine gg_callSi (own := RX10) (yt := gm_X10_isSheet) rfl gl_RX10_347 gk_X10_isSheet gr_X10_isSheet dX10_tells_33 (c_X10_isSheet (d := d - 1) (by omega) (by omega)) rfl rfl (Nat.le_of_ble_eq_true rfl) (by show _ ≤ d; omega) ⟨Nat.le_refl _, Nat.le_refl _⟩ (fun e13 μ' hc => ?_)
      obtain ⟨rfl, ⟨rfl, hb14⟩ | ⟨rfl, hb14⟩⟩ := hc
      · refine gg_if_eq_f (tgt := 68) dX10_tells_36 (by decide) (by decide) (by decide) ?_
        refine gg_iload_n dX10_tells_39 3 rfl ?_
        refine gg_callSi (own := RX10) (yt := gm_X10_isFormula) rfl gl_RX10_181 gk_X10_isFormula gr_X10_isFormula dX10_tells_40 (c_X10_isFormula (d := d - 1) (by omega) (by omega)) rfl rfl (Nat.le_of_ble_eq_true rfl) (by show _ ≤ d; omega) ⟨Nat.le_refl _, Nat.le_refl _⟩ (fun e15 μ' hc => ?_)
        obtain ⟨rfl, ⟨rfl, hb16⟩ | ⟨rfl, hb16⟩⟩ := hc
        · refine gg_if_eq_f (tgt := 68) dX10_tells_43 (by decide) (by decide) (by decide) ?_
          refine gg_iload_n dX10_tells_46 4 rfl ?_
          refine gg_callSi (own := RX10) (yt := gm_X10_isName) rfl gl_RX10_189 gk_X10_isName gr_X10_isName dX10_tells_47 (c_X10_isName (d := d - 1) (by omega) (by omega)) rfl rfl (Nat.le_of_ble_eq_true rfl) (by show _ ≤ d; omega) ⟨Nat.le_refl _, Nat.le_refl _⟩ (fun e17 μ' hc => ?_)
          obtain ⟨rfl, ⟨rfl, hb18⟩ | ⟨rfl, hb18⟩⟩ := hc
          · refine gg_if_eq_f (tgt := 68) dX10_tells_50 (by decide) (by decide) (by decide) ?_
            refine gg_iload dX10_tells_53 5 rfl ?_
            refine gg_iconst dX10_tells_55 ?_
            refine gg_iconst dX10_tells_56 ?_
            refine gg_callSi (own := RX10) (yt := gm_X10_in) rfl gl_RX10_84 gk_X10_in gr_X10_in dX10_tells_57 (c_X10_in (d := d - 1) (by omega)) rfl rfl (Nat.le_of_ble_eq_true rfl) (by show _ ≤ d; omega) ⟨Nat.le_refl _, Nat.le_refl _⟩ (fun e19 μ' hc => ?_)
            obtain ⟨rfl, ⟨rfl, hb20⟩ | ⟨rfl, hb20⟩⟩ := hc
            · refine gg_if_ne_t (tgt := 71) dX10_tells_60 (by decide) (by decide) (by decide) ?_
              exfalso
              omega
            · refine gg_if_ne_f (tgt := 71) dX10_tells_60 (by decide) (by decide) (by decide) ?_
              refine gg_iload dX10_tells_63 0 rfl ?_
              refine gg_if_ne_t (tgt := 71) dX10_tells_65 (by decide) (by decide) (by decide) ?_
              exfalso
              omega
          · refine gg_if_eq_t (tgt := 68) dX10_tells_50 (by decide) (by decide) (by decide) ?_
            refine gg_bipush dX10_tells_68 (by decide) ?_
            refine gg_ireti dX10_tells_70 rfl ⟨rfl, rfl⟩ ?_
            exact ⟨rfl, rfl⟩
        · refine gg_if_eq_t (tgt := 68) dX10_tells_43 (by decide) (by decide) (by decide) ?_
          refine gg_bipush dX10_tells_68 (by decide) ?_
          refine gg_ireti dX10_tells_70 rfl ⟨rfl, rfl⟩ ?_
          exact ⟨rfl, rfl⟩
      · refine gg_if_eq_t (tgt := 68) dX10_tells_36 (by decide) (by decide) (by decide) ?_
        refine gg_bipush dX10_tells_68 (by decide) ?_
        refine gg_ireti dX10_tells_70 rfl ⟨rfl, rfl⟩ ?_
        exact ⟨rfl, rfl⟩
    · refine gg_if_eq_t (tgt := 29) dX10_tells_22 (by decide) (by decide) (by decide) ?_
      refine gg_iconst dX10_tells_29 ?_
      refine gg_istore (ls' := [(5, .int (iv 0)), (0, .ref (gad (gSS ad) 145)), (1, .int (iv s0)), (2, .int (iv i)), (3, .int (iv nm)), (4, .int (iv wh))]) dX10_tells_30 (by decide) rfl ?_
      refine gg_iload_n dX10_tells_32 2 rfl ?_
      refine gg_callSi (own := RX10) (yt := gm_X10_isSheet) rfl gl_RX10_347 gk_X10_isSheet gr_X10_isSheet dX10_tells_33 (c_X10_isSheet (d := d - 1) (by omega) (by omega)) rfl rfl (Nat.le_of_ble_eq_true rfl) (by show _ ≤ d; omega) ⟨Nat.le_refl _, Nat.le_refl _⟩ (fun e21 μ' hc => ?_)
      obtain ⟨rfl, ⟨rfl, hb22⟩ | ⟨rfl, hb22⟩⟩ := hc
      · refine gg_if_eq_f (tgt := 68) dX10_tells_36 (by decide) (by decide) (by decide) ?_
        refine gg_iload_n dX10_tells_39 3 rfl ?_
        refine gg_callSi (own := RX10) (yt := gm_X10_isFormula) rfl gl_RX10_181 gk_X10_isFormula gr_X10_isFormula dX10_tells_40 (c_X10_isFormula (d := d - 1) (by omega) (by omega)) rfl rfl (Nat.le_of_ble_eq_true rfl) (by show _ ≤ d; omega) ⟨Nat.le_refl _, Nat.le_refl _⟩ (fun e23 μ' hc => ?_)
        obtain ⟨rfl, ⟨rfl, hb24⟩ | ⟨rfl, hb24⟩⟩ := hc
        · refine gg_if_eq_f (tgt := 68) dX10_tells_43 (by decide) (by decide) (by decide) ?_
          refine gg_iload_n dX10_tells_46 4 rfl ?_
          refine gg_callSi (own := RX10) (yt := gm_X10_isName) rfl gl_RX10_189 gk_X10_isName gr_X10_isName dX10_tells_47 (c_X10_isName (d := d - 1) (by omega) (by omega)) rfl rfl (Nat.le_of_ble_eq_true rfl) (by show _ ≤ d; omega) ⟨Nat.le_refl _, Nat.le_refl _⟩ (fun e25 μ' hc => ?_)
          obtain ⟨rfl, ⟨rfl, hb26⟩ | ⟨rfl, hb26⟩⟩ := hc
          · refine gg_if_eq_f (tgt := 68) dX10_tells_50 (by decide) (by decide) (by decide) ?_
            refine gg_iload dX10_tells_53 5 rfl ?_
            refine gg_iconst dX10_tells_55 ?_
            refine gg_iconst dX10_tells_56 ?_
            refine gg_callSi (own := RX10) (yt := gm_X10_in) rfl gl_RX10_84 gk_X10_in gr_X10_in dX10_tells_57 (c_X10_in (d := d - 1) (by omega)) rfl rfl (Nat.le_of_ble_eq_true rfl) (by show _ ≤ d; omega) ⟨Nat.le_refl _, Nat.le_refl _⟩ (fun e27 μ' hc => ?_)
            obtain ⟨rfl, ⟨rfl, hb28⟩ | ⟨rfl, hb28⟩⟩ := hc
            · refine gg_if_ne_t (tgt := 71) dX10_tells_60 (by decide) (by decide) (by decide) ?_
              exfalso
              omega
            · refine gg_if_ne_f (tgt := 71) dX10_tells_60 (by decide) (by decide) (by decide) ?_
              refine gg_iload dX10_tells_63 0 rfl ?_
              refine gg_if_ne_f (tgt := 71) dX10_tells_65 (by decide) (by decide) (by decide) ?_
              refine gg_bipush dX10_tells_68 (by decide) ?_
              refine gg_ireti dX10_tells_70 rfl ⟨rfl, rfl⟩ ?_
              exact ⟨rfl, rfl⟩
          · refine gg_if_eq_t (tgt := 68) dX10_tells_50 (by decide) (by decide) (by decide) ?_
            refine gg_bipush dX10_tells_68 (by decide) ?_
            refine gg_ireti dX10_tells_70 rfl ⟨rfl, rfl⟩ ?_
            exact ⟨rfl, rfl⟩
        · refine gg_if_eq_t (tgt := 68) dX10_tells_43 (by decide) (by decide) (by decide) ?_
          refine gg_bipush dX10_tells_68 (by decide) ?_
          refine gg_ireti dX10_tells_70 rfl ⟨rfl, rfl⟩ ?_
          exact ⟨rfl, rfl⟩
      · refine gg_if_eq_t (tgt := 68) dX10_tells_36 (by decide) (by decide) (by decide) ?_
        refine gg_bipush dX10_tells_68 (by decide) ?_
        refine gg_ireti dX10_tells_70 rfl ⟨rfl, rfl⟩ ?_
        exact ⟨rfl, rfl⟩

