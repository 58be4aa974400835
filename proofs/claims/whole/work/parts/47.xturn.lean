/-! the class's turn -/
/-- what turning leaves -/
def gTres (I : Nat → Nat → Int) (J : Nat → Nat → Int64) (A n : Nat) (K : Nat → Nat) (N : Nat → Int64) (Z : Nat → Nat) (st : Prop) (T : gLn) (e : Int) : Prop := (st ∧ e = -3 ∧ gAt I J A n K N Z) ∨ (¬ st ∧ 200 < T.length ∧ e = -4 ∧ gAt I J A n K N Z) ∨ (¬ st ∧ T.length ≤ 200 ∧ e = (T.length : Int) ∧ gAt I J A T.length (gRk T) (gRn T) (gZl T))
theorem gSl_drop (K : Nat → Nat) (N : Nat → Int64) : ∀ (z j q : Nat), q ≤ z → (gSl K N j z).drop q = gSl K N (j + q) (z - q)
  | z, j, 0, _ => rfl
  | 0, j, q + 1, h => absurd h (by omega)
  | z + 1, j, q + 1, h => by
    show (gSl K N (j + 1) z).drop q = _
    rw [gSl_drop K N z (j + 1) q (by omega), show j + 1 + q = j + (q + 1) by omega, show z + 1 - (q + 1) = z - q by omega]
theorem gRow_list {n : Nat} {K : Nat → Nat} {N : Nat → Int64} {Z : Nat → Nat} (hW : gWf n K N Z) {j : Nat} (hj : j < n) : gRk (gSl K N 0 n) j = K j ∧ gRn (gSl K N 0 n) j = N j ∧ gZl (gSl K N 0 n) j = Z j := by
  have h := gSl_at K N n 0 j hj
  rw [Nat.zero_add] at h
  refine ⟨?_, ?_, ?_⟩
  · unfold gRk
    rw [List.getD_eq_getElem?_getD, h]
    rfl
  · unfold gRn
    rw [List.getD_eq_getElem?_getD, h]
    rfl
  · have hz := (hW.2.2 j hj).2.2.1
    have e : (gSl K N 0 n).drop j = gSt1 K N Z j ++ gSl K N (j + Z j) (n - j - Z j) := by
      rw [gSl_drop K N n 0 j (by omega), Nat.zero_add]
      unfold gSt1
      rw [← gSl_add, show Z j + (n - j - Z j) = n - j by omega]
    rw [gZl_of e (gSt1_fo hW j hj)]
    exact gSl_len _ _ _ _
theorem gAt_list {I : Nat → Nat → Int} {J : Nat → Nat → Int64} {a n : Nat} {K : Nat → Nat} {N : Nat → Int64} {Z : Nat → Nat} (hW : gWf n K N Z) (h : gAt I J a n K N Z) : gAt I J a (gSl K N 0 n).length (gRk (gSl K N 0 n)) (gRn (gSl K N 0 n)) (gZl (gSl K N 0 n)) := by
  rw [gSl_len]
  refine ⟨h.1, fun j hj => ?_⟩
  obtain ⟨h1, h2, h3⟩ := gRow_list hW hj
  rw [h1, h2, h3]
  exact h.2 j hj
set_option maxRecDepth 10000 in
theorem c_X9_isTurn {l : Launch} {Γ : gC} {ad : Nat → Nat} {I : Nat → Nat → Int} {J : Nat → Nat → Int64} {d : Nat} {w : Int} (hw : -2147483648 ≤ w ∧ w ≤ 2147483647) (hd : 1 ≤ d) : gKi l Γ gm_X9_isTurn d [.int (iv w)] (gSS ad, I, J) (fun e μ => μ = (gSS ad, I, J) ∧ ((e = 1 ∧ ((w = 0 ∨ w = 1 ∨ w = 30 ∨ (10 ≤ w ∧ w ≤ 17) ∨ (20 ≤ w ∧ w ≤ 27)))) ∨ (e = 0 ∧ ¬ ((w = 0 ∨ w = 1 ∨ w = 30 ∨ (10 ≤ w ∧ w ≤ 17) ∨ (20 ≤ w ∧ w ≤ 27)))))) := by
  refine gKi_of gk_X9_isTurn.1 (Nat.le_of_ble_eq_true rfl) ?_
  show gG l Γ gm_X9_isTurn (d, 0, 0, 0, 0) 0 [(0, .int (iv w))] [] _ _
  refine gg_iload_n dX9_isTurn_0 0 rfl ?_
  refine gg_if_eq (tgt := 47) dX9_isTurn_1 (by decide) (by omega) (fun hb1 => ?_) (fun hb1 => ?_)
  · refine gg_iconst dX9_isTurn_47 ?_
    refine gg_goto (tgt := 52) dX9_isTurn_48 (by decide) ?_
    refine gg_iretz dX9_isTurn_52 rfl (by decide) ⟨rfl, rfl⟩ ?_
    exact ⟨rfl, Or.inl ⟨rfl, by omega⟩⟩
  · refine gg_iload_n dX9_isTurn_4 0 rfl ?_
    refine gg_iconst dX9_isTurn_5 ?_
    refine gg_icmp_eq (tgt := 47) dX9_isTurn_6 (by decide) (by omega) (fun hb2 => ?_) (fun hb2 => ?_)
    · refine gg_iconst dX9_isTurn_47 ?_
      refine gg_goto (tgt := 52) dX9_isTurn_48 (by decide) ?_
      refine gg_iretz dX9_isTurn_52 rfl (by decide) ⟨rfl, rfl⟩ ?_
      exact ⟨rfl, Or.inl ⟨rfl, by omega⟩⟩
    · refine gg_iload_n dX9_isTurn_9 0 rfl ?_
      refine gg_bipush dX9_isTurn_10 (by decide) ?_
      refine gg_icmp_eq (tgt := 47) dX9_isTurn_12 (by decide) (by omega) (fun hb3 => ?_) (fun hb3 => ?_)
      · refine gg_iconst dX9_isTurn_47 ?_
        refine gg_goto (tgt := 52) dX9_isTurn_48 (by decide) ?_
        refine gg_iretz dX9_isTurn_52 rfl (by decide) ⟨rfl, rfl⟩ ?_
        exact ⟨rfl, Or.inl ⟨rfl, by omega⟩⟩
      · refine gg_iload_n dX9_isTurn_15 0 rfl ?_
        refine gg_bipush dX9_isTurn_16 (by decide) ?_
        refine gg_icmp_lt (tgt := 31) dX9_isTurn_18 (by decide) (by omega) (fun hb4 => ?_) (fun hb4 => ?_)
        · refine gg_iload_n dX9_isTurn_31 0 rfl ?_
          refine gg_bipush dX9_isTurn_32 (by decide) ?_
          refine gg_icmp_lt (tgt := 51) dX9_isTurn_34 (by decide) (by omega) (fun hb5 => ?_) (fun hb5 => ?_)
          · refine gg_iconst dX9_isTurn_51 ?_
            refine gg_iretz dX9_isTurn_52 rfl (by decide) ⟨rfl, rfl⟩ ?_
            exact ⟨rfl, Or.inr ⟨rfl, by omega⟩⟩
          · refine gg_iload_n dX9_isTurn_37 0 rfl ?_
            refine gg_bipush dX9_isTurn_38 (by decide) ?_
            refine gg_isub dX9_isTurn_40 ?_
            refine gg_callSi (own := RX9) (yt := gm_X9_isName) rfl gl_RX9_122 gk_X9_isName gr_X9_isName dX9_isTurn_41 (c_X9_isName (d := d - 1) (by omega)) rfl rfl (Nat.le_of_ble_eq_true rfl) (by show _ ≤ d; omega) ⟨Nat.le_refl _, Nat.le_refl _⟩ (fun e6 μ' hc => ?_)
            obtain ⟨rfl, ⟨rfl, hb7⟩ | ⟨rfl, hb7⟩⟩ := hc
            · refine gg_if_eq_f (tgt := 51) dX9_isTurn_44 (by decide) (by decide) (by decide) ?_
              refine gg_iconst dX9_isTurn_47 ?_
              refine gg_goto (tgt := 52) dX9_isTurn_48 (by decide) ?_
              refine gg_iretz dX9_isTurn_52 rfl (by decide) ⟨rfl, rfl⟩ ?_
              exact ⟨rfl, Or.inl ⟨rfl, by omega⟩⟩
            · refine gg_if_eq_t (tgt := 51) dX9_isTurn_44 (by decide) (by decide) (by decide) ?_
              refine gg_iconst dX9_isTurn_51 ?_
              refine gg_iretz dX9_isTurn_52 rfl (by decide) ⟨rfl, rfl⟩ ?_
              exact ⟨rfl, Or.inr ⟨rfl, by omega⟩⟩
        · refine gg_iload_n dX9_isTurn_21 0 rfl ?_
          refine gg_bipush dX9_isTurn_22 (by decide) ?_
          refine gg_isub dX9_isTurn_24 ?_
          refine gg_callSi (own := RX9) (yt := gm_X9_isName) rfl gl_RX9_122 gk_X9_isName gr_X9_isName dX9_isTurn_25 (c_X9_isName (d := d - 1) (by omega)) rfl rfl (Nat.le_of_ble_eq_true rfl) (by show _ ≤ d; omega) ⟨Nat.le_refl _, Nat.le_refl _⟩ (fun e8 μ' hc => ?_)
          obtain ⟨rfl, ⟨rfl, hb9⟩ | ⟨rfl, hb9⟩⟩ := hc
          · refine gg_if_ne_t (tgt := 47) dX9_isTurn_28 (by decide) (by decide) (by decide) ?_
            refine gg_iconst dX9_isTurn_47 ?_
            refine gg_goto (tgt := 52) dX9_isTurn_48 (by decide) ?_
            refine gg_iretz dX9_isTurn_52 rfl (by decide) ⟨rfl, rfl⟩ ?_
            exact ⟨rfl, Or.inl ⟨rfl, by omega⟩⟩
          · refine gg_if_ne_f (tgt := 47) dX9_isTurn_28 (by decide) (by decide) (by decide) ?_
            refine gg_iload_n dX9_isTurn_31 0 rfl ?_
            refine gg_bipush dX9_isTurn_32 (by decide) ?_
            refine gg_icmp_lt (tgt := 51) dX9_isTurn_34 (by decide) (by omega) (fun hb10 => ?_) (fun hb10 => ?_)
            · refine gg_iconst dX9_isTurn_51 ?_
              refine gg_iretz dX9_isTurn_52 rfl (by decide) ⟨rfl, rfl⟩ ?_
              exact ⟨rfl, Or.inr ⟨rfl, by omega⟩⟩
            · refine gg_iload_n dX9_isTurn_37 0 rfl ?_
              refine gg_bipush dX9_isTurn_38 (by decide) ?_
              refine gg_isub dX9_isTurn_40 ?_
              refine gg_callSi (own := RX9) (yt := gm_X9_isName) rfl gl_RX9_122 gk_X9_isName gr_X9_isName dX9_isTurn_41 (c_X9_isName (d := d - 1) (by omega)) rfl rfl (Nat.le_of_ble_eq_true rfl) (by show _ ≤ d; omega) ⟨Nat.le_refl _, Nat.le_refl _⟩ (fun e11 μ' hc => ?_)
              obtain ⟨rfl, ⟨rfl, hb12⟩ | ⟨rfl, hb12⟩⟩ := hc
              · refine gg_if_eq_f (tgt := 51) dX9_isTurn_44 (by decide) (by decide) (by decide) ?_
                refine gg_iconst dX9_isTurn_47 ?_
                refine gg_goto (tgt := 52) dX9_isTurn_48 (by decide) ?_
                refine gg_iretz dX9_isTurn_52 rfl (by decide) ⟨rfl, rfl⟩ ?_
                exact ⟨rfl, Or.inl ⟨rfl, by omega⟩⟩
              · refine gg_if_eq_t (tgt := 51) dX9_isTurn_44 (by decide) (by decide) (by decide) ?_
                refine gg_iconst dX9_isTurn_51 ?_
                refine gg_iretz dX9_isTurn_52 rfl (by decide) ⟨rfl, rfl⟩ ?_
                exact ⟨rfl, Or.inr ⟨rfl, by omega⟩⟩

set_option maxRecDepth 10000 in
theorem c_X9_turnedRoot_f {l : Launch} {Γ : gC} {ad : Nat → Nat} {I : Nat → Nat → Int} {J : Nat → Nat → Int64} {d : Nat} {a n : Nat} {K : Nat → Nat} {N : Nat → Int64} {Z : Nat → Nat} (hF : gF a) (hA : gAt I J a n K N Z) (hW : gWf n K N Z) {b : Int} (hn0 : 0 < n) (hd : 8 ≤ d) : gKi l Γ gm_X9_turnedRoot d [.ref (gad (gSS ad) 0), .ref (gad (gSS ad) a), .int (iv 1), .int (iv b)] (gSS ad, I, J) (fun e μ => ∃ I1 J1 D r, μ = (gSS ad, I1, J1) ∧ gDf I1 J1 D ∧ (∀ p, p < 12 ∨ (20 ≤ p ∧ p ≤ 21) ∨ 25 ≤ p → I1 p = I p) ∧ (∀ q, q ≠ 6 → I1 12 q = I 12 q) ∧ (∀ p, p ≠ 14 → J1 p = J p) ∧ e = ((r : Nat) : Int) ∧ D[r]? = some ((gFd n K N Z) 0)) := by
  refine gKi_of gk_X9_turnedRoot.1 (Nat.le_of_ble_eq_true rfl) ?_
  show gG l Γ gm_X9_turnedRoot (d, 0, 0, 0, 0) 0 [(0, .ref (gad (gSS ad) 0)), (1, .ref (gad (gSS ad) a)), (2, .int (iv 1)), (3, .int (iv b))] [] _ _
  refine gg_iload_n dX9_turnedRoot_0 2 rfl ?_
  refine gg_iconst dX9_turnedRoot_1 ?_
  refine gg_icmp_ne_f (tgt := 14) dX9_turnedRoot_2 (by decide) (by decide) (by decide) ?_
  refine gg_aload_n dX9_turnedRoot_5 0 rfl ?_
  refine gg_getR (k' := 22) rfl gf_RX9_61 dX9_turnedRoot_6 sh_0 pl_0 (by decide) (by decide) rr_0_11 ?_
  refine gg_aload_n dX9_turnedRoot_9 1 rfl ?_
  refine gg_callVi (own := RX9) (yt := gm_X7_folded) rfl gl_RX9_305 gk_X7_folded gr_X7_folded dX9_turnedRoot_10 (c_X7_folded (d := d - 1) hF hA hW hn0 (by omega)) sh_22 pl_22 (by decide) rfl rfl rfl (Nat.le_of_ble_eq_true rfl) (by show _ ≤ d; omega) ⟨Nat.le_refl _, Nat.le_refl _⟩ (fun e1 μ' hc => ?_)
  obtain ⟨I1, J1, D, r, rfl, hD, f1, f2, f3, rfl, hr⟩ := hc
  refine gg_ireti dX9_turnedRoot_13 rfl ⟨rfl, rfl⟩ ?_
  exact ⟨I1, J1, D, r, rfl, hD, f1, f2, f3, rfl, hr⟩

set_option maxRecDepth 10000 in
theorem c_X9_turnedRoot_d {l : Launch} {Γ : gC} {ad : Nat → Nat} {I : Nat → Nat → Int} {J : Nat → Nat → Int64} {d : Nat} {a n : Nat} {K : Nat → Nat} {N : Nat → Int64} {Z : Nat → Nat} (hF : gF a) (hA : gAt I J a n K N Z) (hW : gWf n K N Z) {b nm : Int} (hnm : 0 ≤ nm ∧ nm < 8) (hn0 : 0 < n) (hd : 8 ≤ d) : gKi l Γ gm_X9_turnedRoot d [.ref (gad (gSS ad) 0), .ref (gad (gSS ad) a), .int (iv (10 + nm)), .int (iv b)] (gSS ad, I, J) (fun e μ => ∃ I1 J1 D r, μ = (gSS ad, I1, J1) ∧ gDf I1 J1 D ∧ (∀ p, p < 12 ∨ (20 ≤ p ∧ p ≤ 21) ∨ 25 ≤ p → I1 p = I p) ∧ (∀ q, q ≠ 6 → I1 12 q = I 12 q) ∧ (∀ p, p ≠ 14 → J1 p = J p) ∧ e = ((r : Nat) : Int) ∧ D[r]? = some ((gDv0 n nm K N Z) 0)) := by
  refine gKi_of gk_X9_turnedRoot.1 (Nat.le_of_ble_eq_true rfl) ?_
  show gG l Γ gm_X9_turnedRoot (d, 0, 0, 0, 0) 0 [(0, .ref (gad (gSS ad) 0)), (1, .ref (gad (gSS ad) a)), (2, .int (iv (10 + nm))), (3, .int (iv b))] [] _ _
  refine gg_iload_n dX9_turnedRoot_0 2 rfl ?_
  refine gg_iconst dX9_turnedRoot_1 ?_
  refine gg_icmp_ne_t (tgt := 14) dX9_turnedRoot_2 (by decide) (by omega) (by omega) ?_
  refine gg_iload_n dX9_turnedRoot_14 2 rfl ?_
  refine gg_bipush dX9_turnedRoot_15 (by decide) ?_
  refine gg_icmp_ge_f (tgt := 33) dX9_turnedRoot_17 (by decide) (by omega) (by omega) ?_
  refine gg_aload_n dX9_turnedRoot_20 0 rfl ?_
  refine gg_getR (k' := 22) rfl gf_RX9_61 dX9_turnedRoot_21 sh_0 pl_0 (by decide) (by decide) rr_0_11 ?_
  refine gg_aload_n dX9_turnedRoot_24 1 rfl ?_
  refine gg_iload_n dX9_turnedRoot_25 2 rfl ?_
  refine gg_bipush dX9_turnedRoot_26 (by decide) ?_
  refine gg_isub dX9_turnedRoot_28 ?_
  refine gg_toI (b := nm) (by omega) ?_
  refine gg_callVi (own := RX9) (yt := gm_X7_derived) rfl gl_RX9_308 gk_X7_derived gr_X7_derived dX9_turnedRoot_29 (c_X7_derived (d := d - 1) hF hA hW (nm := nm) hn0 (by omega)) sh_22 pl_22 (by decide) rfl rfl rfl (Nat.le_of_ble_eq_true rfl) (by show _ ≤ d; omega) ⟨Nat.le_refl _, Nat.le_refl _⟩ (fun e1 μ' hc => ?_)
  obtain ⟨I1, J1, D, r, rfl, hD, f1, f2, f3, rfl, hr⟩ := hc
  refine gg_ireti dX9_turnedRoot_32 rfl ⟨rfl, rfl⟩ ?_
  exact ⟨I1, J1, D, r, rfl, hD, f1, f2, f3, rfl, hr⟩

set_option maxRecDepth 10000 in
theorem c_X9_turnedRoot_r {l : Launch} {Γ : gC} {ad : Nat → Nat} {I : Nat → Nat → Int} {J : Nat → Nat → Int64} {d : Nat} {a n : Nat} {K : Nat → Nat} {N : Nat → Int64} {Z : Nat → Nat} (hF : gF a) (hA : gAt I J a n K N Z) (hW : gWf n K N Z) {b n' : Nat} {K' : Nat → Nat} {N' : Nat → Int64} {Z' : Nat → Nat} (hb : b < 12) (hA' : gAt I J (41 + 8 * b) n' K' N' Z') (hW' : gWf n' K' N' Z') {nm : Int} (hnm : 0 ≤ nm ∧ nm < 8) (hn0 : 0 < n) (hn0' : 0 < n') (hd : 8 ≤ d) : gKi l Γ gm_X9_turnedRoot d [.ref (gad (gSS ad) 0), .ref (gad (gSS ad) a), .int (iv (20 + nm)), .int (iv (b : Int))] (gSS ad, I, J) (fun e μ => ∃ I1 J1 D r, μ = (gSS ad, I1, J1) ∧ gDf I1 J1 D ∧ (∀ p, p < 12 ∨ (20 ≤ p ∧ p ≤ 21) ∨ 25 ≤ p → I1 p = I p) ∧ (∀ q, q ≠ 6 → I1 12 q = I 12 q) ∧ (∀ p, p ≠ 14 → J1 p = J p) ∧ e = ((r : Nat) : Int) ∧ D[r]? = some ((gRp n nm (gSt1 K' N' Z' 0) K N Z) 0)) := by
  refine gKi_of gk_X9_turnedRoot.1 (Nat.le_of_ble_eq_true rfl) ?_
  show gG l Γ gm_X9_turnedRoot (d, 0, 0, 0, 0) 0 [(0, .ref (gad (gSS ad) 0)), (1, .ref (gad (gSS ad) a)), (2, .int (iv (20 + nm))), (3, .int (iv (b : Int)))] [] _ _
  refine gg_iload_n dX9_turnedRoot_0 2 rfl ?_
  refine gg_iconst dX9_turnedRoot_1 ?_
  refine gg_icmp_ne_t (tgt := 14) dX9_turnedRoot_2 (by decide) (by omega) (by omega) ?_
  refine gg_iload_n dX9_turnedRoot_14 2 rfl ?_
  refine gg_bipush dX9_turnedRoot_15 (by decide) ?_
  refine gg_icmp_ge_t (tgt := 33) dX9_turnedRoot_17 (by decide) (by omega) (by omega) ?_
  refine gg_aload_n dX9_turnedRoot_33 0 rfl ?_
  refine gg_getR (k' := 22) rfl gf_RX9_61 dX9_turnedRoot_34 sh_0 pl_0 (by decide) (by decide) rr_0_11 ?_
  refine gg_aload_n dX9_turnedRoot_37 1 rfl ?_
  refine gg_iload_n dX9_turnedRoot_38 2 rfl ?_
  refine gg_bipush dX9_turnedRoot_39 (by decide) ?_
  refine gg_isub dX9_turnedRoot_41 ?_
  refine gg_toI (b := nm) (by omega) ?_
  refine gg_aload_n dX9_turnedRoot_42 0 rfl ?_
  refine gg_getR (k' := 1) rfl gf_RX9_11 dX9_turnedRoot_43 sh_0 pl_0 (by decide) (by decide) rr_0_0 ?_
  refine gg_iload_n dX9_turnedRoot_46 3 rfl ?_
  refine gg_aaldj (t := 4) b (k' := (41 + 8 * b)) dX9_turnedRoot_47 sh_1 (by decide) pl_1 (by decide) rfl hb (rr_1 hb) ?_
  refine gg_callVi (own := RX9) (yt := gm_X7_replaced) rfl gl_RX9_311 gk_X7_replaced gr_X7_replaced dX9_turnedRoot_48 (c_X7_replaced (d := d - 1) hF hA hW (gF_fo b hb) hA' hW' hn0 hn0' (by omega)) sh_22 pl_22 (by decide) rfl rfl rfl (Nat.le_of_ble_eq_true rfl) (by show _ ≤ d; omega) ⟨Nat.le_refl _, Nat.le_refl _⟩ (fun e1 μ' hc => ?_)
  obtain ⟨I1, J1, D, r, rfl, hD, f1, f2, f3, rfl, hr⟩ := hc
  refine gg_ireti dX9_turnedRoot_51 rfl ⟨rfl, rfl⟩ ?_
  exact ⟨I1, J1, D, r, rfl, hD, f1, f2, f3, rfl, hr⟩

set_option maxRecDepth 10000 in
theorem c_X9_turn_0 {l : Launch} {Γ : gC} {ad : Nat → Nat} {I : Nat → Nat → Int} {J : Nat → Nat → Int64} {d : Nat} {f n : Nat} {K : Nat → Nat} {N : Nat → Int64} {Z : Nat → Nat} (hf : f < 12) (hA : gAt I J (41 + 8 * f) n K N Z) (hW : gWf n K N Z) {b : Int} (hb : -2147483648 ≤ b ∧ b ≤ 2147483647) (hd : 4 ≤ d) : gKi l Γ gm_X9_turn d [.ref (gad (gSS ad) 0), .int (iv (f : Int)), .int (iv 0), .int (iv b)] (gSS ad, I, J) (fun e μ => ∃ I', μ = (gSS ad, I', J) ∧ (∀ p, p ≠ 41 + 8 * f → I' p = I p) ∧ (∀ q, q ≠ 3 → I' (41 + 8 * f) q = I (41 + 8 * f) q) ∧ gAt I' J (41 + 8 * f) 0 K N Z ∧ e = 0) := by
  refine gKi_of gk_X9_turn.1 (Nat.le_of_ble_eq_true rfl) ?_
  show gG l Γ gm_X9_turn (d, 0, 0, 0, 0) 0 [(0, .ref (gad (gSS ad) 0)), (1, .int (iv (f : Int))), (2, .int (iv 0)), (3, .int (iv b))] [] _ _
  refine gg_iload_n dX9_turn_0 2 rfl ?_
  refine gg_bipush dX9_turn_1 (by decide) ?_
  refine gg_icmp_lt_t (tgt := 10) dX9_turn_3 (by decide) (by decide) (by decide) ?_
  refine gg_iconst dX9_turn_10 ?_
  refine gg_istore (ls' := [(4, .int (iv 0)), (0, .ref (gad (gSS ad) 0)), (1, .int (iv (f : Int))), (2, .int (iv 0)), (3, .int (iv b))]) dX9_turn_11 (by decide) rfl ?_
  refine gg_iload_n dX9_turn_13 2 rfl ?_
  refine gg_callSi (own := RX9) (yt := gm_X9_isFormula) rfl gl_RX9_106 gk_X9_isFormula gr_X9_isFormula dX9_turn_14 (c_X9_isFormula (d := d - 1) (by omega)) rfl rfl (Nat.le_of_ble_eq_true rfl) (by show _ ≤ d; omega) ⟨Nat.le_refl _, Nat.le_refl _⟩ (fun e1 μ' hc => ?_)
  obtain ⟨rfl, ⟨rfl, hb2⟩ | ⟨rfl, hb2⟩⟩ := hc
  rotate_left
  · omega
  refine gg_if_eq_f (tgt := 39) dX9_turn_17 (by decide) (by decide) (by decide) ?_
  refine gg_iload_n dX9_turn_20 3 rfl ?_
  refine gg_callSi (own := RX9) (yt := gm_X9_isTurn) rfl gl_RX9_125 gk_X9_isTurn gr_X9_isTurn dX9_turn_21 (c_X9_isTurn (d := d - 1) (by omega) (by omega)) rfl rfl (Nat.le_of_ble_eq_true rfl) (by show _ ≤ d; omega) ⟨Nat.le_refl _, Nat.le_refl _⟩ (fun e3 μ' hc => ?_)
  obtain ⟨rfl, ⟨rfl, hb4⟩ | ⟨rfl, hb4⟩⟩ := hc
  rotate_left
  · omega
  refine gg_if_eq_f (tgt := 39) dX9_turn_24 (by decide) (by decide) (by decide) ?_
  refine gg_iload dX9_turn_27 0 rfl ?_
  refine gg_if_eq_t (tgt := 42) dX9_turn_29 (by decide) (by decide) (by decide) ?_
  refine gg_aload_n dX9_turn_42 1 rfl ?_
  refine gg_getR (k' := 1) rfl gf_RX9_11 dX9_turn_43 sh_0 pl_0 (by decide) (by decide) rr_0_0 ?_
  refine gg_iload_n dX9_turn_46 2 rfl ?_
  refine gg_aaldj (t := 4) f (k' := (41 + 8 * f)) dX9_turn_47 sh_1 (by decide) pl_1 (by decide) rfl hf (rr_1 hf) ?_
  refine gg_astore (ls' := [(5, .ref (gad (gSS ad) (41 + 8 * f))), (4, .int (iv 0)), (0, .ref (gad (gSS ad) 0)), (1, .int (iv (f : Int))), (2, .int (iv 0)), (3, .int (iv b))]) dX9_turn_48 (by decide) rfl ?_
  refine gg_iload_n dX9_turn_50 4 rfl ?_
  refine gg_if_eq_t (tgt := 64) dX9_turn_51 (by decide) (by decide) (by decide) ?_
  refine gg_iconst dX9_turn_64 ?_
  refine gg_istore (ls' := [(6, .int (iv 0)), (5, .ref (gad (gSS ad) (41 + 8 * f))), (4, .int (iv 0)), (0, .ref (gad (gSS ad) 0)), (1, .int (iv (f : Int))), (2, .int (iv 0)), (3, .int (iv b))]) dX9_turn_65 (by decide) rfl ?_
  refine gg_iload dX9_turn_67 0 rfl ?_
  refine gg_if_eq_t (tgt := 80) dX9_turn_69 (by decide) (by decide) (by decide) ?_
  refine gg_iload dX9_turn_80 2 rfl ?_
  refine gg_if_eq_t (tgt := 100) dX9_turn_82 (by decide) (by decide) (by decide) ?_
  refine gg_iload_n dX9_turn_100 5 rfl ?_
  refine gg_if_ne_f (tgt := 112) dX9_turn_101 (by decide) (by decide) (by decide) ?_
  refine gg_aload dX9_turn_104 1 rfl ?_
  refine gg_callVv (own := RX9) (yt := gm_X1_clear) rfl gl_RX9_132 gk_X1_clear gr_X1_clear dX9_turn_106 (c_X1_clear (d := d - 1) (gF_fo f hf)) (gFsh (gF_fo f hf)) (gFlt (gF_fo f hf)) (by decide) rfl rfl rfl (Nat.le_of_ble_eq_true rfl) (by show _ ≤ d; omega) ⟨Nat.le_refl _, Nat.le_refl _⟩ (fun μ' hc => ?_)
  obtain rfl := hc
  refine gg_goto (tgt := 171) dX9_turn_109 (by decide) ?_
  refine gg_aload dX9_turn_171 1 rfl ?_
  refine gg_callVi (own := RX9) (yt := gm_X1_size) rfl gl_RX9_119 gk_X1_size gr_X1_size dX9_turn_173 (c_X1_size (d := d - 1) (n := 0) (K := K) (N := N) (Z := Z) (gF_fo f hf) ⟨gu_s, fun j hj => absurd hj (Nat.not_lt_zero _)⟩) (gFsh (gF_fo f hf)) (gFlt (gF_fo f hf)) (by decide) rfl rfl rfl (Nat.le_of_ble_eq_true rfl) (by show _ ≤ d; omega) ⟨Nat.le_refl _, Nat.le_refl _⟩ (fun e6 μ' hc => ?_)
  obtain ⟨rfl, rfl⟩ := hc
  refine gg_ireti dX9_turn_176 rfl ⟨rfl, rfl⟩ ?_
  exact ⟨_, rfl, fun p h => gu_other h, fun q h => gu_n (by omega), ⟨gu_s, fun j hj => absurd hj (Nat.not_lt_zero _)⟩, rfl⟩

set_option maxRecDepth 10000 in
theorem c_X9_turn_30 {l : Launch} {Γ : gC} {ad : Nat → Nat} {I : Nat → Nat → Int} {J : Nat → Nat → Int64} {d : Nat} {f n : Nat} {K : Nat → Nat} {N : Nat → Int64} {Z : Nat → Nat} (hf : f < 12) (hA : gAt I J (41 + 8 * f) n K N Z) (hW : gWf n K N Z) {b n' : Nat} {K' : Nat → Nat} {N' : Nat → Int64} {Z' : Nat → Nat} (hb : b < 12) (hA' : gAt I J (41 + 8 * b) n' K' N' Z') (hW' : gWf n' K' N' Z') (hd : 4 ≤ d) : gKi l Γ gm_X9_turn d [.ref (gad (gSS ad) 0), .int (iv (f : Int)), .int (iv 30), .int (iv (b : Int))] (gSS ad, I, J) (fun e μ => ∃ I' J', μ = (gSS ad, I', J') ∧ (∀ p, p < 12 ∨ (20 ≤ p ∧ p ≤ 21) ∨ 25 ≤ p → p ≠ 41 + 8 * f → p ≠ 41 + 8 * f + 1 → p ≠ 41 + 8 * f + 3 → I' p = I p) ∧ (∀ q, q ≠ 3 → I' (41 + 8 * f) q = I (41 + 8 * f) q) ∧ (∀ p, p ≠ 14 → p ≠ 41 + 8 * f + 2 → J' p = J p) ∧ gTres I' J' (41 + 8 * f) n K N Z (n' = 0) ((gSl K' N' 0 n')) e) := by
  refine gKi_of gk_X9_turn.1 (Nat.le_of_ble_eq_true rfl) ?_
  show gG l Γ gm_X9_turn (d, 0, 0, 0, 0) 0 [(0, .ref (gad (gSS ad) 0)), (1, .int (iv (f : Int))), (2, .int (iv 30)), (3, .int (iv (b : Int)))] [] _ _
  refine gg_iload_n dX9_turn_0 2 rfl ?_
  refine gg_bipush dX9_turn_1 (by decide) ?_
  refine gg_icmp_lt_f (tgt := 10) dX9_turn_3 (by decide) (by decide) (by decide) ?_
  refine gg_iconst dX9_turn_6 ?_
  refine gg_goto (tgt := 11) dX9_turn_7 (by decide) ?_
  refine gg_istore (ls' := [(4, .int (iv 1)), (0, .ref (gad (gSS ad) 0)), (1, .int (iv (f : Int))), (2, .int (iv 30)), (3, .int (iv (b : Int)))]) dX9_turn_11 (by decide) rfl ?_
  refine gg_iload_n dX9_turn_13 2 rfl ?_
  refine gg_callSi (own := RX9) (yt := gm_X9_isFormula) rfl gl_RX9_106 gk_X9_isFormula gr_X9_isFormula dX9_turn_14 (c_X9_isFormula (d := d - 1) (by omega)) rfl rfl (Nat.le_of_ble_eq_true rfl) (by show _ ≤ d; omega) ⟨Nat.le_refl _, Nat.le_refl _⟩ (fun e1 μ' hc => ?_)
  obtain ⟨rfl, ⟨rfl, hb2⟩ | ⟨rfl, hb2⟩⟩ := hc
  rotate_left
  · omega
  refine gg_if_eq_f (tgt := 39) dX9_turn_17 (by decide) (by decide) (by decide) ?_
  refine gg_iload_n dX9_turn_20 3 rfl ?_
  refine gg_callSi (own := RX9) (yt := gm_X9_isTurn) rfl gl_RX9_125 gk_X9_isTurn gr_X9_isTurn dX9_turn_21 (c_X9_isTurn (d := d - 1) (by omega) (by omega)) rfl rfl (Nat.le_of_ble_eq_true rfl) (by show _ ≤ d; omega) ⟨Nat.le_refl _, Nat.le_refl _⟩ (fun e3 μ' hc => ?_)
  obtain ⟨rfl, ⟨rfl, hb4⟩ | ⟨rfl, hb4⟩⟩ := hc
  rotate_left
  · omega
  refine gg_if_eq_f (tgt := 39) dX9_turn_24 (by decide) (by decide) (by decide) ?_
  refine gg_iload dX9_turn_27 0 rfl ?_
  refine gg_if_eq_f (tgt := 42) dX9_turn_29 (by decide) (by decide) (by decide) ?_
  refine gg_iload_n dX9_turn_32 4 rfl ?_
  refine gg_callSi (own := RX9) (yt := gm_X9_isFormula) rfl gl_RX9_106 gk_X9_isFormula gr_X9_isFormula dX9_turn_33 (c_X9_isFormula (d := d - 1) (by omega)) rfl rfl (Nat.le_of_ble_eq_true rfl) (by show _ ≤ d; omega) ⟨Nat.le_refl _, Nat.le_refl _⟩ (fun e5 μ' hc => ?_)
  obtain ⟨rfl, ⟨rfl, hb6⟩ | ⟨rfl, hb6⟩⟩ := hc
  rotate_left
  · omega
  refine gg_if_ne_t (tgt := 42) dX9_turn_36 (by decide) (by decide) (by decide) ?_
  refine gg_aload_n dX9_turn_42 1 rfl ?_
  refine gg_getR (k' := 1) rfl gf_RX9_11 dX9_turn_43 sh_0 pl_0 (by decide) (by decide) rr_0_0 ?_
  refine gg_iload_n dX9_turn_46 2 rfl ?_
  refine gg_aaldj (t := 4) f (k' := (41 + 8 * f)) dX9_turn_47 sh_1 (by decide) pl_1 (by decide) rfl hf (rr_1 hf) ?_
  refine gg_astore (ls' := [(5, .ref (gad (gSS ad) (41 + 8 * f))), (4, .int (iv 1)), (0, .ref (gad (gSS ad) 0)), (1, .int (iv (f : Int))), (2, .int (iv 30)), (3, .int (iv (b : Int)))]) dX9_turn_48 (by decide) rfl ?_
  refine gg_iload_n dX9_turn_50 4 rfl ?_
  refine gg_if_eq_f (tgt := 64) dX9_turn_51 (by decide) (by decide) (by decide) ?_
  refine gg_iload_n dX9_turn_54 4 rfl ?_
  refine gg_bipush dX9_turn_55 (by decide) ?_
  refine gg_icmp_eq_t (tgt := 64) dX9_turn_57 (by decide) (by decide) (by decide) ?_
  refine gg_iconst dX9_turn_64 ?_
  refine gg_istore (ls' := [(6, .int (iv 0)), (5, .ref (gad (gSS ad) (41 + 8 * f))), (4, .int (iv 1)), (0, .ref (gad (gSS ad) 0)), (1, .int (iv (f : Int))), (2, .int (iv 30)), (3, .int (iv (b : Int)))]) dX9_turn_65 (by decide) rfl ?_
  refine gg_iload dX9_turn_67 0 rfl ?_
  refine gg_if_eq_t (tgt := 80) dX9_turn_69 (by decide) (by decide) (by decide) ?_
  refine gg_iload dX9_turn_80 2 rfl ?_
  refine gg_if_eq_f (tgt := 100) dX9_turn_82 (by decide) (by decide) (by decide) ?_
  refine gg_aload_n dX9_turn_85 3 rfl ?_
  refine gg_getR (k' := 1) rfl gf_RX9_11 dX9_turn_86 sh_0 pl_0 (by decide) (by decide) rr_0_0 ?_
  refine gg_iload_n dX9_turn_89 6 rfl ?_
  refine gg_aaldj (t := 4) b (k' := (41 + 8 * b)) dX9_turn_90 sh_1 (by decide) pl_1 (by decide) rfl hb (rr_1 hb) ?_
  refine gg_callVi (own := RX9) (yt := gm_X1_isEmpty) rfl gl_RX9_128 gk_X1_isEmpty gr_X1_isEmpty dX9_turn_91 (c_X1_isEmpty (d := d - 1) (gF_fo b hb) hA' hW'.1) (gFsh (gF_fo b hb)) (gFlt (gF_fo b hb)) (by decide) rfl rfl rfl (Nat.le_of_ble_eq_true rfl) (by show _ ≤ d; omega) ⟨Nat.le_refl _, Nat.le_refl _⟩ (fun e7 μ' hc => ?_)
  obtain ⟨rfl, ⟨rfl, hb0⟩ | ⟨rfl, hb0⟩⟩ := hc
  · refine gg_if_eq_f (tgt := 100) dX9_turn_94 (by decide) (by decide) (by decide) ?_
    refine gg_bipush dX9_turn_97 (by decide) ?_
    refine gg_ireti dX9_turn_99 rfl ⟨rfl, rfl⟩ ?_
    exact ⟨I, J, rfl, fun _ _ _ _ _ => rfl, fun _ _ => rfl, fun _ _ _ => rfl, Or.inl ⟨by omega, rfl, hA⟩⟩
  · refine gg_if_eq_t (tgt := 100) dX9_turn_94 (by decide) (by decide) (by decide) ?_
    refine gg_iload_n dX9_turn_100 5 rfl ?_
    refine gg_if_ne_t (tgt := 112) dX9_turn_101 (by decide) (by decide) (by decide) ?_
    refine gg_iload_n dX9_turn_112 5 rfl ?_
    refine gg_bipush dX9_turn_113 (by decide) ?_
    refine gg_icmp_ne_f (tgt := 132) dX9_turn_115 (by decide) (by decide) (by decide) ?_
    refine gg_aload dX9_turn_118 1 rfl ?_
    refine gg_aload_n dX9_turn_120 3 rfl ?_
    refine gg_getR (k' := 1) rfl gf_RX9_11 dX9_turn_121 sh_0 pl_0 (by decide) (by decide) rr_0_0 ?_
    refine gg_iload_n dX9_turn_124 6 rfl ?_
    refine gg_aaldj (t := 4) b (k' := (41 + 8 * b)) dX9_turn_125 sh_1 (by decide) pl_1 (by decide) rfl hb (rr_1 hb) ?_
    refine gg_callVv (own := RX9) (yt := gm_X1_become) rfl gl_RX9_135 gk_X1_become gr_X1_become dX9_turn_126 (c_X1_become (d := d - 1) (gF_fo f hf) (gF_fo b hb) hA' hW'.1 (by omega)) (gFsh (gF_fo f hf)) (gFlt (gF_fo f hf)) (by decide) rfl rfl rfl (Nat.le_of_ble_eq_true rfl) (by show _ ≤ d; omega) ⟨Nat.le_refl _, Nat.le_refl _⟩ (fun μ' hc => ?_)
    obtain ⟨I1, J1, rfl, hA1, hI1, hq1, hJ1⟩ := hc
    refine gg_goto (tgt := 171) dX9_turn_129 (by decide) ?_
    refine gg_aload dX9_turn_171 1 rfl ?_
    refine gg_callVi (own := RX9) (yt := gm_X1_size) rfl gl_RX9_119 gk_X1_size gr_X1_size dX9_turn_173 (c_X1_size (d := d - 1) (gF_fo f hf) hA1) (gFsh (gF_fo f hf)) (gFlt (gF_fo f hf)) (by decide) rfl rfl rfl (Nat.le_of_ble_eq_true rfl) (by show _ ≤ d; omega) ⟨Nat.le_refl _, Nat.le_refl _⟩ (fun e9 μ' hc => ?_)
    obtain ⟨rfl, rfl⟩ := hc
    refine gg_ireti dX9_turn_176 rfl ⟨rfl, rfl⟩ ?_
    refine ⟨I1, J1, rfl, fun p h h1 h2 h3 => funext (fun q => hI1 p q h1 h2 h3), hq1, fun p h h1 => funext (fun q => hJ1 p q h1), Or.inr (Or.inr ⟨by omega, by rw [gSl_len]; exact hW'.1, by rw [gSl_len], gAt_list hW' hA1⟩)⟩

set_option maxRecDepth 10000 in
theorem c_X9_turn_1 {l : Launch} {Γ : gC} {ad : Nat → Nat} {I : Nat → Nat → Int} {J : Nat → Nat → Int64} {d : Nat} {f n : Nat} {K : Nat → Nat} {N : Nat → Int64} {Z : Nat → Nat} (hf : f < 12) (hA : gAt I J (41 + 8 * f) n K N Z) (hW : gWf n K N Z) {b : Int} (hb : -2147483648 ≤ b ∧ b ≤ 2147483647) (hd : 9 ≤ d) : gKi l Γ gm_X9_turn d [.ref (gad (gSS ad) 0), .int (iv (f : Int)), .int (iv 1), .int (iv b)] (gSS ad, I, J) (fun e μ => ∃ I' J', μ = (gSS ad, I', J') ∧ (∀ p, p < 12 ∨ (20 ≤ p ∧ p ≤ 21) ∨ 25 ≤ p → p ≠ 41 + 8 * f → p ≠ 41 + 8 * f + 1 → p ≠ 41 + 8 * f + 3 → I' p = I p) ∧ (∀ q, q ≠ 3 → I' (41 + 8 * f) q = I (41 + 8 * f) q) ∧ (∀ p, p ≠ 14 → p ≠ 41 + 8 * f + 2 → J' p = J p) ∧ gTres I' J' (41 + 8 * f) n K N Z (n = 0) ((gFd n K N Z) 0) e) := by
  refine gKi_of gk_X9_turn.1 (Nat.le_of_ble_eq_true rfl) ?_
  show gG l Γ gm_X9_turn (d, 0, 0, 0, 0) 0 [(0, .ref (gad (gSS ad) 0)), (1, .int (iv (f : Int))), (2, .int (iv 1)), (3, .int (iv b))] [] _ _
  refine gg_iload_n dX9_turn_0 2 rfl ?_
  refine gg_bipush dX9_turn_1 (by decide) ?_
  refine gg_icmp_lt_t (tgt := 10) dX9_turn_3 (by decide) (by decide) (by decide) ?_
  refine gg_iconst dX9_turn_10 ?_
  refine gg_istore (ls' := [(4, .int (iv 0)), (0, .ref (gad (gSS ad) 0)), (1, .int (iv (f : Int))), (2, .int (iv 1)), (3, .int (iv b))]) dX9_turn_11 (by decide) rfl ?_
  refine gg_iload_n dX9_turn_13 2 rfl ?_
  refine gg_callSi (own := RX9) (yt := gm_X9_isFormula) rfl gl_RX9_106 gk_X9_isFormula gr_X9_isFormula dX9_turn_14 (c_X9_isFormula (d := d - 1) (by omega)) rfl rfl (Nat.le_of_ble_eq_true rfl) (by show _ ≤ d; omega) ⟨Nat.le_refl _, Nat.le_refl _⟩ (fun e1 μ' hc => ?_)
  obtain ⟨rfl, ⟨rfl, hb2⟩ | ⟨rfl, hb2⟩⟩ := hc
  rotate_left
  · omega
  refine gg_if_eq_f (tgt := 39) dX9_turn_17 (by decide) (by decide) (by decide) ?_
  refine gg_iload_n dX9_turn_20 3 rfl ?_
  refine gg_callSi (own := RX9) (yt := gm_X9_isTurn) rfl gl_RX9_125 gk_X9_isTurn gr_X9_isTurn dX9_turn_21 (c_X9_isTurn (d := d - 1) (by omega) (by omega)) rfl rfl (Nat.le_of_ble_eq_true rfl) (by show _ ≤ d; omega) ⟨Nat.le_refl _, Nat.le_refl _⟩ (fun e3 μ' hc => ?_)
  obtain ⟨rfl, ⟨rfl, hb4⟩ | ⟨rfl, hb4⟩⟩ := hc
  rotate_left
  · omega
  refine gg_if_eq_f (tgt := 39) dX9_turn_24 (by decide) (by decide) (by decide) ?_
  refine gg_iload dX9_turn_27 0 rfl ?_
  refine gg_if_eq_t (tgt := 42) dX9_turn_29 (by decide) (by decide) (by decide) ?_
  refine gg_aload_n dX9_turn_42 1 rfl ?_
  refine gg_getR (k' := 1) rfl gf_RX9_11 dX9_turn_43 sh_0 pl_0 (by decide) (by decide) rr_0_0 ?_
  refine gg_iload_n dX9_turn_46 2 rfl ?_
  refine gg_aaldj (t := 4) f (k' := (41 + 8 * f)) dX9_turn_47 sh_1 (by decide) pl_1 (by decide) rfl hf (rr_1 hf) ?_
  refine gg_astore (ls' := [(5, .ref (gad (gSS ad) (41 + 8 * f))), (4, .int (iv 0)), (0, .ref (gad (gSS ad) 0)), (1, .int (iv (f : Int))), (2, .int (iv 1)), (3, .int (iv b))]) dX9_turn_48 (by decide) rfl ?_
  refine gg_iload_n dX9_turn_50 4 rfl ?_
  refine gg_if_eq_f (tgt := 64) dX9_turn_51 (by decide) (by decide) (by decide) ?_
  refine gg_iload_n dX9_turn_54 4 rfl ?_
  refine gg_bipush dX9_turn_55 (by decide) ?_
  refine gg_icmp_eq_f (tgt := 64) dX9_turn_57 (by decide) (by decide) (by decide) ?_
  refine gg_iconst dX9_turn_60 ?_
  refine gg_goto (tgt := 65) dX9_turn_61 (by decide) ?_
  refine gg_istore (ls' := [(6, .int (iv 1)), (5, .ref (gad (gSS ad) (41 + 8 * f))), (4, .int (iv 0)), (0, .ref (gad (gSS ad) 0)), (1, .int (iv (f : Int))), (2, .int (iv 1)), (3, .int (iv b))]) dX9_turn_65 (by decide) rfl ?_
  refine gg_iload dX9_turn_67 0 rfl ?_
  refine gg_if_eq_f (tgt := 80) dX9_turn_69 (by decide) (by decide) (by decide) ?_
  refine gg_aload dX9_turn_72 1 rfl ?_
  refine gg_callVi (own := RX9) (yt := gm_X1_isEmpty) rfl gl_RX9_128 gk_X1_isEmpty gr_X1_isEmpty dX9_turn_74 (c_X1_isEmpty (d := d - 1) (gF_fo f hf) hA hW.1) (gFsh (gF_fo f hf)) (gFlt (gF_fo f hf)) (by decide) rfl rfl rfl (Nat.le_of_ble_eq_true rfl) (by show _ ≤ d; omega) ⟨Nat.le_refl _, Nat.le_refl _⟩ (fun e5 μ' hc => ?_)
  obtain ⟨rfl, ⟨rfl, hn0⟩ | ⟨rfl, hn0⟩⟩ := hc
  · refine gg_if_ne_t (tgt := 97) dX9_turn_77 (by decide) (by decide) (by decide) ?_
    refine gg_bipush dX9_turn_97 (by decide) ?_
    refine gg_ireti dX9_turn_99 rfl ⟨rfl, rfl⟩ ?_
    exact ⟨I, J, rfl, fun _ _ _ _ _ => rfl, fun _ _ => rfl, fun _ _ _ => rfl, Or.inl ⟨by omega, rfl, hA⟩⟩
  · refine gg_if_ne_f (tgt := 97) dX9_turn_77 (by decide) (by decide) (by decide) ?_
    refine gg_iload dX9_turn_80 2 rfl ?_
    refine gg_if_eq_t (tgt := 100) dX9_turn_82 (by decide) (by decide) (by decide) ?_
    refine gg_iload_n dX9_turn_100 5 rfl ?_
    refine gg_if_ne_t (tgt := 112) dX9_turn_101 (by decide) (by decide) (by decide) ?_
    refine gg_iload_n dX9_turn_112 5 rfl ?_
    refine gg_bipush dX9_turn_113 (by decide) ?_
    refine gg_icmp_ne_t (tgt := 132) dX9_turn_115 (by decide) (by decide) (by decide) ?_
    refine gg_aload_n dX9_turn_132 3 rfl ?_
    refine gg_aload dX9_turn_133 1 rfl ?_
    refine gg_iload_n dX9_turn_135 5 rfl ?_
    refine gg_iload_n dX9_turn_136 6 rfl ?_
    refine gg_callVi (own := RX9) (yt := gm_X9_turnedRoot) rfl gl_RX9_139 gk_X9_turnedRoot gr_X9_turnedRoot dX9_turn_137 (c_X9_turnedRoot_f (d := d - 1) (gF_fo f hf) hA hW (by omega) (by omega)) sh_0 pl_0 (by decide) rfl rfl rfl (Nat.le_of_ble_eq_true rfl) (by show _ ≤ d; omega) ⟨Nat.le_refl _, Nat.le_refl _⟩ (fun e6 μ' hc => ?_)
    obtain ⟨I1, J1, D, r, rfl, hD, f1, f2, f3, rfl, hr⟩ := hc
    obtain ⟨kk, xx, ra, rb, rc, -, -, e18, -⟩ := hD.2.2 r _ hr
    have hDl := hD.2.1
    refine gg_istore (ls' := [(7, .int (iv ((r : Nat) : Int))), (6, .int (iv 1)), (5, .ref (gad (gSS ad) (41 + 8 * f))), (4, .int (iv 0)), (0, .ref (gad (gSS ad) 0)), (1, .int (iv (f : Int))), (2, .int (iv 1)), (3, .int (iv b))]) dX9_turn_140 (by decide) rfl ?_
    refine gg_aload_n dX9_turn_142 4 rfl ?_
    refine gg_getR (k' := 12) rfl gf_RX9_45 dX9_turn_143 sh_0 pl_0 (by decide) (by decide) rr_0_9 ?_
    refine gg_iload dX9_turn_146 0 rfl ?_
    refine gg_callVi (own := RX9) (yt := gm_X0_nodes) rfl gl_RX9_143 gk_X0_nodes gr_X0_nodes dX9_turn_148 (c_X0_nodes (d := d - 1) (u := D.length) (m := min 1000000 ((gFd n K N Z) 0).length) hD.1 hDl (Or.inr ⟨r, rfl, gget_lt hr, e18⟩)) sh_12 pl_12 (by decide) rfl rfl rfl (Nat.le_of_ble_eq_true rfl) (by show _ ≤ d; omega) ⟨Nat.le_refl _, Nat.le_refl _⟩ (fun e7 μ' hc => ?_)
    obtain ⟨rfl, rfl⟩ := hc
    refine gg_sipush dX9_turn_151 (by decide) ?_
    refine gg_icmp_le (tgt := 160) dX9_turn_154 (by decide) (by omega) (fun hb4 => ?_) (fun hb4 => ?_)
    · refine gg_aload_n dX9_turn_160 4 rfl ?_
      refine gg_getR (k' := 12) rfl gf_RX9_45 dX9_turn_161 sh_0 pl_0 (by decide) (by decide) rr_0_9 ?_
      refine gg_iload dX9_turn_164 0 rfl ?_
      refine gg_aload dX9_turn_166 2 rfl ?_
      refine gg_callVv (own := RX9) (yt := gm_X0_settle) rfl gl_RX9_115 gk_X0_settle gr_X0_settle dX9_turn_168 (c_X0_settle (d := d - 1) (gF_fo f hf) hD hr (by omega) (by omega)) sh_12 pl_12 (by decide) rfl rfl rfl (Nat.le_of_ble_eq_true rfl) (by show _ ≤ d; omega) ⟨Nat.le_refl _, Nat.le_refl _⟩ (fun μ' hc => ?_)
      obtain ⟨I5, J5, rfl, hA5, g1, g2, g3, g4⟩ := hc
      refine gg_aload dX9_turn_171 2 rfl ?_
      refine gg_callVi (own := RX9) (yt := gm_X1_size) rfl gl_RX9_119 gk_X1_size gr_X1_size dX9_turn_173 (c_X1_size (d := d - 1) (gF_fo f hf) hA5) (gFsh (gF_fo f hf)) (gFlt (gF_fo f hf)) (by decide) rfl rfl rfl (Nat.le_of_ble_eq_true rfl) (by show _ ≤ d; omega) ⟨Nat.le_refl _, Nat.le_refl _⟩ (fun e9 μ' hc => ?_)
      obtain ⟨rfl, rfl⟩ := hc
      refine gg_ireti dX9_turn_176 rfl ⟨rfl, rfl⟩ ?_
      exact ⟨I5, J5, rfl, fun p h h1 h2 h3 => (g1 p (by omega) (by omega) h1 h2 h3).trans (f1 p h), fun q h => (g3 q h).trans (by rw [f1 (41 + 8 * f) (by omega)]), fun p h h1 => (g4 p h1).trans (f3 p h), Or.inr (Or.inr ⟨by omega, by omega, rfl, hA5⟩)⟩
    · refine gg_bipush dX9_turn_157 (by decide) ?_
      refine gg_ireti dX9_turn_159 rfl ⟨rfl, rfl⟩ ?_
      exact ⟨I1, J1, rfl, fun p h _ _ _ => f1 p h, fun q _ => by rw [f1 (41 + 8 * f) (by omega)], fun p h _ => f3 p h, Or.inr (Or.inl ⟨by omega, by omega, rfl, gAt_T (gF_fo f hf) hA f1 f3⟩)⟩

set_option maxRecDepth 10000 in
theorem c_X9_turn_d {l : Launch} {Γ : gC} {ad : Nat → Nat} {I : Nat → Nat → Int} {J : Nat → Nat → Int64} {d : Nat} {f n : Nat} {K : Nat → Nat} {N : Nat → Int64} {Z : Nat → Nat} (hf : f < 12) (hA : gAt I J (41 + 8 * f) n K N Z) (hW : gWf n K N Z) {b nm : Int} (hnm : 0 ≤ nm ∧ nm < 8) (hb : -2147483648 ≤ b ∧ b ≤ 2147483647) (hd : 9 ≤ d) : gKi l Γ gm_X9_turn d [.ref (gad (gSS ad) 0), .int (iv (f : Int)), .int (iv (10 + nm)), .int (iv b)] (gSS ad, I, J) (fun e μ => ∃ I' J', μ = (gSS ad, I', J') ∧ (∀ p, p < 12 ∨ (20 ≤ p ∧ p ≤ 21) ∨ 25 ≤ p → p ≠ 41 + 8 * f → p ≠ 41 + 8 * f + 1 → p ≠ 41 + 8 * f + 3 → I' p = I p) ∧ (∀ q, q ≠ 3 → I' (41 + 8 * f) q = I (41 + 8 * f) q) ∧ (∀ p, p ≠ 14 → p ≠ 41 + 8 * f + 2 → J' p = J p) ∧ gTres I' J' (41 + 8 * f) n K N Z (n = 0) ((gDv0 n nm K N Z) 0) e) := by
  refine gKi_of gk_X9_turn.1 (Nat.le_of_ble_eq_true rfl) ?_
  show gG l Γ gm_X9_turn (d, 0, 0, 0, 0) 0 [(0, .ref (gad (gSS ad) 0)), (1, .int (iv (f : Int))), (2, .int (iv (10 + nm))), (3, .int (iv b))] [] _ _
  refine gg_iload_n dX9_turn_0 2 rfl ?_
  refine gg_bipush dX9_turn_1 (by decide) ?_
  refine gg_icmp_lt_t (tgt := 10) dX9_turn_3 (by decide) (by omega) (by omega) ?_
  refine gg_iconst dX9_turn_10 ?_
  refine gg_istore (ls' := [(4, .int (iv 0)), (0, .ref (gad (gSS ad) 0)), (1, .int (iv (f : Int))), (2, .int (iv (10 + nm))), (3, .int (iv b))]) dX9_turn_11 (by decide) rfl ?_
  refine gg_iload_n dX9_turn_13 2 rfl ?_
  refine gg_callSi (own := RX9) (yt := gm_X9_isFormula) rfl gl_RX9_106 gk_X9_isFormula gr_X9_isFormula dX9_turn_14 (c_X9_isFormula (d := d - 1) (by omega)) rfl rfl (Nat.le_of_ble_eq_true rfl) (by show _ ≤ d; omega) ⟨Nat.le_refl _, Nat.le_refl _⟩ (fun e1 μ' hc => ?_)
  obtain ⟨rfl, ⟨rfl, hb2⟩ | ⟨rfl, hb2⟩⟩ := hc
  rotate_left
  · omega
  refine gg_if_eq_f (tgt := 39) dX9_turn_17 (by decide) (by decide) (by decide) ?_
  refine gg_iload_n dX9_turn_20 3 rfl ?_
  refine gg_callSi (own := RX9) (yt := gm_X9_isTurn) rfl gl_RX9_125 gk_X9_isTurn gr_X9_isTurn dX9_turn_21 (c_X9_isTurn (d := d - 1) (by omega) (by omega)) rfl rfl (Nat.le_of_ble_eq_true rfl) (by show _ ≤ d; omega) ⟨Nat.le_refl _, Nat.le_refl _⟩ (fun e3 μ' hc => ?_)
  obtain ⟨rfl, ⟨rfl, hb4⟩ | ⟨rfl, hb4⟩⟩ := hc
  rotate_left
  · omega
  refine gg_if_eq_f (tgt := 39) dX9_turn_24 (by decide) (by decide) (by decide) ?_
  refine gg_iload dX9_turn_27 0 rfl ?_
  refine gg_if_eq_t (tgt := 42) dX9_turn_29 (by decide) (by decide) (by decide) ?_
  refine gg_aload_n dX9_turn_42 1 rfl ?_
  refine gg_getR (k' := 1) rfl gf_RX9_11 dX9_turn_43 sh_0 pl_0 (by decide) (by decide) rr_0_0 ?_
  refine gg_iload_n dX9_turn_46 2 rfl ?_
  refine gg_aaldj (t := 4) f (k' := (41 + 8 * f)) dX9_turn_47 sh_1 (by decide) pl_1 (by decide) rfl hf (rr_1 hf) ?_
  refine gg_astore (ls' := [(5, .ref (gad (gSS ad) (41 + 8 * f))), (4, .int (iv 0)), (0, .ref (gad (gSS ad) 0)), (1, .int (iv (f : Int))), (2, .int (iv (10 + nm))), (3, .int (iv b))]) dX9_turn_48 (by decide) rfl ?_
  refine gg_iload_n dX9_turn_50 4 rfl ?_
  refine gg_if_eq_f (tgt := 64) dX9_turn_51 (by decide) (by omega) (by omega) ?_
  refine gg_iload_n dX9_turn_54 4 rfl ?_
  refine gg_bipush dX9_turn_55 (by decide) ?_
  refine gg_icmp_eq_f (tgt := 64) dX9_turn_57 (by decide) (by omega) (by omega) ?_
  refine gg_iconst dX9_turn_60 ?_
  refine gg_goto (tgt := 65) dX9_turn_61 (by decide) ?_
  refine gg_istore (ls' := [(6, .int (iv 1)), (5, .ref (gad (gSS ad) (41 + 8 * f))), (4, .int (iv 0)), (0, .ref (gad (gSS ad) 0)), (1, .int (iv (f : Int))), (2, .int (iv (10 + nm))), (3, .int (iv b))]) dX9_turn_65 (by decide) rfl ?_
  refine gg_iload dX9_turn_67 0 rfl ?_
  refine gg_if_eq_f (tgt := 80) dX9_turn_69 (by decide) (by decide) (by decide) ?_
  refine gg_aload dX9_turn_72 1 rfl ?_
  refine gg_callVi (own := RX9) (yt := gm_X1_isEmpty) rfl gl_RX9_128 gk_X1_isEmpty gr_X1_isEmpty dX9_turn_74 (c_X1_isEmpty (d := d - 1) (gF_fo f hf) hA hW.1) (gFsh (gF_fo f hf)) (gFlt (gF_fo f hf)) (by decide) rfl rfl rfl (Nat.le_of_ble_eq_true rfl) (by show _ ≤ d; omega) ⟨Nat.le_refl _, Nat.le_refl _⟩ (fun e5 μ' hc => ?_)
  obtain ⟨rfl, ⟨rfl, hn0⟩ | ⟨rfl, hn0⟩⟩ := hc
  · refine gg_if_ne_t (tgt := 97) dX9_turn_77 (by decide) (by decide) (by decide) ?_
    refine gg_bipush dX9_turn_97 (by decide) ?_
    refine gg_ireti dX9_turn_99 rfl ⟨rfl, rfl⟩ ?_
    exact ⟨I, J, rfl, fun _ _ _ _ _ => rfl, fun _ _ => rfl, fun _ _ _ => rfl, Or.inl ⟨by omega, rfl, hA⟩⟩
  · refine gg_if_ne_f (tgt := 97) dX9_turn_77 (by decide) (by decide) (by decide) ?_
    refine gg_iload dX9_turn_80 2 rfl ?_
    refine gg_if_eq_t (tgt := 100) dX9_turn_82 (by decide) (by decide) (by decide) ?_
    refine gg_iload_n dX9_turn_100 5 rfl ?_
    refine gg_if_ne_t (tgt := 112) dX9_turn_101 (by decide) (by omega) (by omega) ?_
    refine gg_iload_n dX9_turn_112 5 rfl ?_
    refine gg_bipush dX9_turn_113 (by decide) ?_
    refine gg_icmp_ne_t (tgt := 132) dX9_turn_115 (by decide) (by omega) (by omega) ?_
    refine gg_aload_n dX9_turn_132 3 rfl ?_
    refine gg_aload dX9_turn_133 1 rfl ?_
    refine gg_iload_n dX9_turn_135 5 rfl ?_
    refine gg_iload_n dX9_turn_136 6 rfl ?_
    refine gg_callVi (own := RX9) (yt := gm_X9_turnedRoot) rfl gl_RX9_139 gk_X9_turnedRoot gr_X9_turnedRoot dX9_turn_137 (c_X9_turnedRoot_d (d := d - 1) (gF_fo f hf) hA hW hnm (by omega) (by omega)) sh_0 pl_0 (by decide) rfl rfl rfl (Nat.le_of_ble_eq_true rfl) (by show _ ≤ d; omega) ⟨Nat.le_refl _, Nat.le_refl _⟩ (fun e6 μ' hc => ?_)
    obtain ⟨I1, J1, D, r, rfl, hD, f1, f2, f3, rfl, hr⟩ := hc
    obtain ⟨kk, xx, ra, rb, rc, -, -, e18, -⟩ := hD.2.2 r _ hr
    have hDl := hD.2.1
    refine gg_istore (ls' := [(7, .int (iv ((r : Nat) : Int))), (6, .int (iv 1)), (5, .ref (gad (gSS ad) (41 + 8 * f))), (4, .int (iv 0)), (0, .ref (gad (gSS ad) 0)), (1, .int (iv (f : Int))), (2, .int (iv (10 + nm))), (3, .int (iv b))]) dX9_turn_140 (by decide) rfl ?_
    refine gg_aload_n dX9_turn_142 4 rfl ?_
    refine gg_getR (k' := 12) rfl gf_RX9_45 dX9_turn_143 sh_0 pl_0 (by decide) (by decide) rr_0_9 ?_
    refine gg_iload dX9_turn_146 0 rfl ?_
    refine gg_callVi (own := RX9) (yt := gm_X0_nodes) rfl gl_RX9_143 gk_X0_nodes gr_X0_nodes dX9_turn_148 (c_X0_nodes (d := d - 1) (u := D.length) (m := min 1000000 ((gDv0 n nm K N Z) 0).length) hD.1 hDl (Or.inr ⟨r, rfl, gget_lt hr, e18⟩)) sh_12 pl_12 (by decide) rfl rfl rfl (Nat.le_of_ble_eq_true rfl) (by show _ ≤ d; omega) ⟨Nat.le_refl _, Nat.le_refl _⟩ (fun e7 μ' hc => ?_)
    obtain ⟨rfl, rfl⟩ := hc
    refine gg_sipush dX9_turn_151 (by decide) ?_
    refine gg_icmp_le (tgt := 160) dX9_turn_154 (by decide) (by omega) (fun hb4 => ?_) (fun hb4 => ?_)
    · refine gg_aload_n dX9_turn_160 4 rfl ?_
      refine gg_getR (k' := 12) rfl gf_RX9_45 dX9_turn_161 sh_0 pl_0 (by decide) (by decide) rr_0_9 ?_
      refine gg_iload dX9_turn_164 0 rfl ?_
      refine gg_aload dX9_turn_166 2 rfl ?_
      refine gg_callVv (own := RX9) (yt := gm_X0_settle) rfl gl_RX9_115 gk_X0_settle gr_X0_settle dX9_turn_168 (c_X0_settle (d := d - 1) (gF_fo f hf) hD hr (by omega) (by omega)) sh_12 pl_12 (by decide) rfl rfl rfl (Nat.le_of_ble_eq_true rfl) (by show _ ≤ d; omega) ⟨Nat.le_refl _, Nat.le_refl _⟩ (fun μ' hc => ?_)
      obtain ⟨I5, J5, rfl, hA5, g1, g2, g3, g4⟩ := hc
      refine gg_aload dX9_turn_171 2 rfl ?_
      refine gg_callVi (own := RX9) (yt := gm_X1_size) rfl gl_RX9_119 gk_X1_size gr_X1_size dX9_turn_173 (c_X1_size (d := d - 1) (gF_fo f hf) hA5) (gFsh (gF_fo f hf)) (gFlt (gF_fo f hf)) (by decide) rfl rfl rfl (Nat.le_of_ble_eq_true rfl) (by show _ ≤ d; omega) ⟨Nat.le_refl _, Nat.le_refl _⟩ (fun e9 μ' hc => ?_)
      obtain ⟨rfl, rfl⟩ := hc
      refine gg_ireti dX9_turn_176 rfl ⟨rfl, rfl⟩ ?_
      exact ⟨I5, J5, rfl, fun p h h1 h2 h3 => (g1 p (by omega) (by omega) h1 h2 h3).trans (f1 p h), fun q h => (g3 q h).trans (by rw [f1 (41 + 8 * f) (by omega)]), fun p h h1 => (g4 p h1).trans (f3 p h), Or.inr (Or.inr ⟨by omega, by omega, rfl, hA5⟩)⟩
    · refine gg_bipush dX9_turn_157 (by decide) ?_
      refine gg_ireti dX9_turn_159 rfl ⟨rfl, rfl⟩ ?_
      exact ⟨I1, J1, rfl, fun p h _ _ _ => f1 p h, fun q _ => by rw [f1 (41 + 8 * f) (by omega)], fun p h _ => f3 p h, Or.inr (Or.inl ⟨by omega, by omega, rfl, gAt_T (gF_fo f hf) hA f1 f3⟩)⟩

set_option maxRecDepth 10000 in
theorem c_X9_turn_r {l : Launch} {Γ : gC} {ad : Nat → Nat} {I : Nat → Nat → Int} {J : Nat → Nat → Int64} {d : Nat} {f n : Nat} {K : Nat → Nat} {N : Nat → Int64} {Z : Nat → Nat} (hf : f < 12) (hA : gAt I J (41 + 8 * f) n K N Z) (hW : gWf n K N Z) {b n' : Nat} {K' : Nat → Nat} {N' : Nat → Int64} {Z' : Nat → Nat} (hb : b < 12) (hA' : gAt I J (41 + 8 * b) n' K' N' Z') (hW' : gWf n' K' N' Z') {nm : Int} (hnm : 0 ≤ nm ∧ nm < 8) (hd : 9 ≤ d) : gKi l Γ gm_X9_turn d [.ref (gad (gSS ad) 0), .int (iv (f : Int)), .int (iv (20 + nm)), .int (iv (b : Int))] (gSS ad, I, J) (fun e μ => ∃ I' J', μ = (gSS ad, I', J') ∧ (∀ p, p < 12 ∨ (20 ≤ p ∧ p ≤ 21) ∨ 25 ≤ p → p ≠ 41 + 8 * f → p ≠ 41 + 8 * f + 1 → p ≠ 41 + 8 * f + 3 → I' p = I p) ∧ (∀ q, q ≠ 3 → I' (41 + 8 * f) q = I (41 + 8 * f) q) ∧ (∀ p, p ≠ 14 → p ≠ 41 + 8 * f + 2 → J' p = J p) ∧ gTres I' J' (41 + 8 * f) n K N Z (n = 0 ∨ n' = 0) ((gRp n nm (gSt1 K' N' Z' 0) K N Z) 0) e) := by
  refine gKi_of gk_X9_turn.1 (Nat.le_of_ble_eq_true rfl) ?_
  show gG l Γ gm_X9_turn (d, 0, 0, 0, 0) 0 [(0, .ref (gad (gSS ad) 0)), (1, .int (iv (f : Int))), (2, .int (iv (20 + nm))), (3, .int (iv (b : Int)))] [] _ _
  refine gg_iload_n dX9_turn_0 2 rfl ?_
  refine gg_bipush dX9_turn_1 (by decide) ?_
  refine gg_icmp_lt_f (tgt := 10) dX9_turn_3 (by decide) (by omega) (by omega) ?_
  refine gg_iconst dX9_turn_6 ?_
  refine gg_goto (tgt := 11) dX9_turn_7 (by decide) ?_
  refine gg_istore (ls' := [(4, .int (iv 1)), (0, .ref (gad (gSS ad) 0)), (1, .int (iv (f : Int))), (2, .int (iv (20 + nm))), (3, .int (iv (b : Int)))]) dX9_turn_11 (by decide) rfl ?_
  refine gg_iload_n dX9_turn_13 2 rfl ?_
  refine gg_callSi (own := RX9) (yt := gm_X9_isFormula) rfl gl_RX9_106 gk_X9_isFormula gr_X9_isFormula dX9_turn_14 (c_X9_isFormula (d := d - 1) (by omega)) rfl rfl (Nat.le_of_ble_eq_true rfl) (by show _ ≤ d; omega) ⟨Nat.le_refl _, Nat.le_refl _⟩ (fun e1 μ' hc => ?_)
  obtain ⟨rfl, ⟨rfl, hb2⟩ | ⟨rfl, hb2⟩⟩ := hc
  rotate_left
  · omega
  refine gg_if_eq_f (tgt := 39) dX9_turn_17 (by decide) (by decide) (by decide) ?_
  refine gg_iload_n dX9_turn_20 3 rfl ?_
  refine gg_callSi (own := RX9) (yt := gm_X9_isTurn) rfl gl_RX9_125 gk_X9_isTurn gr_X9_isTurn dX9_turn_21 (c_X9_isTurn (d := d - 1) (by omega) (by omega)) rfl rfl (Nat.le_of_ble_eq_true rfl) (by show _ ≤ d; omega) ⟨Nat.le_refl _, Nat.le_refl _⟩ (fun e3 μ' hc => ?_)
  obtain ⟨rfl, ⟨rfl, hb4⟩ | ⟨rfl, hb4⟩⟩ := hc
  rotate_left
  · omega
  refine gg_if_eq_f (tgt := 39) dX9_turn_24 (by decide) (by decide) (by decide) ?_
  refine gg_iload dX9_turn_27 0 rfl ?_
  refine gg_if_eq_f (tgt := 42) dX9_turn_29 (by decide) (by decide) (by decide) ?_
  refine gg_iload_n dX9_turn_32 4 rfl ?_
  refine gg_callSi (own := RX9) (yt := gm_X9_isFormula) rfl gl_RX9_106 gk_X9_isFormula gr_X9_isFormula dX9_turn_33 (c_X9_isFormula (d := d - 1) (by omega)) rfl rfl (Nat.le_of_ble_eq_true rfl) (by show _ ≤ d; omega) ⟨Nat.le_refl _, Nat.le_refl _⟩ (fun e5 μ' hc => ?_)
  obtain ⟨rfl, ⟨rfl, hb6⟩ | ⟨rfl, hb6⟩⟩ := hc
  rotate_left
  · omega
  refine gg_if_ne_t (tgt := 42) dX9_turn_36 (by decide) (by decide) (by decide) ?_
  refine gg_aload_n dX9_turn_42 1 rfl ?_
  refine gg_getR (k' := 1) rfl gf_RX9_11 dX9_turn_43 sh_0 pl_0 (by decide) (by decide) rr_0_0 ?_
  refine gg_iload_n dX9_turn_46 2 rfl ?_
  refine gg_aaldj (t := 4) f (k' := (41 + 8 * f)) dX9_turn_47 sh_1 (by decide) pl_1 (by decide) rfl hf (rr_1 hf) ?_
  refine gg_astore (ls' := [(5, .ref (gad (gSS ad) (41 + 8 * f))), (4, .int (iv 1)), (0, .ref (gad (gSS ad) 0)), (1, .int (iv (f : Int))), (2, .int (iv (20 + nm))), (3, .int (iv (b : Int)))]) dX9_turn_48 (by decide) rfl ?_
  refine gg_iload_n dX9_turn_50 4 rfl ?_
  refine gg_if_eq_f (tgt := 64) dX9_turn_51 (by decide) (by omega) (by omega) ?_
  refine gg_iload_n dX9_turn_54 4 rfl ?_
  refine gg_bipush dX9_turn_55 (by decide) ?_
  refine gg_icmp_eq_f (tgt := 64) dX9_turn_57 (by decide) (by omega) (by omega) ?_
  refine gg_iconst dX9_turn_60 ?_
  refine gg_goto (tgt := 65) dX9_turn_61 (by decide) ?_
  refine gg_istore (ls' := [(6, .int (iv 1)), (5, .ref (gad (gSS ad) (41 + 8 * f))), (4, .int (iv 1)), (0, .ref (gad (gSS ad) 0)), (1, .int (iv (f : Int))), (2, .int (iv (20 + nm))), (3, .int (iv (b : Int)))]) dX9_turn_65 (by decide) rfl ?_
  refine gg_iload dX9_turn_67 0 rfl ?_
  refine gg_if_eq_f (tgt := 80) dX9_turn_69 (by decide) (by decide) (by decide) ?_
  refine gg_aload dX9_turn_72 1 rfl ?_
  refine gg_callVi (own := RX9) (yt := gm_X1_isEmpty) rfl gl_RX9_128 gk_X1_isEmpty gr_X1_isEmpty dX9_turn_74 (c_X1_isEmpty (d := d - 1) (gF_fo f hf) hA hW.1) (gFsh (gF_fo f hf)) (gFlt (gF_fo f hf)) (by decide) rfl rfl rfl (Nat.le_of_ble_eq_true rfl) (by show _ ≤ d; omega) ⟨Nat.le_refl _, Nat.le_refl _⟩ (fun e7 μ' hc => ?_)
  obtain ⟨rfl, ⟨rfl, hn0⟩ | ⟨rfl, hn0⟩⟩ := hc
  · refine gg_if_ne_t (tgt := 97) dX9_turn_77 (by decide) (by decide) (by decide) ?_
    refine gg_bipush dX9_turn_97 (by decide) ?_
    refine gg_ireti dX9_turn_99 rfl ⟨rfl, rfl⟩ ?_
    exact ⟨I, J, rfl, fun _ _ _ _ _ => rfl, fun _ _ => rfl, fun _ _ _ => rfl, Or.inl ⟨by omega, rfl, hA⟩⟩
  · refine gg_if_ne_f (tgt := 97) dX9_turn_77 (by decide) (by decide) (by decide) ?_
    refine gg_iload dX9_turn_80 2 rfl ?_
    refine gg_if_eq_f (tgt := 100) dX9_turn_82 (by decide) (by decide) (by decide) ?_
    refine gg_aload_n dX9_turn_85 3 rfl ?_
    refine gg_getR (k' := 1) rfl gf_RX9_11 dX9_turn_86 sh_0 pl_0 (by decide) (by decide) rr_0_0 ?_
    refine gg_iload_n dX9_turn_89 6 rfl ?_
    refine gg_aaldj (t := 4) b (k' := (41 + 8 * b)) dX9_turn_90 sh_1 (by decide) pl_1 (by decide) rfl hb (rr_1 hb) ?_
    refine gg_callVi (own := RX9) (yt := gm_X1_isEmpty) rfl gl_RX9_128 gk_X1_isEmpty gr_X1_isEmpty dX9_turn_91 (c_X1_isEmpty (d := d - 1) (gF_fo b hb) hA' hW'.1) (gFsh (gF_fo b hb)) (gFlt (gF_fo b hb)) (by decide) rfl rfl rfl (Nat.le_of_ble_eq_true rfl) (by show _ ≤ d; omega) ⟨Nat.le_refl _, Nat.le_refl _⟩ (fun e8 μ' hc => ?_)
    obtain ⟨rfl, ⟨rfl, hb0⟩ | ⟨rfl, hb0⟩⟩ := hc
    · refine gg_if_eq_f (tgt := 100) dX9_turn_94 (by decide) (by decide) (by decide) ?_
      refine gg_bipush dX9_turn_97 (by decide) ?_
      refine gg_ireti dX9_turn_99 rfl ⟨rfl, rfl⟩ ?_
      exact ⟨I, J, rfl, fun _ _ _ _ _ => rfl, fun _ _ => rfl, fun _ _ _ => rfl, Or.inl ⟨by omega, rfl, hA⟩⟩
    · refine gg_if_eq_t (tgt := 100) dX9_turn_94 (by decide) (by decide) (by decide) ?_
      refine gg_iload_n dX9_turn_100 5 rfl ?_
      refine gg_if_ne_t (tgt := 112) dX9_turn_101 (by decide) (by omega) (by omega) ?_
      refine gg_iload_n dX9_turn_112 5 rfl ?_
      refine gg_bipush dX9_turn_113 (by decide) ?_
      refine gg_icmp_ne_t (tgt := 132) dX9_turn_115 (by decide) (by omega) (by omega) ?_
      refine gg_aload_n dX9_turn_132 3 rfl ?_
      refine gg_aload dX9_turn_133 1 rfl ?_
      refine gg_iload_n dX9_turn_135 5 rfl ?_
      refine gg_iload_n dX9_turn_136 6 rfl ?_
      refine gg_callVi (own := RX9) (yt := gm_X9_turnedRoot) rfl gl_RX9_139 gk_X9_turnedRoot gr_X9_turnedRoot dX9_turn_137 (c_X9_turnedRoot_r (d := d - 1) (gF_fo f hf) hA hW hb hA' hW' hnm (by omega) (by omega) (by omega)) sh_0 pl_0 (by decide) rfl rfl rfl (Nat.le_of_ble_eq_true rfl) (by show _ ≤ d; omega) ⟨Nat.le_refl _, Nat.le_refl _⟩ (fun e9 μ' hc => ?_)
      obtain ⟨I1, J1, D, r, rfl, hD, f1, f2, f3, rfl, hr⟩ := hc
      obtain ⟨kk, xx, ra, rb, rc, -, -, e18, -⟩ := hD.2.2 r _ hr
      have hDl := hD.2.1
      refine gg_istore (ls' := [(7, .int (iv ((r : Nat) : Int))), (6, .int (iv 1)), (5, .ref (gad (gSS ad) (41 + 8 * f))), (4, .int (iv 1)), (0, .ref (gad (gSS ad) 0)), (1, .int (iv (f : Int))), (2, .int (iv (20 + nm))), (3, .int (iv (b : Int)))]) dX9_turn_140 (by decide) rfl ?_
      refine gg_aload_n dX9_turn_142 4 rfl ?_
      refine gg_getR (k' := 12) rfl gf_RX9_45 dX9_turn_143 sh_0 pl_0 (by decide) (by decide) rr_0_9 ?_
      refine gg_iload dX9_turn_146 0 rfl ?_
      refine gg_callVi (own := RX9) (yt := gm_X0_nodes) rfl gl_RX9_143 gk_X0_nodes gr_X0_nodes dX9_turn_148 (c_X0_nodes (d := d - 1) (u := D.length) (m := min 1000000 ((gRp n nm (gSt1 K' N' Z' 0) K N Z) 0).length) hD.1 hDl (Or.inr ⟨r, rfl, gget_lt hr, e18⟩)) sh_12 pl_12 (by decide) rfl rfl rfl (Nat.le_of_ble_eq_true rfl) (by show _ ≤ d; omega) ⟨Nat.le_refl _, Nat.le_refl _⟩ (fun e10 μ' hc => ?_)
      obtain ⟨rfl, rfl⟩ := hc
      refine gg_sipush dX9_turn_151 (by decide) ?_
      refine gg_icmp_le (tgt := 160) dX9_turn_154 (by decide) (by omega) (fun hb4 => ?_) (fun hb4 => ?_)
      · refine gg_aload_n dX9_turn_160 4 rfl ?_
        refine gg_getR (k' := 12) rfl gf_RX9_45 dX9_turn_161 sh_0 pl_0 (by decide) (by decide) rr_0_9 ?_
        refine gg_iload dX9_turn_164 0 rfl ?_
        refine gg_aload dX9_turn_166 2 rfl ?_
        refine gg_callVv (own := RX9) (yt := gm_X0_settle) rfl gl_RX9_115 gk_X0_settle gr_X0_settle dX9_turn_168 (c_X0_settle (d := d - 1) (gF_fo f hf) hD hr (by omega) (by omega)) sh_12 pl_12 (by decide) rfl rfl rfl (Nat.le_of_ble_eq_true rfl) (by show _ ≤ d; omega) ⟨Nat.le_refl _, Nat.le_refl _⟩ (fun μ' hc => ?_)
        obtain ⟨I5, J5, rfl, hA5, g1, g2, g3, g4⟩ := hc
        refine gg_aload dX9_turn_171 2 rfl ?_
        refine gg_callVi (own := RX9) (yt := gm_X1_size) rfl gl_RX9_119 gk_X1_size gr_X1_size dX9_turn_173 (c_X1_size (d := d - 1) (gF_fo f hf) hA5) (gFsh (gF_fo f hf)) (gFlt (gF_fo f hf)) (by decide) rfl rfl rfl (Nat.le_of_ble_eq_true rfl) (by show _ ≤ d; omega) ⟨Nat.le_refl _, Nat.le_refl _⟩ (fun e12 μ' hc => ?_)
        obtain ⟨rfl, rfl⟩ := hc
        refine gg_ireti dX9_turn_176 rfl ⟨rfl, rfl⟩ ?_
        exact ⟨I5, J5, rfl, fun p h h1 h2 h3 => (g1 p (by omega) (by omega) h1 h2 h3).trans (f1 p h), fun q h => (g3 q h).trans (by rw [f1 (41 + 8 * f) (by omega)]), fun p h h1 => (g4 p h1).trans (f3 p h), Or.inr (Or.inr ⟨by omega, by omega, rfl, hA5⟩)⟩
      · refine gg_bipush dX9_turn_157 (by decide) ?_
        refine gg_ireti dX9_turn_159 rfl ⟨rfl, rfl⟩ ?_
        exact ⟨I1, J1, rfl, fun p h _ _ _ => f1 p h, fun q _ => by rw [f1 (41 + 8 * f) (by omega)], fun p h _ => f3 p h, Or.inr (Or.inl ⟨by omega, by omega, rfl, gAt_T (gF_fo f hf) hA f1 f3⟩)⟩

set_option maxRecDepth 10000 in
theorem c_X9_turn_out {l : Launch} {Γ : gC} {ad : Nat → Nat} {I : Nat → Nat → Int} {J : Nat → Nat → Int64} {d : Nat} {i w b : Int} (hi : -2147483648 ≤ i ∧ i ≤ 2147483647) (hw : -2147483648 ≤ w ∧ w ≤ 2147483647) (hb : -2147483648 ≤ b ∧ b ≤ 2147483647) (ho : ¬ ((0 ≤ i ∧ i ≤ 11) ∧ (w = 0 ∨ w = 1 ∨ w = 30 ∨ (10 ≤ w ∧ w ≤ 17) ∨ (20 ≤ w ∧ w ≤ 27)) ∧ (20 ≤ w → 0 ≤ b ∧ b ≤ 11))) (hd : 3 ≤ d) : gKi l Γ gm_X9_turn d [.ref (gad (gSS ad) 0), .int (iv i), .int (iv w), .int (iv b)] (gSS ad, I, J) (fun e μ => μ = (gSS ad, I, J) ∧ e = -2) := by
  refine gKi_of gk_X9_turn.1 (Nat.le_of_ble_eq_true rfl) ?_
  show gG l Γ gm_X9_turn (d, 0, 0, 0, 0) 0 [(0, .ref (gad (gSS ad) 0)), (1, .int (iv i)), (2, .int (iv w)), (3, .int (iv b))] [] _ _
  refine gg_iload_n dX9_turn_0 2 rfl ?_
  refine gg_bipush dX9_turn_1 (by decide) ?_
  refine gg_icmp_lt (tgt := 10) dX9_turn_3 (by decide) (by omega) (fun hb1 => ?_) (fun hb1 => ?_)
  · refine gg_iconst dX9_turn_10 ?_
    refine gg_istore (ls' := [(4, .int (iv 0)), (0, .ref (gad (gSS ad) 0)), (1, .int (iv i)), (2, .int (iv w)), (3, .int (iv b))]) dX9_turn_11 (by decide) rfl ?_
    refine gg_iload_n dX9_turn_13 2 rfl ?_
    refine gg_callSi (own := RX9) (yt := gm_X9_isFormula) rfl gl_RX9_106 gk_X9_isFormula gr_X9_isFormula dX9_turn_14 (c_X9_isFormula (d := d - 1) (by omega)) rfl rfl (Nat.le_of_ble_eq_true rfl) (by show _ ≤ d; omega) ⟨Nat.le_refl _, Nat.le_refl _⟩ (fun e2 μ' hc => ?_)
    obtain ⟨rfl, ⟨rfl, hb3⟩ | ⟨rfl, hb3⟩⟩ := hc
    · refine gg_if_eq_f (tgt := 39) dX9_turn_17 (by decide) (by decide) (by decide) ?_
      refine gg_iload_n dX9_turn_20 3 rfl ?_
      refine gg_callSi (own := RX9) (yt := gm_X9_isTurn) rfl gl_RX9_125 gk_X9_isTurn gr_X9_isTurn dX9_turn_21 (c_X9_isTurn (d := d - 1) (by omega) (by omega)) rfl rfl (Nat.le_of_ble_eq_true rfl) (by show _ ≤ d; omega) ⟨Nat.le_refl _, Nat.le_refl _⟩ (fun e4 μ' hc => ?_)
      obtain ⟨rfl, ⟨rfl, hb5⟩ | ⟨rfl, hb5⟩⟩ := hc
      · refine gg_if_eq_f (tgt := 39) dX9_turn_24 (by decide) (by decide) (by decide) ?_
        refine gg_iload dX9_turn_27 0 rfl ?_
        refine gg_if_eq_t (tgt := 42) dX9_turn_29 (by decide) (by decide) (by decide) ?_
        exfalso
        omega
      · refine gg_if_eq_t (tgt := 39) dX9_turn_24 (by decide) (by decide) (by decide) ?_
        refine gg_bipush dX9_turn_39 (by decide) ?_
        refine gg_ireti dX9_turn_41 rfl ⟨rfl, rfl⟩ ?_
        exact ⟨rfl, rfl⟩
    · refine gg_if_eq_t (tgt := 39) dX9_turn_17 (by decide) (by decide) (by decide) ?_
      refine gg_bipush dX9_turn_39 (by decide) ?_
      refine gg_ireti dX9_turn_41 rfl ⟨rfl, rfl⟩ ?_
      exact ⟨rfl, rfl⟩
  · refine gg_iconst dX9_turn_6 ?_
    refine gg_goto (tgt := 11) dX9_turn_7 (by decide) ?_
    refine gg_istore (ls' := [(4, .int (iv 1)), (0, .ref (gad (gSS ad) 0)), (1, .int (iv i)), (2, .int (iv w)), (3, .int (iv b))]) dX9_turn_11 (by decide) rfl ?_
    refine gg_iload_n dX9_turn_13 2 rfl ?_
    refine gg_callSi (own := RX9) (yt := gm_X9_isFormula) rfl gl_RX9_106 gk_X9_isFormula gr_X9_isFormula dX9_turn_14 (c_X9_isFormula (d := d - 1) (by omega)) rfl rfl (Nat.le_of_ble_eq_true rfl) (by show _ ≤ d; omega) ⟨Nat.le_refl _, Nat.le_refl _⟩ (fun e6 μ' hc => ?_)
    obtain ⟨rfl, ⟨rfl, hb7⟩ | ⟨rfl, hb7⟩⟩ := hc
    · refine gg_if_eq_f (tgt := 39) dX9_turn_17 (by decide) (by decide) (by decide) ?_
      refine gg_iload_n dX9_turn_20 3 rfl ?_
      refine gg_callSi (own := RX9) (yt := gm_X9_isTurn) rfl gl_RX9_125 gk_X9_isTurn gr_X9_isTurn dX9_turn_21 (c_X9_isTurn (d := d - 1) (by omega) (by omega)) rfl rfl (Nat.le_of_ble_eq_true rfl) (by show _ ≤ d; omega) ⟨Nat.le_refl _, Nat.le_refl _⟩ (fun e8 μ' hc => ?_)
      obtain ⟨rfl, ⟨rfl, hb9⟩ | ⟨rfl, hb9⟩⟩ := hc
      · refine gg_if_eq_f (tgt := 39) dX9_turn_24 (by decide) (by decide) (by decide) ?_
        refine gg_iload dX9_turn_27 0 rfl ?_
        refine gg_if_eq_f (tgt := 42) dX9_turn_29 (by decide) (by decide) (by decide) ?_
        refine gg_iload_n dX9_turn_32 4 rfl ?_
        refine gg_callSi (own := RX9) (yt := gm_X9_isFormula) rfl gl_RX9_106 gk_X9_isFormula gr_X9_isFormula dX9_turn_33 (c_X9_isFormula (d := d - 1) (by omega)) rfl rfl (Nat.le_of_ble_eq_true rfl) (by show _ ≤ d; omega) ⟨Nat.le_refl _, Nat.le_refl _⟩ (fun e10 μ' hc => ?_)
        obtain ⟨rfl, ⟨rfl, hb11⟩ | ⟨rfl, hb11⟩⟩ := hc
        · refine gg_if_ne_t (tgt := 42) dX9_turn_36 (by decide) (by decide) (by decide) ?_
          exfalso
          omega
        · refine gg_if_ne_f (tgt := 42) dX9_turn_36 (by decide) (by decide) (by decide) ?_
          refine gg_bipush dX9_turn_39 (by decide) ?_
          refine gg_ireti dX9_turn_41 rfl ⟨rfl, rfl⟩ ?_
          exact ⟨rfl, rfl⟩
      · refine gg_if_eq_t (tgt := 39) dX9_turn_24 (by decide) (by decide) (by decide) ?_
        refine gg_bipush dX9_turn_39 (by decide) ?_
        refine gg_ireti dX9_turn_41 rfl ⟨rfl, rfl⟩ ?_
        exact ⟨rfl, rfl⟩
    · refine gg_if_eq_t (tgt := 39) dX9_turn_17 (by decide) (by decide) (by decide) ?_
      refine gg_bipush dX9_turn_39 (by decide) ?_
      refine gg_ireti dX9_turn_41 rfl ⟨rfl, rfl⟩ ?_
      exact ⟨rfl, rfl⟩

