/-! the reference: one comes ahead, a tree again, what is made is handed over -/
theorem gget_ins {P R : gLn} {c : Nat × Int64} {q : Nat} (h : P.length < q) : (P ++ (c :: R))[q]? = (P ++ R)[q - 1]? := by
  rw [List.getElem?_append_right (by omega), List.getElem?_append_right (by omega)]
  obtain ⟨t, ht⟩ : ∃ t, q - P.length = t + 1 := ⟨q - P.length - 1, by omega⟩
  rw [ht, show q - 1 - P.length = t by omega]
  rfl
set_option maxRecDepth 10000 in
theorem w_X10_putAhead {l : Launch} {Γ : gC} {ad : Nat → Nat} {I0 : Nat → Nat → Int} {J0 : Nat → Nat → Int64} {d : Nat} {P R : gLn} {kd : Nat} {x : Int64} (hl : (P ++ R).length < 200) (h5 : I0 145 5 = (((P ++ R).length + 1 : Nat) : Int)) (h6 : I0 145 6 = 0) : ∀ (m : Nat) (k : Nat) (I : Nat → Nat → Int) (J : Nat → Nat → Int64), k - P.length < m → (P.length ≤ k) → (k ≤ (P ++ R).length) → (∀ q c, (P ++ ((kd, x) :: R))[q]? = some c → k < q → I 187 q = ((c.1 : Nat) : Int) ∧ J 188 q = c.2) → (∀ q c, (P ++ R)[q]? = some c → q < k → I 187 q = ((c.1 : Nat) : Int) ∧ J 188 q = c.2) → (I 145 = I0 145) → (∀ p, p ≠ 145 → p ≠ 187 → I p = I0 p) → (∀ p, p ≠ 188 → J p = J0 p) → gG l Γ gm_X10_putAhead (d, 0, 0, 0, 0) 22 [(5, .int (iv (k : Int))), (0, .ref (gad (gSS ad) 145)), (1, .int (iv (P.length : Int))), (2, .int (iv (kd : Int))), (3, .long x)] [] (gSS ad, I, J) (gDv (fun μ => ∃ I1 J1, μ = (gSS ad, I1, J1) ∧ gMd I1 J1 (P ++ ((kd, x) :: R)) ∧ (∀ p, p ≠ 145 → p ≠ 187 → I1 p = I0 p) ∧ (∀ q, q ≠ 5 → q ≠ 6 → I1 145 q = I0 145 q) ∧ (∀ p, p ≠ 188 → J1 p = J0 p))) := by
  intro m
  induction m with
  | zero => intros; omega
  | succ m ih =>
    intro k I J hm hk1 hk2 hn ho h145 hI hJ
    refine gg_iload dX10_putAhead_22 0 rfl ?_
    refine gg_iload_n dX10_putAhead_24 2 rfl ?_
    refine gg_icmp_le (tgt := 66) dX10_putAhead_25 (by decide) (by omega) (fun hb => ?_) (fun hb => ?_)
    · have hke : k = P.length := by omega
      subst hke
      refine gg_aload_n dX10_putAhead_66 1 rfl ?_
      refine gg_getR (k' := 187) rfl gf_RX10_29 dX10_putAhead_67 sh_145 pl_145 (by decide) (by decide) rr_145_7 ?_
      refine gg_iload_n dX10_putAhead_70 2 rfl ?_
      refine gg_iload_n dX10_putAhead_71 3 rfl ?_
      refine gg_iastj P.length dX10_putAhead_72 sh_187 pl_187 (by decide) rfl (by omega) ?_
      refine gg_aload_n dX10_putAhead_73 1 rfl ?_
      refine gg_getR (k' := 188) rfl gf_RX10_32 dX10_putAhead_74 sh_145 pl_145 (by decide) (by decide) rr_145_8 ?_
      refine gg_iload_n dX10_putAhead_77 2 rfl ?_
      refine gg_lload_n dX10_putAhead_78 4 rfl ?_
      refine gg_lastj P.length dX10_putAhead_79 sh_188 pl_188 (by decide) rfl (by omega) ?_
      refine gg_vretv dX10_putAhead_80 rfl ⟨rfl, rfl⟩ ?_
      have hl2 : (P ++ ((kd, x) :: R)).length ≤ 200 := by simp only [List.length_append, List.length_cons] at hl ⊢; omega
      refine ⟨_, _, rfl, ⟨?_, hl2, by rw [gu_other (by omega), h145]; exact h6, fun q c hc => ?_⟩, fun p h1 h2 => (gu_other h2).trans (hI p h1 h2), fun q h1 h2 => by rw [gu_other (by omega), h145], fun p h => (gv_other h).trans (hJ p h)⟩
      · rw [gu_other (by omega), h145, h5]
        simp only [List.length_append, List.length_cons]
        omega
      · by_cases hq : q = P.length
        · subst hq
          rw [gu_s, gv_s]
          rw [List.getElem?_append_right (Nat.le_refl _), Nat.sub_self] at hc
          simp at hc
          subst hc
          exact ⟨rfl, rfl⟩
        · rw [gu_n (by omega), gv_n (by omega)]
          by_cases hq2 : q < P.length
          · rw [List.getElem?_append_left hq2] at hc
            exact ho q c (gget_app hc) hq2
          · exact hn q c hc (by omega)
    · obtain ⟨c, hc⟩ : ∃ c, (P ++ R)[k - 1]? = some c := ⟨_, List.getElem?_eq_getElem (by omega)⟩
      have hck := ho (k - 1) c hc (by omega)
      refine gg_aload_n dX10_putAhead_28 1 rfl ?_
      refine gg_getR (k' := 187) rfl gf_RX10_29 dX10_putAhead_29 sh_145 pl_145 (by decide) (by decide) rr_145_7 ?_
      refine gg_iload dX10_putAhead_32 0 rfl ?_
      refine gg_aload_n dX10_putAhead_34 1 rfl ?_
      refine gg_getR (k' := 187) rfl gf_RX10_29 dX10_putAhead_35 sh_145 pl_145 (by decide) (by decide) rr_145_7 ?_
      refine gg_iload dX10_putAhead_38 0 rfl ?_
      refine gg_iconst dX10_putAhead_40 ?_
      refine gg_isub dX10_putAhead_41 ?_
      refine gg_ialdj (k - 1) dX10_putAhead_42 sh_187 pl_187 (by decide) (by omega) (by omega) ?_
      refine gg_toI (b := ((c.1 : Nat) : Int)) hck.1 ?_
      refine gg_iastj k dX10_putAhead_43 sh_187 pl_187 (by decide) rfl (by omega) ?_
      refine gg_aload_n dX10_putAhead_44 1 rfl ?_
      refine gg_getR (k' := 188) rfl gf_RX10_32 dX10_putAhead_45 sh_145 pl_145 (by decide) (by decide) rr_145_8 ?_
      refine gg_iload dX10_putAhead_48 0 rfl ?_
      refine gg_aload_n dX10_putAhead_50 1 rfl ?_
      refine gg_getR (k' := 188) rfl gf_RX10_32 dX10_putAhead_51 sh_145 pl_145 (by decide) (by decide) rr_145_8 ?_
      refine gg_iload dX10_putAhead_54 0 rfl ?_
      refine gg_iconst dX10_putAhead_56 ?_
      refine gg_isub dX10_putAhead_57 ?_
      refine gg_laldj (k - 1) dX10_putAhead_58 sh_188 pl_188 (by decide) (by omega) (by omega) ?_
      refine gg_toL (b := c.2) hck.2 ?_
      refine gg_lastj k dX10_putAhead_59 sh_188 pl_188 (by decide) rfl (by omega) ?_
      refine gg_memI (fun I2 hI2 => ?_)
      refine gg_memJ (fun J2 hJ2 => ?_)
      refine gg_iincv (ls' := [(5, .int (iv ((k : Int) + (-1)))), (0, .ref (gad (gSS ad) 145)), (1, .int (iv (P.length : Int))), (2, .int (iv (kd : Int))), (3, .long x)]) dX10_putAhead_60 0 rfl rfl (by decide) rfl ?_
      refine gg_goto (tgt := 22) dX10_putAhead_63 (by decide) ?_
      rw [show ((k : Int) + (-1)) = ((k - 1 : Nat) : Int) by omega]
      refine ih (k - 1) I2 J2 (by omega) (by omega) (by omega) (fun q y hy hq => ?_) (fun q y hy hq => ?_) (by rw [hI2, gu_other (by omega)]; exact h145) (fun p h1 h2 => by rw [hI2, gu_other h2]; exact hI p h1 h2) (fun p h => by rw [hJ2, gv_other h]; exact hJ p h)
      · rw [hI2, hJ2]
        by_cases hqe : q = k
        · subst hqe
          rw [gu_s, gv_s]
          rw [gget_ins (by omega), hc] at hy
          cases hy
          exact ⟨rfl, rfl⟩
        · rw [gu_n (by omega), gv_n (by omega)]
          exact hn q y hy (by omega)
      · rw [hI2, hJ2, gu_n (by omega), gv_n (by omega)]
        exact ho q y hy (by omega)

set_option maxRecDepth 10000 in
theorem c_X10_putAhead {l : Launch} {Γ : gC} {ad : Nat → Nat} {I : Nat → Nat → Int} {J : Nat → Nat → Int64} {d : Nat} {P R : gLn} {kd : Nat} {x : Int64} (hmd : gMd I J (P ++ R)) (hl : (P ++ R).length < 200) (hd : 1 ≤ d) : gKv l Γ gm_X10_putAhead d [.ref (gad (gSS ad) 145), .int (iv (P.length : Int)), .int (iv (kd : Int)), .long x] (gSS ad, I, J) (fun μ => ∃ I1 J1, μ = (gSS ad, I1, J1) ∧ gMd I1 J1 (P ++ ((kd, x) :: R)) ∧ (∀ p, p ≠ 145 → p ≠ 187 → I1 p = I p) ∧ (∀ q, q ≠ 5 → q ≠ 6 → I1 145 q = I 145 q) ∧ (∀ p, p ≠ 188 → J1 p = J p)) := by
  refine gKv_of gk_X10_putAhead.1 (Nat.le_of_ble_eq_true rfl) ?_
  show gG l Γ gm_X10_putAhead (d, 0, 0, 0, 0) 0 [(0, .ref (gad (gSS ad) 145)), (1, .int (iv (P.length : Int))), (2, .int (iv (kd : Int))), (3, .long x)] [] _ _
  refine gg_aload_n dX10_putAhead_0 0 rfl ?_
  refine gg_iload_n dX10_putAhead_1 2 rfl ?_
  refine gg_lload_n dX10_putAhead_2 3 rfl ?_
  refine gg_callVv (own := RX10) (yt := gm_X10_put) rfl gl_RX10_102 gk_X10_put gr_X10_put dX10_putAhead_3 (c_X10_put (d := d - 1) (k := kd) (x := x) (Or.inl hmd)) sh_145 pl_145 (by decide) rfl rfl rfl (Nat.le_of_ble_eq_true rfl) (by show _ ≤ d; omega) ⟨Nat.le_refl _, Nat.le_refl _⟩ (fun μ' hc => ?_)
  obtain ⟨I1, J1, rfl, hx1, hf1, hf2, hf3⟩ := hc
  have hd1 := gMx_d hx1 (by simp only [List.length_append, List.length_cons, List.length_nil] at hl ⊢; omega)
  have hln : ((P ++ R) ++ [(kd, x)]).length = (P ++ R).length + 1 := by simp only [List.length_append, List.length_cons, List.length_nil]
  refine gg_aload_n dX10_putAhead_6 0 rfl ?_
  refine gg_getI rfl gf_RX10_94 dX10_putAhead_7 sh_145 pl_145 (by decide) (by decide) ?_
  refine gg_toI (b := 0) hd1.2.2.1 ?_
  refine gg_if_eq_t (tgt := 14) dX10_putAhead_10 (by decide) (by decide) (by decide) ?_
  refine gg_aload_n dX10_putAhead_14 0 rfl ?_
  refine gg_getI rfl gf_RX10_90 dX10_putAhead_15 sh_145 pl_145 (by decide) (by decide) ?_
  refine gg_toI (b := (((P ++ R).length + 1 : Nat) : Int)) (by rw [hd1.1, hln]) ?_
  refine gg_iconst dX10_putAhead_18 ?_
  refine gg_isub dX10_putAhead_19 ?_
  refine gg_toI (b := ((P ++ R).length : Int)) (by omega) ?_
  refine gg_istore (ls' := [(5, .int (iv ((P ++ R).length : Int))), (0, .ref (gad (gSS ad) 145)), (1, .int (iv (P.length : Int))), (2, .int (iv (kd : Int))), (3, .long x)]) dX10_putAhead_20 (by decide) rfl ?_
  refine gg_sub [0, 1, 2, 3, 4] rfl ?_
  refine gG_post (w_X10_putAhead (I0 := I1) (J0 := J1) hl (by rw [hd1.1, hln]) hd1.2.2.1 ((P ++ R).length - P.length + 1) (P ++ R).length I1 J1 (by omega) (by simp only [List.length_append]; omega) (Nat.le_refl _) (fun q c hc hq => ?_) (fun q c hc _ => hd1.2.2.2 q c (gget_app hc)) rfl (fun _ _ _ => rfl) (fun _ _ => rfl)) (fun r μ h => ?_)
  · have := gget_lt hc
    simp only [List.length_append, List.length_cons] at this hq
    omega
  · obtain ⟨rfl, I2, J2, rfl, g1, g2, g3, g4⟩ := h
    exact ⟨rfl, I2, J2, rfl, g1, fun p a b => (g2 p a b).trans (hf1 p a b), fun q a b => (g3 q a b).trans (hf2 q a b), fun p a => (g4 p a).trans (hf3 p a)⟩

theorem gMt_d {f n : Nat} {K : Nat → Nat} {N : Nat → Int64} {Z : Nat → Nat} {I I' : Nat → Nat → Int} {J J' : Nat → Nat → Int64} (hf : f < 12) (hM : gMt I J f n K N Z) (h : ∀ p, p ≠ 145 → p ≠ 187 → I' p = I p) (hJ : ∀ p, p ≠ 188 → J' p = J p) : gMt I' J' f n K N Z := by
  refine ⟨by rw [h 146 (by omega) (by omega)]; exact hM.1, fun j hj => ?_⟩
  rw [h (148 + f) (by omega) (by omega), h (174 + f) (by omega) (by omega), hJ (161 + f) (by omega)]
  exact hM.2 j hj
theorem gSl_s (K : Nat → Nat) (N : Nat → Int64) (j z : Nat) : gSl K N j (z + 1) = gSl K N j z ++ [(K (j + z), N (j + z))] := by
  rw [gSl_add K N z 1 j]
  rfl
theorem gMx_over {I : Nat → Nat → Int} {J : Nat → Nat → Int64} {B : gLn} {K : Nat → Nat} {N : Nat → Int64} {s z z' : Nat} (h : gMx I J (B ++ gSl K N s z)) (h2 : 200 < (B ++ gSl K N s z).length) (hz : z ≤ z') : gMx I J (B ++ gSl K N s z') := by
  rcases h with h | ⟨h1, h3⟩
  · exact absurd h.2.1 (by omega)
  · refine Or.inr ⟨?_, h3⟩
    simp only [List.length_append, gSl_len] at h1 ⊢
    omega
set_option maxRecDepth 10000 in
theorem w_X10_again {l : Launch} {Γ : gC} {ad : Nat → Nat} {I0 : Nat → Nat → Int} {J0 : Nat → Nat → Int64} {d : Nat} {f n : Nat} {K : Nat → Nat} {N : Nat → Int64} {Z : Nat → Nat} (hf : f < 12) (hM : gMt I0 J0 f n K N Z) (hW : gWf n K N Z) {s : Nat} {B : gLn} (hs : s < n) (hd : 1 ≤ d) : ∀ (m : Nat) (z : Nat) (I : Nat → Nat → Int) (J : Nat → Nat → Int64), Z s - z < m → (z ≤ Z s) → (gMx I J (B ++ gSl K N s z)) → (∀ p, p ≠ 145 → p ≠ 187 → I p = I0 p) → (∀ q, q ≠ 5 → q ≠ 6 → I 145 q = I0 145 q) → (∀ p, p ≠ 188 → J p = J0 p) → gG l Γ gm_X10_again (d, 0, 0, 0, 0) 2 [(3, .int (iv ((s + z : Nat) : Int))), (0, .ref (gad (gSS ad) 145)), (1, .int (iv (f : Int))), (2, .int (iv (s : Int)))] [] (gSS ad, I, J) (gDv (fun μ => ∃ I1 J1, μ = (gSS ad, I1, J1) ∧ gMx I1 J1 (B ++ gSl K N s (Z s)) ∧ (∀ p, p ≠ 145 → p ≠ 187 → I1 p = I0 p) ∧ (∀ q, q ≠ 5 → q ≠ 6 → I1 145 q = I0 145 q) ∧ (∀ p, p ≠ 188 → J1 p = J0 p))) := by
  intro m
  induction m with
  | zero => intros; omega
  | succ m ih =>
    intro z I J hm hk hx hI hI2 hJ
    have hn := hW.1
    have hz := (hW.2.2 s hs).2.2.1
    refine gg_iload_n dX10_again_2 0 rfl ?_
    refine gg_aload_n dX10_again_3 1 rfl ?_
    refine gg_getR (k' := 173) rfl gf_RX10_23 dX10_again_4 sh_145 pl_145 (by decide) (by decide) rr_145_3 ?_
    refine gg_iload_n dX10_again_7 2 rfl ?_
    refine gg_aaldj (t := 6) f (k' := (174 + f)) dX10_again_8 sh_173 (by decide) pl_173 (by decide) rfl hf (rr_173 hf) ?_
    refine gg_iload_n dX10_again_9 3 rfl ?_
    refine gg_ialdj s dX10_again_10 (rs_173 hf) (rl_173 hf) (by decide) rfl (by omega) ?_
    refine gg_toI (b := ((s + Z s : Nat) : Int)) (by rw [((gMt_d hf hM hI hJ).2 s hs).2.2]; omega) ?_
    refine gg_icmp_ge (tgt := 47) dX10_again_11 (by decide) (by omega) (fun hb => ?_) (fun hb => ?_)
    · have hze : z = Z s := by omega
      subst hze
      refine gg_vretv dX10_again_47 rfl ⟨rfl, rfl⟩ ?_
      first | exact ⟨I, J, rfl, hx, hI, hI2, hJ⟩ | exact ⟨I, J, rfl, gMx_over hx h200 hk, hI, hI2, hJ⟩
    · refine gg_aload_n dX10_again_14 1 rfl ?_
      have hov : I 145 6 = 0 ∨ (200 < (B ++ gSl K N s z).length ∧ I 145 6 = 1 ∧ 0 ≤ I 145 5 ∧ I 145 5 ≤ 200) := hx.imp (fun h => h.2.2.1) id
      obtain ⟨ov, hove⟩ : ∃ ov : Int, I 145 6 = ov := ⟨_, rfl⟩
      rw [hove] at hov
      refine gg_getI rfl gf_RX10_94 dX10_again_15 sh_145 pl_145 (by decide) (by decide) ?_
      refine gg_toI (b := ov) hove ?_
      refine gg_if_ne (tgt := 47) dX10_again_18 (by decide) (by omega) (fun hb2 => ?_) (fun hb2 => ?_)
      · have h200 : 200 < (B ++ gSl K N s z).length := by rcases hov with h | h <;> omega
        refine gg_vretv dX10_again_47 rfl ⟨rfl, rfl⟩ ?_
        first | exact ⟨I, J, rfl, hx, hI, hI2, hJ⟩ | exact ⟨I, J, rfl, gMx_over hx h200 hk, hI, hI2, hJ⟩
      · refine gg_aload_n dX10_again_21 1 rfl ?_
        refine gg_aload_n dX10_again_22 1 rfl ?_
        refine gg_getR (k' := 147) rfl gf_RX10_15 dX10_again_23 sh_145 pl_145 (by decide) (by decide) rr_145_1 ?_
        refine gg_iload_n dX10_again_26 2 rfl ?_
        refine gg_aaldj (t := 6) f (k' := (148 + f)) dX10_again_27 sh_147 (by decide) pl_147 (by decide) rfl (by omega) (rr_147 (by omega)) ?_
        refine gg_iload_n dX10_again_28 0 rfl ?_
        refine gg_ialdj (s + z) dX10_again_29 (rs_147 (by omega)) (rl_147 (by omega)) (by decide) rfl (by omega) ?_
        refine gg_toI (b := (K (s + z) : Int)) ((gMt_d hf hM hI hJ).2 (s + z) (by omega)).1 ?_
        refine gg_aload_n dX10_again_30 1 rfl ?_
        refine gg_getR (k' := 160) rfl gf_RX10_20 dX10_again_31 sh_145 pl_145 (by decide) (by decide) rr_145_2 ?_
        refine gg_iload_n dX10_again_34 2 rfl ?_
        refine gg_aaldj (t := 7) f (k' := (161 + f)) dX10_again_35 sh_160 (by decide) pl_160 (by decide) rfl (by omega) (rr_160 (by omega)) ?_
        refine gg_iload_n dX10_again_36 0 rfl ?_
        refine gg_laldj (s + z) dX10_again_37 (rs_160 (by omega)) (rl_160 (by omega)) (by decide) rfl (by omega) ?_
        refine gg_toL (b := N (s + z)) ((gMt_d hf hM hI hJ).2 (s + z) (by omega)).2.1 ?_
        refine gg_callVv (own := RX10) (yt := gm_X10_put) rfl gl_RX10_102 gk_X10_put gr_X10_put dX10_again_38 (c_X10_put (d := d - 1) (k := K (s + z)) (x := N (s + z)) hx) sh_145 pl_145 (by decide) rfl rfl rfl (Nat.le_of_ble_eq_true rfl) (by show _ ≤ d; omega) ⟨Nat.le_refl _, Nat.le_refl _⟩ (fun μ' hc => ?_)
        obtain ⟨I1, J1, rfl, hx1, hf1, hf2, hf3⟩ := hc
        refine gg_iincv (ls' := [(3, .int (iv ((s + (z + 1) : Nat) : Int))), (0, .ref (gad (gSS ad) 145)), (1, .int (iv (f : Int))), (2, .int (iv (s : Int)))]) dX10_again_41 0 rfl (by omega) (by decide) rfl ?_
        refine gg_goto (tgt := 2) dX10_again_44 (by decide) ?_
        exact ih (z + 1) I1 J1 (by omega) (by omega) (by rw [gSl_s, ← List.append_assoc]; exact hx1) (fun p a b => (hf1 p a b).trans (hI p a b)) (fun q a b => (hf2 q a b).trans (hI2 q a b)) (fun p a => (hf3 p a).trans (hJ p a))

set_option maxRecDepth 10000 in
theorem c_X10_again {l : Launch} {Γ : gC} {ad : Nat → Nat} {I : Nat → Nat → Int} {J : Nat → Nat → Int64} {d : Nat} {f n : Nat} {K : Nat → Nat} {N : Nat → Int64} {Z : Nat → Nat} (hf : f < 12) (hM : gMt I J f n K N Z) (hW : gWf n K N Z) {s : Nat} {B : gLn} (hs : s < n) (hx : gMx I J B) (hd : 1 ≤ d) : gKv l Γ gm_X10_again d [.ref (gad (gSS ad) 145), .int (iv (f : Int)), .int (iv (s : Int))] (gSS ad, I, J) (fun μ => ∃ I1 J1, μ = (gSS ad, I1, J1) ∧ gMx I1 J1 (B ++ gSl K N s (Z s)) ∧ (∀ p, p ≠ 145 → p ≠ 187 → I1 p = I p) ∧ (∀ q, q ≠ 5 → q ≠ 6 → I1 145 q = I 145 q) ∧ (∀ p, p ≠ 188 → J1 p = J p)) := by
  refine gKv_of gk_X10_again.1 (Nat.le_of_ble_eq_true rfl) ?_
  show gG l Γ gm_X10_again (d, 0, 0, 0, 0) 0 [(0, .ref (gad (gSS ad) 145)), (1, .int (iv (f : Int))), (2, .int (iv (s : Int)))] [] _ _
  refine gg_iload_n dX10_again_0 2 rfl ?_
  refine gg_istore_n (ls' := [(3, .int (iv (s : Int))), (0, .ref (gad (gSS ad) 145)), (1, .int (iv (f : Int))), (2, .int (iv (s : Int)))]) dX10_again_1 rfl (by decide) rfl ?_
  refine gg_sub [0, 1, 2, 3] rfl ?_
  exact w_X10_again hf hM hW hs hd (Z s + 1) 0 I J (by omega) (Nat.zero_le _) (by rw [show gSl K N s 0 = [] from rfl, List.append_nil]; exact hx) (fun _ _ _ => rfl) (fun _ _ _ => rfl) (fun _ _ => rfl)

theorem gRow_get {tl : gLn} {j : Nat} (h : j < tl.length) : ∃ c, tl[j]? = some c ∧ gRk tl j = c.1 ∧ gRn tl j = c.2 := by
  refine ⟨tl[j], List.getElem?_eq_getElem h, ?_, ?_⟩
  · unfold gRk
    rw [List.getD_eq_getElem?_getD, List.getElem?_eq_getElem h]
    rfl
  · unfold gRn
    rw [List.getD_eq_getElem?_getD, List.getElem?_eq_getElem h]
    rfl
theorem gTree_at {tl : gLn} (h : gFo tl 1) {j : Nat} (hj : j < tl.length) : ∃ t r, tl.drop j = t ++ r ∧ gFo t 1 ∧ gZl tl j = t.length := by
  obtain ⟨c, hc, hd⟩ := gFo_drop tl 1 j h hj
  obtain ⟨t, r, e, ht, -⟩ := gFo_split (tl.drop j) 1 (c - 1) (by rw [show 1 + (c - 1) = c by omega]; exact hd)
  exact ⟨t, r, e, ht, gZl_of e ht⟩
set_option maxRecDepth 10000 in
theorem w_X10_handOver {l : Launch} {Γ : gC} {ad : Nat → Nat} {I0 : Nat → Nat → Int} {J0 : Nat → Nat → Int64} {d : Nat} {f : Nat} {tl : gLn} (hf : f < 12) (hmd : gMd I0 J0 tl) (hfo : gFo tl 1) (hnv : gNvs tl) (hd : 2 ≤ d) : ∀ (m : Nat) (k : Nat) (I : Nat → Nat → Int) (J : Nat → Nat → Int64), tl.length - k < m → (k ≤ tl.length) → (I 146 f = (tl.length : Int)) → (∀ j, j < k → I (148 + f) j = (gRk tl j : Int) ∧ J (161 + f) j = gRn tl j ∧ I (174 + f) j = (j : Int) + gZl tl j) → (∀ p, p ≠ 146 → p ≠ 148 + f → p ≠ 174 + f → I p = I0 p) → (∀ q, q ≠ f → I 146 q = I0 146 q) → (∀ p, p ≠ 161 + f → J p = J0 p) → gG l Γ gm_X10_handOver (d, 0, 0, 0, 0) 12 [(2, .int (iv (k : Int))), (0, .ref (gad (gSS ad) 145)), (1, .int (iv (f : Int)))] [] (gSS ad, I, J) (gDi (fun e μ => ∃ I1 J1, μ = (gSS ad, I1, J1) ∧ gMt I1 J1 f tl.length (gRk tl) (gRn tl) (gZl tl) ∧ (∀ p, p ≠ 146 → p ≠ 148 + f → p ≠ 174 + f → I1 p = I0 p) ∧ (∀ q, q ≠ f → I1 146 q = I0 146 q) ∧ (∀ p, p ≠ 161 + f → J1 p = J0 p) ∧ e = (tl.length : Int))) := by
  intro m
  induction m with
  | zero => intros; omega
  | succ m ih =>
    intro k I J hm hk hs hr hI hI2 hJ
    have hlen := hmd.2.1
    refine gg_iload_n dX10_handOver_12 0 rfl ?_
    refine gg_aload_n dX10_handOver_13 1 rfl ?_
    refine gg_getI rfl gf_RX10_90 dX10_handOver_14 sh_145 pl_145 (by decide) (by decide) ?_
    refine gg_toI (b := (tl.length : Int)) (by rw [hI 145 (by omega) (by omega) (by omega)]; exact hmd.1) ?_
    refine gg_icmp_ge (tgt := 67) dX10_handOver_17 (by decide) (by have := hmd.2.1; omega) (fun hb => ?_) (fun hb => ?_)
    · have hke : k = tl.length := by omega
      subst hke
      refine gg_aload_n dX10_handOver_67 1 rfl ?_
      refine gg_getI rfl gf_RX10_90 dX10_handOver_68 sh_145 pl_145 (by decide) (by decide) ?_
      refine gg_toI (b := (tl.length : Int)) (by rw [hI 145 (by omega) (by omega) (by omega)]; exact hmd.1) ?_
      refine gg_ireti dX10_handOver_71 rfl ⟨rfl, rfl⟩ ?_
      exact ⟨I, J, rfl, ⟨hs, hr⟩, hI, hI2, hJ, rfl⟩
    · have hkl : k < tl.length := by omega
      obtain ⟨c, hc, hck, hcn⟩ := gRow_get hkl
      obtain ⟨t, r, hdr, htf, htz⟩ := gTree_at hfo hkl
      have hme : gMe I J tl := fun q x hx => by rw [hI 187 (by omega) (by omega) (by omega), hJ 188 (by omega)]; exact hmd.2.2.2 q x hx
      refine gg_aload_n dX10_handOver_20 1 rfl ?_
      refine gg_getR (k' := 147) rfl gf_RX10_15 dX10_handOver_21 sh_145 pl_145 (by decide) (by decide) rr_145_1 ?_
      refine gg_iload_n dX10_handOver_24 2 rfl ?_
      refine gg_aaldj (t := 6) f (k' := (148 + f)) dX10_handOver_25 sh_147 (by decide) pl_147 (by decide) rfl hf (rr_147 hf) ?_
      refine gg_iload_n dX10_handOver_26 0 rfl ?_
      refine gg_aload_n dX10_handOver_27 1 rfl ?_
      refine gg_getR (k' := 187) rfl gf_RX10_29 dX10_handOver_28 sh_145 pl_145 (by decide) (by decide) rr_145_7 ?_
      refine gg_iload_n dX10_handOver_31 0 rfl ?_
      refine gg_ialdj k dX10_handOver_32 sh_187 pl_187 (by decide) rfl (by omega) ?_
      refine gg_toI (b := (gRk tl k : Int)) (by rw [hck]; exact (hme k c hc).1) ?_
      refine gg_iastj k dX10_handOver_33 (rs_147 hf) (rl_147 hf) (by decide) rfl (by omega) ?_
      refine gg_aload_n dX10_handOver_34 1 rfl ?_
      refine gg_getR (k' := 160) rfl gf_RX10_20 dX10_handOver_35 sh_145 pl_145 (by decide) (by decide) rr_145_2 ?_
      refine gg_iload_n dX10_handOver_38 2 rfl ?_
      refine gg_aaldj (t := 7) f (k' := (161 + f)) dX10_handOver_39 sh_160 (by decide) pl_160 (by decide) rfl hf (rr_160 hf) ?_
      refine gg_iload_n dX10_handOver_40 0 rfl ?_
      refine gg_aload_n dX10_handOver_41 1 rfl ?_
      refine gg_getR (k' := 188) rfl gf_RX10_32 dX10_handOver_42 sh_145 pl_145 (by decide) (by decide) rr_145_8 ?_
      refine gg_iload_n dX10_handOver_45 0 rfl ?_
      refine gg_laldj k dX10_handOver_46 sh_188 pl_188 (by decide) rfl (by omega) ?_
      refine gg_toL (b := gRn tl k) (by rw [hcn]; exact (hme k c hc).2) ?_
      refine gg_lastj k dX10_handOver_47 (rs_160 hf) (rl_160 hf) (by decide) rfl (by omega) ?_
      refine gg_memI (fun I2 hI2_ => ?_)
      refine gg_memJ (fun J2 hJ2 => ?_)
      refine gg_aload_n dX10_handOver_48 1 rfl ?_
      refine gg_getR (k' := 173) rfl gf_RX10_23 dX10_handOver_49 sh_145 pl_145 (by decide) (by decide) rr_145_3 ?_
      refine gg_iload_n dX10_handOver_52 2 rfl ?_
      refine gg_aaldj (t := 6) f (k' := (174 + f)) dX10_handOver_53 sh_173 (by decide) pl_173 (by decide) rfl hf (rr_173 hf) ?_
      refine gg_iload_n dX10_handOver_54 0 rfl ?_
      refine gg_aload_n dX10_handOver_55 1 rfl ?_
      refine gg_iload_n dX10_handOver_56 0 rfl ?_
      refine gg_callVi (own := RX10) (yt := gm_X10_madeEnd) rfl gl_RX10_106 gk_X10_madeEnd gr_X10_madeEnd dX10_handOver_57 (c_X10_madeEnd (d := d - 1) (B := tl) (tl := t) (r := r) (fr := k) (fun q x hx => by rw [hI2_, gu_other (by omega), hJ2, gv_other (by omega)]; exact hme q x hx) hmd.2.1 (fun c hc => (hnv c hc).1) htf hdr (by omega)) sh_145 pl_145 (by decide) rfl rfl rfl (Nat.le_of_ble_eq_true rfl) (by show _ ≤ d; omega) ⟨Nat.le_refl _, Nat.le_refl _⟩ (fun e1 μ' hc => ?_)
      obtain ⟨rfl, rfl⟩ := hc
      refine gg_iastj k dX10_handOver_60 (rs_173 hf) (rl_173 hf) (by decide) rfl (by omega) ?_
      refine gg_memI (fun I3 hI3 => ?_)
      refine gg_iincv (ls' := [(2, .int (iv ((k + 1 : Nat) : Int))), (0, .ref (gad (gSS ad) 145)), (1, .int (iv (f : Int)))]) dX10_handOver_61 0 rfl (by omega) (by decide) rfl ?_
      refine gg_goto (tgt := 12) dX10_handOver_64 (by decide) ?_
      refine ih (k + 1) I3 J2 (by omega) (by omega) (by rw [hI3, gu_other (by omega), hI2_, gu_other (by omega)]; exact hs) (fun j hj => ?_) (fun p h1 h2 h3 => by rw [hI3, gu_other h3, hI2_, gu_other h2]; exact hI p h1 h2 h3) (fun q h => by rw [hI3, gu_other (by omega), hI2_, gu_other (by omega)]; exact hI2 q h) (fun p h => by rw [hJ2, gv_other h]; exact hJ p h)
      rw [hI3, hI2_, hJ2]
      by_cases hjk : j = k
      · subst hjk
        refine ⟨(gu_n (by omega)).trans gu_s, gv_s, gu_s.trans ?_⟩
        rw [htz]
        omega
      · have hj2 := hr j (by omega)
        exact ⟨((gu_n (by omega)).trans (gu_n (by omega))).trans hj2.1, (gv_n (by omega)).trans hj2.2.1, ((gu_n (by omega)).trans (gu_n (by omega))).trans hj2.2.2⟩

set_option maxRecDepth 10000 in
theorem c_X10_handOver {l : Launch} {Γ : gC} {ad : Nat → Nat} {I : Nat → Nat → Int} {J : Nat → Nat → Int64} {d : Nat} {f : Nat} {tl : gLn} (hf : f < 12) (hmd : gMd I J tl) (hfo : gFo tl 1) (hnv : gNvs tl) (hd : 2 ≤ d) : gKi l Γ gm_X10_handOver d [.ref (gad (gSS ad) 145), .int (iv (f : Int))] (gSS ad, I, J) (fun e μ => ∃ I1 J1, μ = (gSS ad, I1, J1) ∧ gMt I1 J1 f tl.length (gRk tl) (gRn tl) (gZl tl) ∧ (∀ p, p ≠ 146 → p ≠ 148 + f → p ≠ 174 + f → I1 p = I p) ∧ (∀ q, q ≠ f → I1 146 q = I 146 q) ∧ (∀ p, p ≠ 161 + f → J1 p = J p) ∧ e = (tl.length : Int)) := by
  refine gKi_of gk_X10_handOver.1 (Nat.le_of_ble_eq_true rfl) ?_
  show gG l Γ gm_X10_handOver (d, 0, 0, 0, 0) 0 [(0, .ref (gad (gSS ad) 145)), (1, .int (iv (f : Int)))] [] _ _
  refine gg_aload_n dX10_handOver_0 0 rfl ?_
  refine gg_getR (k' := 146) rfl gf_RX10_9 dX10_handOver_1 sh_145 pl_145 (by decide) (by decide) rr_145_0 ?_
  refine gg_iload_n dX10_handOver_4 1 rfl ?_
  refine gg_aload_n dX10_handOver_5 0 rfl ?_
  refine gg_getI rfl gf_RX10_90 dX10_handOver_6 sh_145 pl_145 (by decide) (by decide) ?_
  refine gg_toI (b := (tl.length : Int)) hmd.1 ?_
  refine gg_iastj f dX10_handOver_9 sh_146 pl_146 (by decide) rfl hf ?_
  refine gg_iconst dX10_handOver_10 ?_
  refine gg_istore_n (ls' := [(2, .int (iv 0)), (0, .ref (gad (gSS ad) 145)), (1, .int (iv (f : Int)))]) dX10_handOver_11 rfl (by decide) rfl ?_
  refine gg_sub [0, 1, 2] rfl ?_
  refine gG_post (w_X10_handOver (I0 := gu I 146 f (tl.length : Int)) (J0 := J) hf ⟨(gu_n (by omega)).trans hmd.1, hmd.2.1, (gu_n (by omega)).trans hmd.2.2.1, gMe_I hmd.2.2.2 (gu_other (by omega))⟩ hfo hnv hd (tl.length + 1) 0 _ J (by omega) (Nat.zero_le _) gu_s (fun j hj => absurd hj (Nat.not_lt_zero _)) (fun _ _ _ _ => rfl) (fun _ _ => rfl) (fun _ _ => rfl)) (fun r μ h => ?_)
  obtain ⟨e, rfl, I1, J1, rfl, g1, g2, g3, g4, g5⟩ := h
  exact ⟨e, rfl, I1, J1, rfl, g1, fun p a b c => (g2 p a b c).trans (gu_other a), fun q a => (g3 q a).trans (gu_n (by omega)), g4, g5⟩

