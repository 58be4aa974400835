/-! the reference's folding -/
theorem gHd_of {A : gLn} (h : 1 ≤ A.length) : A = gHd A :: A.tail := by
  cases A with
  | nil => simp at h
  | cons x t => rfl
theorem gHd_mem {A : gLn} (h : 1 ≤ A.length) : gHd A ∈ A := by
  cases A with
  | nil => simp at h
  | cons x t => exact List.mem_cons_self
theorem gget_hd {P A C : gLn} {c : Nat × Int64} (h : 1 ≤ A.length) : (P ++ (c :: (A ++ C)))[P.length + 1]? = some (gHd A) := by
  rw [List.getElem?_append_right (by omega), show P.length + 1 - P.length = 1 by omega, gHd_of h]
  rfl
theorem gget_sd {P A C : gLn} {c : Nat × Int64} (h : 1 ≤ C.length) : (P ++ (c :: (A ++ C)))[P.length + 1 + A.length]? = some (gHd C) := by
  have e : P ++ (c :: (A ++ C)) = (P ++ (c :: A)) ++ C := by simp
  rw [e, List.getElem?_append_right (by simp; omega)]
  simp only [List.length_append, List.length_cons]
  rw [show P.length + 1 + A.length - (P.length + (A.length + 1)) = 0 by omega, gHd_of h]
  rfl
theorem gMd_pre {I : Nat → Nat → Int} {J : Nat → Nat → Int64} {P R : gLn} {z : Int} (h : gMd I J (P ++ R)) (hz : z = (P.length : Int)) : gMd (gu I 145 5 z) J P := by
  subst hz
  exact ⟨gu_s, by have := h.2.1; simp only [List.length_append] at this; omega, (gu_n (by omega)).trans h.2.2.1, gMe_I (gMe_pre h.2.2.2) (gu_other (by omega))⟩
theorem gFo_tail {x : Int64} {r : gLn} (h : gFo ((2, x) :: r) 1) : gFo r 1 := by
  have := h.2
  exact this
theorem gfNeg_ok {a : gLn} (h : gFo a 1) (hv : gNvs a) : gFo (gfNeg a) 1 ∧ gNvs (gfNeg a) ∧ (gfNeg a).length ≤ 1 + a.length := by
  have hl := gFo_pos h (Nat.le_refl _)
  have e := gHd_of hl
  unfold gfNeg
  split
  · exact ⟨gFo_node rfl, gNvs_cons (gNv_n _) gNvs_nil, by simp⟩
  · split
    · rename_i h1 h2
      obtain ⟨⟨k, x⟩, he⟩ : ∃ c, gHd a = c := ⟨_, rfl⟩
      rw [he] at h2 e
      have h2 : k = 2 := h2
      subst h2
      rw [e] at h hv hl ⊢
      exact ⟨gFo_tail h, fun c hc => hv c (List.mem_cons_of_mem _ hc), by simp; omega⟩
    · exact ⟨gFo_node h, gNvs_cons (gNv_z (by omega) (by omega) (by omega)) hv, by simp; omega⟩
theorem gfSum_ok {a b : gLn} (h : gFo a 1) (hv : gNvs a) (g : gFo b 1) (gv : gNvs b) : gFo (gfSum a b) 1 ∧ gNvs (gfSum a b) ∧ (gfSum a b).length ≤ 1 + a.length + b.length := by
  unfold gfSum
  repeat' split
  · exact ⟨gFo_node rfl, gNvs_cons (gNv_n _) gNvs_nil, by simp; omega⟩
  · exact ⟨g, gv, by omega⟩
  · exact ⟨h, hv, by omega⟩
  · exact ⟨gFo_node (gFo_app _ _ 1 1 h g), gNvs_cons (gNv_z (by omega) (by omega) (by omega)) (gNvs_app hv gv), by simp; omega⟩
theorem gfPro_ok {a b : gLn} (h : gFo a 1) (hv : gNvs a) (g : gFo b 1) (gv : gNvs b) : gFo (gfPro a b) 1 ∧ gNvs (gfPro a b) ∧ (gfPro a b).length ≤ 1 + a.length + b.length := by
  unfold gfPro
  repeat' split
  · exact ⟨gFo_node rfl, gNvs_cons (gNv_n _) gNvs_nil, by simp; omega⟩
  · exact ⟨gFo_node rfl, gNvs_cons (gNv_n _) gNvs_nil, by simp; omega⟩
  · exact ⟨g, gv, by omega⟩
  · exact ⟨h, hv, by omega⟩
  · exact ⟨gFo_node (gFo_app _ _ 1 1 h g), gNvs_cons (gNv_z (by omega) (by omega) (by omega)) (gNvs_app hv gv), by simp; omega⟩
theorem gfPow_ok {a : gLn} {m : Nat} (hm : m < 10) (h : gFo a 1) (hv : gNvs a) : gFo (gfPow a (Int64.ofNat m)) 1 ∧ gNvs (gfPow a (Int64.ofNat m)) ∧ (gfPow a (Int64.ofNat m)).length ≤ 1 + a.length := by
  unfold gfPow
  repeat' split
  · exact ⟨gFo_node rfl, gNvs_cons (gNv_n _) gNvs_nil, by simp⟩
  · exact ⟨h, hv, by omega⟩
  · exact ⟨gFo_node rfl, gNvs_cons (gNv_n _) gNvs_nil, by simp⟩
  · exact ⟨gFo_node h, gNvs_cons (gNv_p hm) hv, by simp; omega⟩
theorem gfPic_ok {w a b : gLn} (f : gFo w 1) (fv : gNvs w) (h : gFo a 1) (hv : gNvs a) (g : gFo b 1) (gv : gNvs b) : gFo (gfPic w a b) 1 ∧ gNvs (gfPic w a b) ∧ (gfPic w a b).length ≤ 1 + w.length + a.length + b.length := by
  unfold gfPic
  repeat' split
  · exact ⟨g, gv, by omega⟩
  · exact ⟨h, hv, by omega⟩
  · exact ⟨gFo_node (gFo_app _ _ 1 2 f (gFo_app _ _ 1 1 h g)), gNvs_cons (gNv_z (by omega) (by omega) (by omega)) (gNvs_app fv (gNvs_app hv gv)), by simp; omega⟩
theorem gfSqu_ok {a : gLn} (h : gFo a 1) (hv : gNvs a) : gFo (gfSqu a) 1 ∧ gNvs (gfSqu a) ∧ (gfSqu a).length ≤ 1 + a.length := by
  unfold gfSqu
  repeat' split
  · exact ⟨gFo_node rfl, gNvs_cons (gNv_n _) gNvs_nil, by simp⟩
  · exact ⟨gFo_node h, gNvs_cons (gNv_z (by omega) (by omega) (by omega)) hv, by simp; omega⟩
theorem gFd_ok {n : Nat} {K : Nat → Nat} {N : Nat → Int64} {Z : Nat → Nat} (hW : gWf n K N Z) : ∀ j, j < n → gFo (gFd n K N Z j) 1 ∧ gNvs (gFd n K N Z j) ∧ (gFd n K N Z j).length ≤ Z j := by
  have key : ∀ k, ∀ j, n - k ≤ j → j < n → gFo (gFd n K N Z j) 1 ∧ gNvs (gFd n K N Z j) ∧ (gFd n K N Z j).length ≤ Z j := by
    intro k
    induction k with
    | zero => intro j h1 h2; omega
    | succ k ih =>
      intro j h1 h2
      by_cases hj : n - k ≤ j
      · exact ih j hj h2
      · obtain ⟨hK, hZ1, hZ2, he0, he1, he2, he3, hc1, hc2, hc3, -⟩ := hW.2.2 j h2
        have q1 := fun g => ih (j + 1) (by omega) (hc1 g)
        have q2 := fun g => ih (gPt Z j 1) (by have := gPt_gt Z j 1; omega) (hc2 g)
        have q3 := fun g => ih (gPt Z j 2) (by have := gPt_gt Z j 2; omega) (hc3 g)
        have hnm := (hW.2.2 j h2).2.2.2.2.2.2.2.2.2.2.1
        have hpw := (hW.2.2 j h2).2.2.2.2.2.2.2.2.2.2.2.1
        rw [gFd_is n K N Z j h2]
        unfold gfF
        obtain hk | hk | hk | hk | hk | hk | hk | hk : K j = 0 ∨ K j = 1 ∨ K j = 2 ∨ K j = 3 ∨ K j = 4 ∨ K j = 5 ∨ K j = 6 ∨ K j = 7 := by omega
        all_goals rw [hk] at q1 q2 q3 he0 he1 he2 he3
        · simp only [hk]
          exact ⟨gFo_node rfl, gNvs_cons (gNv_n _) gNvs_nil, by simp; omega⟩
        · simp only [hk]
          exact ⟨gFo_node rfl, gNvs_cons ⟨by omega, fun _ => hnm hk, fun e => absurd e (by omega), fun _ e => absurd rfl e⟩ gNvs_nil, by simp; omega⟩
        · obtain ⟨a1, a2, a3⟩ := q1 (by decide)
          obtain ⟨r1, r2, r3⟩ := gfNeg_ok a1 a2
          have := he1 rfl
          simp only [hk]
          exact ⟨r1, r2, by show (gfNeg _).length ≤ _; omega⟩
        · obtain ⟨a1, a2, a3⟩ := q1 (by decide)
          obtain ⟨b1, b2, b3⟩ := q2 (by decide)
          obtain ⟨r1, r2, r3⟩ := gfSum_ok a1 a2 b1 b2
          have := he2 rfl
          simp only [hk]
          exact ⟨r1, r2, by show (gfSum _ _).length ≤ _; omega⟩
        · obtain ⟨a1, a2, a3⟩ := q1 (by decide)
          obtain ⟨b1, b2, b3⟩ := q2 (by decide)
          obtain ⟨r1, r2, r3⟩ := gfPro_ok a1 a2 b1 b2
          have := he2 rfl
          simp only [hk]
          exact ⟨r1, r2, by show (gfPro _ _).length ≤ _; omega⟩
        · obtain ⟨a1, a2, a3⟩ := q1 (by decide)
          obtain ⟨m, hm, e⟩ := hpw hk
          obtain ⟨r1, r2, r3⟩ := gfPow_ok hm a1 a2
          have := he1 rfl
          simp only [hk, e]
          exact ⟨r1, r2, by show (gfPow _ _).length ≤ _; omega⟩
        · obtain ⟨a1, a2, a3⟩ := q1 (by decide)
          obtain ⟨b1, b2, b3⟩ := q2 (by decide)
          obtain ⟨c1, c2, c3⟩ := q3 (by decide)
          obtain ⟨r1, r2, r3⟩ := gfPic_ok a1 a2 b1 b2 c1 c2
          have := he3 rfl
          simp only [hk]
          exact ⟨r1, r2, by show (gfPic _ _ _).length ≤ _; omega⟩
        · obtain ⟨a1, a2, a3⟩ := q1 (by decide)
          obtain ⟨r1, r2, r3⟩ := gfSqu_ok a1 a2
          have := he1 rfl
          simp only [hk]
          exact ⟨r1, r2, by show (gfSqu _).length ≤ _; omega⟩
  exact fun j hj => key n j (by omega) hj
set_option maxRecDepth 10000 in
theorem c_X10_isNumber {l : Launch} {Γ : gC} {ad : Nat → Nat} {I : Nat → Nat → Int} {J : Nat → Nat → Int64} {d : Nat} {B : gLn} {at0 : Nat} {c : Nat × Int64} {x : Int64} (hm : gMd I J B) (hc : B[at0]? = some c) (h8 : c.1 < 8) : gKi l Γ gm_X10_isNumber d [.ref (gad (gSS ad) 145), .int (iv (at0 : Int)), .long x] (gSS ad, I, J) (fun e μ => μ = (gSS ad, I, J) ∧ ((e = 1 ∧ (c.1 = 0 ∧ c.2 = x)) ∨ (e = 0 ∧ ¬ (c.1 = 0 ∧ c.2 = x)))) := by
  refine gKi_of gk_X10_isNumber.1 (Nat.le_of_ble_eq_true rfl) ?_
  show gG l Γ gm_X10_isNumber (d, 0, 0, 0, 0) 0 [(0, .ref (gad (gSS ad) 145)), (1, .int (iv (at0 : Int))), (2, .long x)] [] _ _
  have hat := gget_lt hc
  have hl := hm.2.1
  refine gg_aload_n dX10_isNumber_0 0 rfl ?_
  refine gg_getR (k' := 187) rfl gf_RX10_29 dX10_isNumber_1 sh_145 pl_145 (by decide) (by decide) rr_145_7 ?_
  refine gg_iload_n dX10_isNumber_4 1 rfl ?_
  refine gg_ialdj at0 dX10_isNumber_5 sh_187 pl_187 (by decide) rfl (by omega) ?_
  refine gg_toI (b := ((c.1 : Nat) : Int)) (hm.2.2.2 at0 c hc).1 ?_
  refine gg_if_ne (tgt := 24) dX10_isNumber_6 (by decide) (by omega) (fun hb => ?_) (fun hb => ?_)
  · refine gg_iconst dX10_isNumber_24 ?_
    refine gg_iretz dX10_isNumber_25 rfl (by decide) ⟨rfl, rfl⟩ ?_
    exact ⟨rfl, Or.inr ⟨rfl, fun h => by first | exact absurd h.1 (by omega) | exact hx h.2⟩⟩
  · refine gg_aload_n dX10_isNumber_9 0 rfl ?_
    refine gg_getR (k' := 188) rfl gf_RX10_32 dX10_isNumber_10 sh_145 pl_145 (by decide) (by decide) rr_145_8 ?_
    refine gg_iload_n dX10_isNumber_13 1 rfl ?_
    refine gg_laldj at0 dX10_isNumber_14 sh_188 pl_188 (by decide) rfl (by omega) ?_
    refine gg_toL (b := c.2) (hm.2.2.2 at0 c hc).2 ?_
    refine gg_lload_n dX10_isNumber_15 2 rfl ?_
    refine gg_lcmp_ne (tgt := 24) dX10_isNumber_16 dX10_isNumber_17 (by decide) (fun hx => ?_) (fun hx => ?_)
    · refine gg_iconst dX10_isNumber_24 ?_
      refine gg_iretz dX10_isNumber_25 rfl (by decide) ⟨rfl, rfl⟩ ?_
      exact ⟨rfl, Or.inr ⟨rfl, fun h => by first | exact absurd h.1 (by omega) | exact hx h.2⟩⟩
    · refine gg_iconst dX10_isNumber_20 ?_
      refine gg_goto (tgt := 25) dX10_isNumber_21 (by decide) ?_
      refine gg_iretz dX10_isNumber_25 rfl (by decide) ⟨rfl, rfl⟩ ?_
      exact ⟨rfl, Or.inl ⟨rfl, by omega, hx⟩⟩

set_option maxRecDepth 10000 in
theorem c_X10_becomes {l : Launch} {Γ : gC} {ad : Nat → Nat} {I : Nat → Nat → Int} {J : Nat → Nat → Int64} {d : Nat} {P R : gLn} {x : Int64} (hm : gMd I J (P ++ R)) (hP : P.length < 200) (hd : 1 ≤ d) : gKv l Γ gm_X10_becomes d [.ref (gad (gSS ad) 145), .int (iv (P.length : Int)), .long x] (gSS ad, I, J) (fun μ => ∃ I1 J1, μ = (gSS ad, I1, J1) ∧ gMd I1 J1 (P ++ [(0, x)]) ∧ (∀ p, p ≠ 145 → p ≠ 187 → I1 p = I p) ∧ (∀ q, q ≠ 5 → q ≠ 6 → I1 145 q = I 145 q) ∧ (∀ p, p ≠ 188 → J1 p = J p)) := by
  refine gKv_of gk_X10_becomes.1 (Nat.le_of_ble_eq_true rfl) ?_
  show gG l Γ gm_X10_becomes (d, 0, 0, 0, 0) 0 [(0, .ref (gad (gSS ad) 145)), (1, .int (iv (P.length : Int))), (2, .long x)] [] _ _
  refine gg_aload_n dX10_becomes_0 0 rfl ?_
  refine gg_iload_n dX10_becomes_1 1 rfl ?_
  refine gg_putI rfl gf_RX10_90 dX10_becomes_2 sh_145 pl_145 (by decide) (by decide) (by decide) (gfit_i _) ?_
  refine gg_aload_n dX10_becomes_5 0 rfl ?_
  refine gg_iconst dX10_becomes_6 ?_
  refine gg_lload_n dX10_becomes_7 2 rfl ?_
  refine gg_callVv (own := RX10) (yt := gm_X10_put) rfl gl_RX10_102 gk_X10_put gr_X10_put dX10_becomes_8 (c_X10_put (d := d - 1) (k := 0) (x := x) (Or.inl (gMd_pre hm rfl))) sh_145 pl_145 (by decide) rfl rfl rfl (Nat.le_of_ble_eq_true rfl) (by show _ ≤ d; omega) ⟨Nat.le_refl _, Nat.le_refl _⟩ (fun μ' hc => ?_)
  obtain ⟨I1, J1, rfl, hx1, hf1, hf2, hf3⟩ := hc
  refine gg_vretv dX10_becomes_11 rfl ⟨rfl, rfl⟩ ?_
  exact ⟨I1, J1, rfl, gMx_d hx1 (by simp only [List.length_append, List.length_cons, List.length_nil]; omega), fun p a b => (hf1 p a b).trans (gu_other a), fun q a b => (hf2 q a b).trans (gu_n (by omega)), hf3⟩

set_option maxRecDepth 10000 in
theorem c_X10_foldSum {l : Launch} {Γ : gC} {ad : Nat → Nat} {I : Nat → Nat → Int} {J : Nat → Nat → Int64} {d : Nat} {P A C : gLn} (hm : gMd I J (P ++ ((3, 0) :: (A ++ C)))) (hA : 1 ≤ A.length) (hC : 1 ≤ C.length) (hA8 : (gHd A).1 < 8) (hC8 : (gHd C).1 < 8) (hd : 3 ≤ d) : gKv l Γ gm_X10_foldSum d [.ref (gad (gSS ad) 145), .int (iv (P.length : Int)), .int (iv ((P.length + 1 + A.length : Nat) : Int))] (gSS ad, I, J) (fun μ => ∃ I1 J1, μ = (gSS ad, I1, J1) ∧ gMd I1 J1 (P ++ gfSum A C) ∧ (∀ p, p ≠ 145 → p ≠ 187 → I1 p = I p) ∧ (∀ q, q ≠ 5 → q ≠ 6 → I1 145 q = I 145 q) ∧ (∀ p, p ≠ 188 → J1 p = J p)) := by
  refine gKv_of gk_X10_foldSum.1 (Nat.le_of_ble_eq_true rfl) ?_
  show gG l Γ gm_X10_foldSum (d, 0, 0, 0, 0) 0 [(0, .ref (gad (gSS ad) 145)), (1, .int (iv (P.length : Int))), (2, .int (iv ((P.length + 1 + A.length : Nat) : Int)))] [] _ _
  have hl := hm.2.1
  have hll : (P ++ ((3, 0) :: (A ++ C))).length = P.length + 1 + A.length + C.length := by simp; omega
  refine gg_iload_n dX10_foldSum_0 1 rfl ?_
  refine gg_iconst dX10_foldSum_1 ?_
  refine gg_iadd dX10_foldSum_2 ?_
  refine gg_toI (b := ((P.length + 1 : Nat) : Int)) (by omega) ?_
  refine gg_istore_n (ls' := [(3, .int (iv ((P.length + 1 : Nat) : Int))), (0, .ref (gad (gSS ad) 145)), (1, .int (iv (P.length : Int))), (2, .int (iv ((P.length + 1 + A.length : Nat) : Int)))]) dX10_foldSum_3 rfl (by decide) rfl ?_
  refine gg_aload_n dX10_foldSum_4 1 rfl ?_
  refine gg_getR (k' := 187) rfl gf_RX10_29 dX10_foldSum_5 sh_145 pl_145 (by decide) (by decide) rr_145_7 ?_
  refine gg_iload_n dX10_foldSum_8 0 rfl ?_
  refine gg_ialdj (P.length + 1) dX10_foldSum_9 sh_187 pl_187 (by decide) rfl (by omega) ?_
  refine gg_toI (b := (((gHd A).1 : Nat) : Int)) (hm.2.2.2 _ _ (gget_hd hA)).1 ?_
  refine gg_if_ne (tgt := 43) dX10_foldSum_10 (by decide) (by omega) (fun hb => ?_) (fun hb => ?_)
  · have hA0 : ¬ (gHd A).1 = 0 := by omega
    clear hb
    refine gg_aload_n dX10_foldSum_43 1 rfl ?_
    refine gg_iload_n dX10_foldSum_44 0 rfl ?_
    refine gg_lconstv (x := 0) dX10_foldSum_45 rfl ?_
    refine gg_callVi (own := RX10) (yt := gm_X10_isNumber) rfl gl_RX10_214 gk_X10_isNumber gr_X10_isNumber dX10_foldSum_46 (c_X10_isNumber (d := d - 1) (x := 0) hm (gget_hd hA) hA8) sh_145 pl_145 (by decide) rfl rfl rfl (Nat.le_of_ble_eq_true rfl) (by show _ ≤ d; omega) ⟨Nat.le_refl _, Nat.le_refl _⟩ (fun e1 μ' hc => ?_)
    obtain ⟨rfl, ⟨rfl, hxa⟩ | ⟨rfl, hxa⟩⟩ := hc
    · refine gg_if_eq_f (tgt := 61) dX10_foldSum_49 (by decide) (by decide) (by decide) ?_
      refine gg_aload_n dX10_foldSum_52 1 rfl ?_
      refine gg_iload_n dX10_foldSum_53 2 rfl ?_
      refine gg_iload_n dX10_foldSum_54 3 rfl ?_
      refine gg_callVv (own := RX10) (yt := gm_X10_takeOut) rfl gl_RX10_199 gk_X10_takeOut gr_X10_takeOut dX10_foldSum_55 (c_X10_takeOut (d := d - 1) (P := P) (M := (3, 0) :: A) (R := C) hm rfl (by simp only [List.length_cons]; omega)) sh_145 pl_145 (by decide) rfl rfl rfl (Nat.le_of_ble_eq_true rfl) (by show _ ≤ d; omega) ⟨Nat.le_refl _, Nat.le_refl _⟩ (fun μ' hc => ?_)
      obtain ⟨I1, J1, rfl, m1, fa1, fb1, fc1⟩ := hc
      refine gg_goto (tgt := 81) dX10_foldSum_58 (by decide) ?_
      refine gg_vretv dX10_foldSum_81 rfl ⟨rfl, rfl⟩ ?_
      refine ⟨I1, J1, rfl, ?_, fa1, fb1, fc1⟩
      rw [(show gfSum A C = C by unfold gfSum; repeat' split; all_goals first | rfl | (exfalso; simp_all; done) | simp_all)]
      exact m1
    · refine gg_if_eq_t (tgt := 61) dX10_foldSum_49 (by decide) (by decide) (by decide) ?_
      refine gg_aload_n dX10_foldSum_61 1 rfl ?_
      refine gg_iload_n dX10_foldSum_62 3 rfl ?_
      refine gg_lconstv (x := 0) dX10_foldSum_63 rfl ?_
      refine gg_callVi (own := RX10) (yt := gm_X10_isNumber) rfl gl_RX10_214 gk_X10_isNumber gr_X10_isNumber dX10_foldSum_64 (c_X10_isNumber (d := d - 1) (x := 0) hm (gget_sd hC) hC8) sh_145 pl_145 (by decide) rfl rfl rfl (Nat.le_of_ble_eq_true rfl) (by show _ ≤ d; omega) ⟨Nat.le_refl _, Nat.le_refl _⟩ (fun e3 μ' hc => ?_)
      obtain ⟨rfl, ⟨rfl, hxc⟩ | ⟨rfl, hxc⟩⟩ := hc
      · refine gg_if_eq_f (tgt := 81) dX10_foldSum_67 (by decide) (by decide) (by decide) ?_
        refine gg_aload_n dX10_foldSum_70 1 rfl ?_
        refine gg_iload_n dX10_foldSum_71 3 rfl ?_
        refine gg_putI rfl gf_RX10_90 dX10_foldSum_72 sh_145 pl_145 (by decide) (by decide) (by decide) (gfit_i _) ?_
        refine gg_aload_n dX10_foldSum_75 1 rfl ?_
        refine gg_iload_n dX10_foldSum_76 2 rfl ?_
        refine gg_iload_n dX10_foldSum_77 0 rfl ?_
        refine gg_callVv (own := RX10) (yt := gm_X10_takeOut) rfl gl_RX10_199 gk_X10_takeOut gr_X10_takeOut dX10_foldSum_78 (c_X10_takeOut (d := d - 1) (P := P) (M := [(3, 0)]) (R := A) (gMd_pre (P := P ++ ((3, 0) :: A)) (R := C) (by simpa using hm) (by simp only [List.length_append, List.length_cons]; omega)) rfl (by simp)) sh_145 pl_145 (by decide) rfl rfl rfl (Nat.le_of_ble_eq_true rfl) (by show _ ≤ d; omega) ⟨Nat.le_refl _, Nat.le_refl _⟩ (fun μ' hc => ?_)
        obtain ⟨I1, J1, rfl, m1, fa1, fb1, fc1⟩ := hc
        refine gg_vretv dX10_foldSum_81 rfl ⟨rfl, rfl⟩ ?_
        refine ⟨I1, J1, rfl, ?_, fun p a b => (fa1 p a b).trans (gu_other a), fun q a b => (fb1 q a b).trans (gu_n (by omega)), fc1⟩
        rw [(show gfSum A C = A by unfold gfSum; repeat' split; all_goals first | rfl | (exfalso; simp_all; done) | simp_all)]
        exact m1
      · refine gg_if_eq_t (tgt := 81) dX10_foldSum_67 (by decide) (by decide) (by decide) ?_
        refine gg_vretv dX10_foldSum_81 rfl ⟨rfl, rfl⟩ ?_
        refine ⟨I, J, rfl, ?_, fun _ _ _ => rfl, fun _ _ _ => rfl, fun _ _ => rfl⟩
        rw [(show gfSum A C = (3, 0) :: (A ++ C) by unfold gfSum; repeat' split; all_goals first | rfl | (exfalso; simp_all; done) | simp_all)]
        exact hm
  · have hA0 : (gHd A).1 = 0 := by omega
    clear hb
    refine gg_aload_n dX10_foldSum_13 1 rfl ?_
    refine gg_getR (k' := 187) rfl gf_RX10_29 dX10_foldSum_14 sh_145 pl_145 (by decide) (by decide) rr_145_7 ?_
    refine gg_iload_n dX10_foldSum_17 3 rfl ?_
    refine gg_ialdj (P.length + 1 + A.length) dX10_foldSum_18 sh_187 pl_187 (by decide) rfl (by omega) ?_
    refine gg_toI (b := (((gHd C).1 : Nat) : Int)) (hm.2.2.2 _ _ (gget_sd hC)).1 ?_
    refine gg_if_ne (tgt := 43) dX10_foldSum_19 (by decide) (by omega) (fun hb2 => ?_) (fun hb2 => ?_)
    · have hC0 : ¬ (gHd C).1 = 0 := by omega
      clear hb2
      refine gg_aload_n dX10_foldSum_43 1 rfl ?_
      refine gg_iload_n dX10_foldSum_44 0 rfl ?_
      refine gg_lconstv (x := 0) dX10_foldSum_45 rfl ?_
      refine gg_callVi (own := RX10) (yt := gm_X10_isNumber) rfl gl_RX10_214 gk_X10_isNumber gr_X10_isNumber dX10_foldSum_46 (c_X10_isNumber (d := d - 1) (x := 0) hm (gget_hd hA) hA8) sh_145 pl_145 (by decide) rfl rfl rfl (Nat.le_of_ble_eq_true rfl) (by show _ ≤ d; omega) ⟨Nat.le_refl _, Nat.le_refl _⟩ (fun e5 μ' hc => ?_)
      obtain ⟨rfl, ⟨rfl, hxa⟩ | ⟨rfl, hxa⟩⟩ := hc
      · refine gg_if_eq_f (tgt := 61) dX10_foldSum_49 (by decide) (by decide) (by decide) ?_
        refine gg_aload_n dX10_foldSum_52 1 rfl ?_
        refine gg_iload_n dX10_foldSum_53 2 rfl ?_
        refine gg_iload_n dX10_foldSum_54 3 rfl ?_
        refine gg_callVv (own := RX10) (yt := gm_X10_takeOut) rfl gl_RX10_199 gk_X10_takeOut gr_X10_takeOut dX10_foldSum_55 (c_X10_takeOut (d := d - 1) (P := P) (M := (3, 0) :: A) (R := C) hm rfl (by simp only [List.length_cons]; omega)) sh_145 pl_145 (by decide) rfl rfl rfl (Nat.le_of_ble_eq_true rfl) (by show _ ≤ d; omega) ⟨Nat.le_refl _, Nat.le_refl _⟩ (fun μ' hc => ?_)
        obtain ⟨I1, J1, rfl, m1, fa1, fb1, fc1⟩ := hc
        refine gg_goto (tgt := 81) dX10_foldSum_58 (by decide) ?_
        refine gg_vretv dX10_foldSum_81 rfl ⟨rfl, rfl⟩ ?_
        refine ⟨I1, J1, rfl, ?_, fa1, fb1, fc1⟩
        rw [(show gfSum A C = C by unfold gfSum; repeat' split; all_goals first | rfl | (exfalso; simp_all; done) | simp_all)]
        exact m1
      · refine gg_if_eq_t (tgt := 61) dX10_foldSum_49 (by decide) (by decide) (by decide) ?_
        refine gg_aload_n dX10_foldSum_61 1 rfl ?_
        refine gg_iload_n dX10_foldSum_62 3 rfl ?_
        refine gg_lconstv (x := 0) dX10_foldSum_63 rfl ?_
        refine gg_callVi (own := RX10) (yt := gm_X10_isNumber) rfl gl_RX10_214 gk_X10_isNumber gr_X10_isNumber dX10_foldSum_64 (c_X10_isNumber (d := d - 1) (x := 0) hm (gget_sd hC) hC8) sh_145 pl_145 (by decide) rfl rfl rfl (Nat.le_of_ble_eq_true rfl) (by show _ ≤ d; omega) ⟨Nat.le_refl _, Nat.le_refl _⟩ (fun e7 μ' hc => ?_)
        obtain ⟨rfl, ⟨rfl, hxc⟩ | ⟨rfl, hxc⟩⟩ := hc
        · refine gg_if_eq_f (tgt := 81) dX10_foldSum_67 (by decide) (by decide) (by decide) ?_
          refine gg_aload_n dX10_foldSum_70 1 rfl ?_
          refine gg_iload_n dX10_foldSum_71 3 rfl ?_
          refine gg_putI rfl gf_RX10_90 dX10_foldSum_72 sh_145 pl_145 (by decide) (by decide) (by decide) (gfit_i _) ?_
          refine gg_aload_n dX10_foldSum_75 1 rfl ?_
          refine gg_iload_n dX10_foldSum_76 2 rfl ?_
          refine gg_iload_n dX10_foldSum_77 0 rfl ?_
          refine gg_callVv (own := RX10) (yt := gm_X10_takeOut) rfl gl_RX10_199 gk_X10_takeOut gr_X10_takeOut dX10_foldSum_78 (c_X10_takeOut (d := d - 1) (P := P) (M := [(3, 0)]) (R := A) (gMd_pre (P := P ++ ((3, 0) :: A)) (R := C) (by simpa using hm) (by simp only [List.length_append, List.length_cons]; omega)) rfl (by simp)) sh_145 pl_145 (by decide) rfl rfl rfl (Nat.le_of_ble_eq_true rfl) (by show _ ≤ d; omega) ⟨Nat.le_refl _, Nat.le_refl _⟩ (fun μ' hc => ?_)
          obtain ⟨I1, J1, rfl, m1, fa1, fb1, fc1⟩ := hc
          refine gg_vretv dX10_foldSum_81 rfl ⟨rfl, rfl⟩ ?_
          refine ⟨I1, J1, rfl, ?_, fun p a b => (fa1 p a b).trans (gu_other a), fun q a b => (fb1 q a b).trans (gu_n (by omega)), fc1⟩
          rw [(show gfSum A C = A by unfold gfSum; repeat' split; all_goals first | rfl | (exfalso; simp_all; done) | simp_all)]
          exact m1
        · refine gg_if_eq_t (tgt := 81) dX10_foldSum_67 (by decide) (by decide) (by decide) ?_
          refine gg_vretv dX10_foldSum_81 rfl ⟨rfl, rfl⟩ ?_
          refine ⟨I, J, rfl, ?_, fun _ _ _ => rfl, fun _ _ _ => rfl, fun _ _ => rfl⟩
          rw [(show gfSum A C = (3, 0) :: (A ++ C) by unfold gfSum; repeat' split; all_goals first | rfl | (exfalso; simp_all; done) | simp_all)]
          exact hm
    · have hC0 : (gHd C).1 = 0 := by omega
      clear hb2
      refine gg_aload_n dX10_foldSum_22 1 rfl ?_
      refine gg_iload_n dX10_foldSum_23 2 rfl ?_
      refine gg_aload_n dX10_foldSum_24 1 rfl ?_
      refine gg_getR (k' := 188) rfl gf_RX10_32 dX10_foldSum_25 sh_145 pl_145 (by decide) (by decide) rr_145_8 ?_
      refine gg_iload_n dX10_foldSum_28 0 rfl ?_
      refine gg_laldj (P.length + 1) dX10_foldSum_29 sh_188 pl_188 (by decide) rfl (by omega) ?_
      refine gg_toL (b := (gHd A).2) (hm.2.2.2 _ _ (gget_hd hA)).2 ?_
      refine gg_aload_n dX10_foldSum_30 1 rfl ?_
      refine gg_getR (k' := 188) rfl gf_RX10_32 dX10_foldSum_31 sh_145 pl_145 (by decide) (by decide) rr_145_8 ?_
      refine gg_iload_n dX10_foldSum_34 3 rfl ?_
      refine gg_laldj (P.length + 1 + A.length) dX10_foldSum_35 sh_188 pl_188 (by decide) rfl (by omega) ?_
      refine gg_toL (b := (gHd C).2) (hm.2.2.2 _ _ (gget_sd hC)).2 ?_
      refine gg_ladd dX10_foldSum_36 ?_
      refine gg_callVv (own := RX10) (yt := gm_X10_becomes) rfl gl_RX10_196 gk_X10_becomes gr_X10_becomes dX10_foldSum_37 (c_X10_becomes (d := d - 1) (P := P) (R := (3, 0) :: (A ++ C)) (x := _) hm (by omega) (by omega)) sh_145 pl_145 (by decide) rfl rfl rfl (Nat.le_of_ble_eq_true rfl) (by show _ ≤ d; omega) ⟨Nat.le_refl _, Nat.le_refl _⟩ (fun μ' hc => ?_)
      obtain ⟨I1, J1, rfl, m1, fa1, fb1, fc1⟩ := hc
      refine gg_goto (tgt := 81) dX10_foldSum_40 (by decide) ?_
      refine gg_vretv dX10_foldSum_81 rfl ⟨rfl, rfl⟩ ?_
      refine ⟨I1, J1, rfl, ?_, fa1, fb1, fc1⟩
      rw [(show gfSum A C = [(0, (gHd A).2 + (gHd C).2)] by unfold gfSum; repeat' split; all_goals first | rfl | (exfalso; simp_all; done) | simp_all)]
      exact m1

set_option maxRecDepth 10000 in
theorem c_X10_foldProduct {l : Launch} {Γ : gC} {ad : Nat → Nat} {I : Nat → Nat → Int} {J : Nat → Nat → Int64} {d : Nat} {P A C : gLn} (hm : gMd I J (P ++ ((4, 0) :: (A ++ C)))) (hA : 1 ≤ A.length) (hC : 1 ≤ C.length) (hA8 : (gHd A).1 < 8) (hC8 : (gHd C).1 < 8) (hd : 3 ≤ d) : gKv l Γ gm_X10_foldProduct d [.ref (gad (gSS ad) 145), .int (iv (P.length : Int)), .int (iv ((P.length + 1 + A.length : Nat) : Int))] (gSS ad, I, J) (fun μ => ∃ I1 J1, μ = (gSS ad, I1, J1) ∧ gMd I1 J1 (P ++ gfPro A C) ∧ (∀ p, p ≠ 145 → p ≠ 187 → I1 p = I p) ∧ (∀ q, q ≠ 5 → q ≠ 6 → I1 145 q = I 145 q) ∧ (∀ p, p ≠ 188 → J1 p = J p)) := by
  refine gKv_of gk_X10_foldProduct.1 (Nat.le_of_ble_eq_true rfl) ?_
  show gG l Γ gm_X10_foldProduct (d, 0, 0, 0, 0) 0 [(0, .ref (gad (gSS ad) 145)), (1, .int (iv (P.length : Int))), (2, .int (iv ((P.length + 1 + A.length : Nat) : Int)))] [] _ _
  have hl := hm.2.1
  have hll : (P ++ ((4, 0) :: (A ++ C))).length = P.length + 1 + A.length + C.length := by simp; omega
  refine gg_iload_n dX10_foldProduct_0 1 rfl ?_
  refine gg_iconst dX10_foldProduct_1 ?_
  refine gg_iadd dX10_foldProduct_2 ?_
  refine gg_toI (b := ((P.length + 1 : Nat) : Int)) (by omega) ?_
  refine gg_istore_n (ls' := [(3, .int (iv ((P.length + 1 : Nat) : Int))), (0, .ref (gad (gSS ad) 145)), (1, .int (iv (P.length : Int))), (2, .int (iv ((P.length + 1 + A.length : Nat) : Int)))]) dX10_foldProduct_3 rfl (by decide) rfl ?_
  refine gg_aload_n dX10_foldProduct_4 1 rfl ?_
  refine gg_getR (k' := 187) rfl gf_RX10_29 dX10_foldProduct_5 sh_145 pl_145 (by decide) (by decide) rr_145_7 ?_
  refine gg_iload_n dX10_foldProduct_8 0 rfl ?_
  refine gg_ialdj (P.length + 1) dX10_foldProduct_9 sh_187 pl_187 (by decide) rfl (by omega) ?_
  refine gg_toI (b := (((gHd A).1 : Nat) : Int)) (hm.2.2.2 _ _ (gget_hd hA)).1 ?_
  refine gg_if_ne (tgt := 43) dX10_foldProduct_10 (by decide) (by omega) (fun hb => ?_) (fun hb => ?_)
  · have hA0 : ¬ (gHd A).1 = 0 := by omega
    clear hb
    refine gg_aload_n dX10_foldProduct_43 1 rfl ?_
    refine gg_iload_n dX10_foldProduct_44 0 rfl ?_
    refine gg_lconstv (x := 0) dX10_foldProduct_45 rfl ?_
    refine gg_callVi (own := RX10) (yt := gm_X10_isNumber) rfl gl_RX10_214 gk_X10_isNumber gr_X10_isNumber dX10_foldProduct_46 (c_X10_isNumber (d := d - 1) (x := 0) hm (gget_hd hA) hA8) sh_145 pl_145 (by decide) rfl rfl rfl (Nat.le_of_ble_eq_true rfl) (by show _ ≤ d; omega) ⟨Nat.le_refl _, Nat.le_refl _⟩ (fun e1 μ' hc => ?_)
    obtain ⟨rfl, ⟨rfl, hxa⟩ | ⟨rfl, hxa⟩⟩ := hc
    · refine gg_if_ne_t (tgt := 61) dX10_foldProduct_49 (by decide) (by decide) (by decide) ?_
      refine gg_aload_n dX10_foldProduct_61 1 rfl ?_
      refine gg_iload_n dX10_foldProduct_62 2 rfl ?_
      refine gg_lconstv (x := 0) dX10_foldProduct_63 rfl ?_
      refine gg_callVv (own := RX10) (yt := gm_X10_becomes) rfl gl_RX10_196 gk_X10_becomes gr_X10_becomes dX10_foldProduct_64 (c_X10_becomes (d := d - 1) (P := P) (R := (4, 0) :: (A ++ C)) (x := 0) hm (by omega) (by omega)) sh_145 pl_145 (by decide) rfl rfl rfl (Nat.le_of_ble_eq_true rfl) (by show _ ≤ d; omega) ⟨Nat.le_refl _, Nat.le_refl _⟩ (fun μ' hc => ?_)
      obtain ⟨I1, J1, rfl, m1, fa1, fb1, fc1⟩ := hc
      refine gg_goto (tgt := 108) dX10_foldProduct_67 (by decide) ?_
      refine gg_vretv dX10_foldProduct_108 rfl ⟨rfl, rfl⟩ ?_
      refine ⟨I1, J1, rfl, ?_, fa1, fb1, fc1⟩
      rw [(show gfPro A C = [(0, 0)] by unfold gfPro; repeat' split; all_goals first | rfl | (exfalso; simp_all; done) | simp_all)]
      exact m1
    · refine gg_if_ne_f (tgt := 61) dX10_foldProduct_49 (by decide) (by decide) (by decide) ?_
      refine gg_aload_n dX10_foldProduct_52 1 rfl ?_
      refine gg_iload_n dX10_foldProduct_53 3 rfl ?_
      refine gg_lconstv (x := 0) dX10_foldProduct_54 rfl ?_
      refine gg_callVi (own := RX10) (yt := gm_X10_isNumber) rfl gl_RX10_214 gk_X10_isNumber gr_X10_isNumber dX10_foldProduct_55 (c_X10_isNumber (d := d - 1) (x := 0) hm (gget_sd hC) hC8) sh_145 pl_145 (by decide) rfl rfl rfl (Nat.le_of_ble_eq_true rfl) (by show _ ≤ d; omega) ⟨Nat.le_refl _, Nat.le_refl _⟩ (fun e3 μ' hc => ?_)
      obtain ⟨rfl, ⟨rfl, hxc⟩ | ⟨rfl, hxc⟩⟩ := hc
      · refine gg_if_eq_f (tgt := 70) dX10_foldProduct_58 (by decide) (by decide) (by decide) ?_
        refine gg_aload_n dX10_foldProduct_61 1 rfl ?_
        refine gg_iload_n dX10_foldProduct_62 2 rfl ?_
        refine gg_lconstv (x := 0) dX10_foldProduct_63 rfl ?_
        refine gg_callVv (own := RX10) (yt := gm_X10_becomes) rfl gl_RX10_196 gk_X10_becomes gr_X10_becomes dX10_foldProduct_64 (c_X10_becomes (d := d - 1) (P := P) (R := (4, 0) :: (A ++ C)) (x := 0) hm (by omega) (by omega)) sh_145 pl_145 (by decide) rfl rfl rfl (Nat.le_of_ble_eq_true rfl) (by show _ ≤ d; omega) ⟨Nat.le_refl _, Nat.le_refl _⟩ (fun μ' hc => ?_)
        obtain ⟨I1, J1, rfl, m1, fa1, fb1, fc1⟩ := hc
        refine gg_goto (tgt := 108) dX10_foldProduct_67 (by decide) ?_
        refine gg_vretv dX10_foldProduct_108 rfl ⟨rfl, rfl⟩ ?_
        refine ⟨I1, J1, rfl, ?_, fa1, fb1, fc1⟩
        rw [(show gfPro A C = [(0, 0)] by unfold gfPro; repeat' split; all_goals first | rfl | (exfalso; simp_all; done) | simp_all)]
        exact m1
      · refine gg_if_eq_t (tgt := 70) dX10_foldProduct_58 (by decide) (by decide) (by decide) ?_
        refine gg_aload_n dX10_foldProduct_70 1 rfl ?_
        refine gg_iload_n dX10_foldProduct_71 0 rfl ?_
        refine gg_lconstv (x := 1) dX10_foldProduct_72 rfl ?_
        refine gg_callVi (own := RX10) (yt := gm_X10_isNumber) rfl gl_RX10_214 gk_X10_isNumber gr_X10_isNumber dX10_foldProduct_73 (c_X10_isNumber (d := d - 1) (x := 1) hm (gget_hd hA) hA8) sh_145 pl_145 (by decide) rfl rfl rfl (Nat.le_of_ble_eq_true rfl) (by show _ ≤ d; omega) ⟨Nat.le_refl _, Nat.le_refl _⟩ (fun e5 μ' hc => ?_)
        obtain ⟨rfl, ⟨rfl, hya⟩ | ⟨rfl, hya⟩⟩ := hc
        · refine gg_if_eq_f (tgt := 88) dX10_foldProduct_76 (by decide) (by decide) (by decide) ?_
          refine gg_aload_n dX10_foldProduct_79 1 rfl ?_
          refine gg_iload_n dX10_foldProduct_80 2 rfl ?_
          refine gg_iload_n dX10_foldProduct_81 3 rfl ?_
          refine gg_callVv (own := RX10) (yt := gm_X10_takeOut) rfl gl_RX10_199 gk_X10_takeOut gr_X10_takeOut dX10_foldProduct_82 (c_X10_takeOut (d := d - 1) (P := P) (M := (4, 0) :: A) (R := C) hm rfl (by simp only [List.length_cons]; omega)) sh_145 pl_145 (by decide) rfl rfl rfl (Nat.le_of_ble_eq_true rfl) (by show _ ≤ d; omega) ⟨Nat.le_refl _, Nat.le_refl _⟩ (fun μ' hc => ?_)
          obtain ⟨I1, J1, rfl, m1, fa1, fb1, fc1⟩ := hc
          refine gg_goto (tgt := 108) dX10_foldProduct_85 (by decide) ?_
          refine gg_vretv dX10_foldProduct_108 rfl ⟨rfl, rfl⟩ ?_
          refine ⟨I1, J1, rfl, ?_, fa1, fb1, fc1⟩
          rw [(show gfPro A C = C by unfold gfPro; repeat' split; all_goals first | rfl | (exfalso; simp_all; done) | simp_all)]
          exact m1
        · refine gg_if_eq_t (tgt := 88) dX10_foldProduct_76 (by decide) (by decide) (by decide) ?_
          refine gg_aload_n dX10_foldProduct_88 1 rfl ?_
          refine gg_iload_n dX10_foldProduct_89 3 rfl ?_
          refine gg_lconstv (x := 1) dX10_foldProduct_90 rfl ?_
          refine gg_callVi (own := RX10) (yt := gm_X10_isNumber) rfl gl_RX10_214 gk_X10_isNumber gr_X10_isNumber dX10_foldProduct_91 (c_X10_isNumber (d := d - 1) (x := 1) hm (gget_sd hC) hC8) sh_145 pl_145 (by decide) rfl rfl rfl (Nat.le_of_ble_eq_true rfl) (by show _ ≤ d; omega) ⟨Nat.le_refl _, Nat.le_refl _⟩ (fun e7 μ' hc => ?_)
          obtain ⟨rfl, ⟨rfl, hyc⟩ | ⟨rfl, hyc⟩⟩ := hc
          · refine gg_if_eq_f (tgt := 108) dX10_foldProduct_94 (by decide) (by decide) (by decide) ?_
            refine gg_aload_n dX10_foldProduct_97 1 rfl ?_
            refine gg_iload_n dX10_foldProduct_98 3 rfl ?_
            refine gg_putI rfl gf_RX10_90 dX10_foldProduct_99 sh_145 pl_145 (by decide) (by decide) (by decide) (gfit_i _) ?_
            refine gg_aload_n dX10_foldProduct_102 1 rfl ?_
            refine gg_iload_n dX10_foldProduct_103 2 rfl ?_
            refine gg_iload_n dX10_foldProduct_104 0 rfl ?_
            refine gg_callVv (own := RX10) (yt := gm_X10_takeOut) rfl gl_RX10_199 gk_X10_takeOut gr_X10_takeOut dX10_foldProduct_105 (c_X10_takeOut (d := d - 1) (P := P) (M := [(4, 0)]) (R := A) (gMd_pre (P := P ++ ((4, 0) :: A)) (R := C) (by simpa using hm) (by simp only [List.length_append, List.length_cons]; omega)) rfl (by simp)) sh_145 pl_145 (by decide) rfl rfl rfl (Nat.le_of_ble_eq_true rfl) (by show _ ≤ d; omega) ⟨Nat.le_refl _, Nat.le_refl _⟩ (fun μ' hc => ?_)
            obtain ⟨I1, J1, rfl, m1, fa1, fb1, fc1⟩ := hc
            refine gg_vretv dX10_foldProduct_108 rfl ⟨rfl, rfl⟩ ?_
            refine ⟨I1, J1, rfl, ?_, fun p a b => (fa1 p a b).trans (gu_other a), fun q a b => (fb1 q a b).trans (gu_n (by omega)), fc1⟩
            rw [(show gfPro A C = A by unfold gfPro; repeat' split; all_goals first | rfl | (exfalso; simp_all; done) | simp_all)]
            exact m1
          · refine gg_if_eq_t (tgt := 108) dX10_foldProduct_94 (by decide) (by decide) (by decide) ?_
            refine gg_vretv dX10_foldProduct_108 rfl ⟨rfl, rfl⟩ ?_
            refine ⟨I, J, rfl, ?_, fun _ _ _ => rfl, fun _ _ _ => rfl, fun _ _ => rfl⟩
            rw [(show gfPro A C = (4, 0) :: (A ++ C) by unfold gfPro; repeat' split; all_goals first | rfl | (exfalso; simp_all; done) | simp_all)]
            exact hm
  · have hA0 : (gHd A).1 = 0 := by omega
    clear hb
    refine gg_aload_n dX10_foldProduct_13 1 rfl ?_
    refine gg_getR (k' := 187) rfl gf_RX10_29 dX10_foldProduct_14 sh_145 pl_145 (by decide) (by decide) rr_145_7 ?_
    refine gg_iload_n dX10_foldProduct_17 3 rfl ?_
    refine gg_ialdj (P.length + 1 + A.length) dX10_foldProduct_18 sh_187 pl_187 (by decide) rfl (by omega) ?_
    refine gg_toI (b := (((gHd C).1 : Nat) : Int)) (hm.2.2.2 _ _ (gget_sd hC)).1 ?_
    refine gg_if_ne (tgt := 43) dX10_foldProduct_19 (by decide) (by omega) (fun hb2 => ?_) (fun hb2 => ?_)
    · have hC0 : ¬ (gHd C).1 = 0 := by omega
      clear hb2
      refine gg_aload_n dX10_foldProduct_43 1 rfl ?_
      refine gg_iload_n dX10_foldProduct_44 0 rfl ?_
      refine gg_lconstv (x := 0) dX10_foldProduct_45 rfl ?_
      refine gg_callVi (own := RX10) (yt := gm_X10_isNumber) rfl gl_RX10_214 gk_X10_isNumber gr_X10_isNumber dX10_foldProduct_46 (c_X10_isNumber (d := d - 1) (x := 0) hm (gget_hd hA) hA8) sh_145 pl_145 (by decide) rfl rfl rfl (Nat.le_of_ble_eq_true rfl) (by show _ ≤ d; omega) ⟨Nat.le_refl _, Nat.le_refl _⟩ (fun e9 μ' hc => ?_)
      obtain ⟨rfl, ⟨rfl, hxa⟩ | ⟨rfl, hxa⟩⟩ := hc
      · refine gg_if_ne_t (tgt := 61) dX10_foldProduct_49 (by decide) (by decide) (by decide) ?_
        refine gg_aload_n dX10_foldProduct_61 1 rfl ?_
        refine gg_iload_n dX10_foldProduct_62 2 rfl ?_
        refine gg_lconstv (x := 0) dX10_foldProduct_63 rfl ?_
        refine gg_callVv (own := RX10) (yt := gm_X10_becomes) rfl gl_RX10_196 gk_X10_becomes gr_X10_becomes dX10_foldProduct_64 (c_X10_becomes (d := d - 1) (P := P) (R := (4, 0) :: (A ++ C)) (x := 0) hm (by omega) (by omega)) sh_145 pl_145 (by decide) rfl rfl rfl (Nat.le_of_ble_eq_true rfl) (by show _ ≤ d; omega) ⟨Nat.le_refl _, Nat.le_refl _⟩ (fun μ' hc => ?_)
        obtain ⟨I1, J1, rfl, m1, fa1, fb1, fc1⟩ := hc
        refine gg_goto (tgt := 108) dX10_foldProduct_67 (by decide) ?_
        refine gg_vretv dX10_foldProduct_108 rfl ⟨rfl, rfl⟩ ?_
        refine ⟨I1, J1, rfl, ?_, fa1, fb1, fc1⟩
        rw [(show gfPro A C = [(0, 0)] by unfold gfPro; repeat' split; all_goals first | rfl | (exfalso; simp_all; done) | simp_all)]
        exact m1
      · refine gg_if_ne_f (tgt := 61) dX10_foldProduct_49 (by decide) (by decide) (by decide) ?_
        refine gg_aload_n dX10_foldProduct_52 1 rfl ?_
        refine gg_iload_n dX10_foldProduct_53 3 rfl ?_
        refine gg_lconstv (x := 0) dX10_foldProduct_54 rfl ?_
        refine gg_callVi (own := RX10) (yt := gm_X10_isNumber) rfl gl_RX10_214 gk_X10_isNumber gr_X10_isNumber dX10_foldProduct_55 (c_X10_isNumber (d := d - 1) (x := 0) hm (gget_sd hC) hC8) sh_145 pl_145 (by decide) rfl rfl rfl (Nat.le_of_ble_eq_true rfl) (by show _ ≤ d; omega) ⟨Nat.le_refl _, Nat.le_refl _⟩ (fun e11 μ' hc => ?_)
        obtain ⟨rfl, ⟨rfl, hxc⟩ | ⟨rfl, hxc⟩⟩ := hc
        · refine gg_if_eq_f (tgt := 70) dX10_foldProduct_58 (by decide) (by decide) (by decide) ?_
          refine gg_aload_n dX10_foldProduct_61 1 rfl ?_
          refine gg_iload_n dX10_foldProduct_62 2 rfl ?_
          refine gg_lconstv (x := 0) dX10_foldProduct_63 rfl ?_
          refine gg_callVv (own := RX10) (yt := gm_X10_becomes) rfl gl_RX10_196 gk_X10_becomes gr_X10_becomes dX10_foldProduct_64 (c_X10_becomes (d := d - 1) (P := P) (R := (4, 0) :: (A ++ C)) (x := 0) hm (by omega) (by omega)) sh_145 pl_145 (by decide) rfl rfl rfl (Nat.le_of_ble_eq_true rfl) (by show _ ≤ d; omega) ⟨Nat.le_refl _, Nat.le_refl _⟩ (fun μ' hc => ?_)
          obtain ⟨I1, J1, rfl, m1, fa1, fb1, fc1⟩ := hc
          refine gg_goto (tgt := 108) dX10_foldProduct_67 (by decide) ?_
          refine gg_vretv dX10_foldProduct_108 rfl ⟨rfl, rfl⟩ ?_
          refine ⟨I1, J1, rfl, ?_, fa1, fb1, fc1⟩
          rw [(show gfPro A C = [(0, 0)] by unfold gfPro; repeat' split; all_goals first | rfl | (exfalso; simp_all; done) | simp_all)]
          exact m1
        · refine gg_if_eq_t (tgt := 70) dX10_foldProduct_58 (by decide) (by decide) (by decide) ?_
          refine gg_aload_n dX10_foldProduct_70 1 rfl ?_
          refine gg_iload_n dX10_foldProduct_71 0 rfl ?_
          refine gg_lconstv (x := 1) dX10_foldProduct_72 rfl ?_
          refine gg_callVi (own := RX10) (yt := gm_X10_isNumber) rfl gl_RX10_214 gk_X10_isNumber gr_X10_isNumber dX10_foldProduct_73 (c_X10_isNumber (d := d - 1) (x := 1) hm (gget_hd hA) hA8) sh_145 pl_145 (by decide) rfl rfl rfl (Nat.le_of_ble_eq_true rfl) (by show _ ≤ d; omega) ⟨Nat.le_refl _, Nat.le_refl _⟩ (fun e13 μ' hc => ?_)
          obtain ⟨rfl, ⟨rfl, hya⟩ | ⟨rfl, hya⟩⟩ := hc
          · refine gg_if_eq_f (tgt := 88) dX10_foldProduct_76 (by decide) (by decide) (by decide) ?_
            refine gg_aload_n dX10_foldProduct_79 1 rfl ?_
            refine gg_iload_n dX10_foldProduct_80 2 rfl ?_
            refine gg_iload_n dX10_foldProduct_81 3 rfl ?_
            refine gg_callVv (own := RX10) (yt := gm_X10_takeOut) rfl gl_RX10_199 gk_X10_takeOut gr_X10_takeOut dX10_foldProduct_82 (c_X10_takeOut (d := d - 1) (P := P) (M := (4, 0) :: A) (R := C) hm rfl (by simp only [List.length_cons]; omega)) sh_145 pl_145 (by decide) rfl rfl rfl (Nat.le_of_ble_eq_true rfl) (by show _ ≤ d; omega) ⟨Nat.le_refl _, Nat.le_refl _⟩ (fun μ' hc => ?_)
            obtain ⟨I1, J1, rfl, m1, fa1, fb1, fc1⟩ := hc
            refine gg_goto (tgt := 108) dX10_foldProduct_85 (by decide) ?_
            refine gg_vretv dX10_foldProduct_108 rfl ⟨rfl, rfl⟩ ?_
            refine ⟨I1, J1, rfl, ?_, fa1, fb1, fc1⟩
            rw [(show gfPro A C = C by unfold gfPro; repeat' split; all_goals first | rfl | (exfalso; simp_all; done) | simp_all)]
            exact m1
          · refine gg_if_eq_t (tgt := 88) dX10_foldProduct_76 (by decide) (by decide) (by decide) ?_
            refine gg_aload_n dX10_foldProduct_88 1 rfl ?_
            refine gg_iload_n dX10_foldProduct_89 3 rfl ?_
            refine gg_lconstv (x := 1) dX10_foldProduct_90 rfl ?_
            refine gg_callVi (own := RX10) (yt := gm_X10_isNumber) rfl gl_RX10_214 gk_X10_isNumber gr_X10_isNumber dX10_foldProduct_91 (c_X10_isNumber (d := d - 1) (x := 1) hm (gget_sd hC) hC8) sh_145 pl_145 (by decide) rfl rfl rfl (Nat.le_of_ble_eq_true rfl) (by show _ ≤ d; omega) ⟨Nat.le_refl _, Nat.le_refl _⟩ (fun e15 μ' hc => ?_)
            obtain ⟨rfl, ⟨rfl, hyc⟩ | ⟨rfl, hyc⟩⟩ := hc
            · refine gg_if_eq_f (tgt := 108) dX10_foldProduct_94 (by decide) (by decide) (by decide) ?_
              refine gg_aload_n dX10_foldProduct_97 1 rfl ?_
              refine gg_iload_n dX10_foldProduct_98 3 rfl ?_
              refine gg_putI rfl gf_RX10_90 dX10_foldProduct_99 sh_145 pl_145 (by decide) (by decide) (by decide) (gfit_i _) ?_
              refine gg_aload_n dX10_foldProduct_102 1 rfl ?_
              refine gg_iload_n dX10_foldProduct_103 2 rfl ?_
              refine gg_iload_n dX10_foldProduct_104 0 rfl ?_
              refine gg_callVv (own := RX10) (yt := gm_X10_takeOut) rfl gl_RX10_199 gk_X10_takeOut gr_X10_takeOut dX10_foldProduct_105 (c_X10_takeOut (d := d - 1) (P := P) (M := [(4, 0)]) (R := A) (gMd_pre (P := P ++ ((4, 0) :: A)) (R := C) (by simpa using hm) (by simp only [List.length_append, List.length_cons]; omega)) rfl (by simp)) sh_145 pl_145 (by decide) rfl rfl rfl (Nat.le_of_ble_eq_true rfl) (by show _ ≤ d; omega) ⟨Nat.le_refl _, Nat.le_refl _⟩ (fun μ' hc => ?_)
              obtain ⟨I1, J1, rfl, m1, fa1, fb1, fc1⟩ := hc
              refine gg_vretv dX10_foldProduct_108 rfl ⟨rfl, rfl⟩ ?_
              refine ⟨I1, J1, rfl, ?_, fun p a b => (fa1 p a b).trans (gu_other a), fun q a b => (fb1 q a b).trans (gu_n (by omega)), fc1⟩
              rw [(show gfPro A C = A by unfold gfPro; repeat' split; all_goals first | rfl | (exfalso; simp_all; done) | simp_all)]
              exact m1
            · refine gg_if_eq_t (tgt := 108) dX10_foldProduct_94 (by decide) (by decide) (by decide) ?_
              refine gg_vretv dX10_foldProduct_108 rfl ⟨rfl, rfl⟩ ?_
              refine ⟨I, J, rfl, ?_, fun _ _ _ => rfl, fun _ _ _ => rfl, fun _ _ => rfl⟩
              rw [(show gfPro A C = (4, 0) :: (A ++ C) by unfold gfPro; repeat' split; all_goals first | rfl | (exfalso; simp_all; done) | simp_all)]
              exact hm
    · have hC0 : (gHd C).1 = 0 := by omega
      clear hb2
      refine gg_aload_n dX10_foldProduct_22 1 rfl ?_
      refine gg_iload_n dX10_foldProduct_23 2 rfl ?_
      refine gg_aload_n dX10_foldProduct_24 1 rfl ?_
      refine gg_getR (k' := 188) rfl gf_RX10_32 dX10_foldProduct_25 sh_145 pl_145 (by decide) (by decide) rr_145_8 ?_
      refine gg_iload_n dX10_foldProduct_28 0 rfl ?_
      refine gg_laldj (P.length + 1) dX10_foldProduct_29 sh_188 pl_188 (by decide) rfl (by omega) ?_
      refine gg_toL (b := (gHd A).2) (hm.2.2.2 _ _ (gget_hd hA)).2 ?_
      refine gg_aload_n dX10_foldProduct_30 1 rfl ?_
      refine gg_getR (k' := 188) rfl gf_RX10_32 dX10_foldProduct_31 sh_145 pl_145 (by decide) (by decide) rr_145_8 ?_
      refine gg_iload_n dX10_foldProduct_34 3 rfl ?_
      refine gg_laldj (P.length + 1 + A.length) dX10_foldProduct_35 sh_188 pl_188 (by decide) rfl (by omega) ?_
      refine gg_toL (b := (gHd C).2) (hm.2.2.2 _ _ (gget_sd hC)).2 ?_
      refine gg_lmul dX10_foldProduct_36 ?_
      refine gg_callVv (own := RX10) (yt := gm_X10_becomes) rfl gl_RX10_196 gk_X10_becomes gr_X10_becomes dX10_foldProduct_37 (c_X10_becomes (d := d - 1) (P := P) (R := (4, 0) :: (A ++ C)) (x := _) hm (by omega) (by omega)) sh_145 pl_145 (by decide) rfl rfl rfl (Nat.le_of_ble_eq_true rfl) (by show _ ≤ d; omega) ⟨Nat.le_refl _, Nat.le_refl _⟩ (fun μ' hc => ?_)
      obtain ⟨I1, J1, rfl, m1, fa1, fb1, fc1⟩ := hc
      refine gg_goto (tgt := 108) dX10_foldProduct_40 (by decide) ?_
      refine gg_vretv dX10_foldProduct_108 rfl ⟨rfl, rfl⟩ ?_
      refine ⟨I1, J1, rfl, ?_, fa1, fb1, fc1⟩
      rw [(show gfPro A C = [(0, (gHd A).2 * (gHd C).2)] by unfold gfPro; repeat' split; all_goals first | rfl | (exfalso; simp_all; done) | simp_all)]
      exact m1

theorem gget_h1 {P A : gLn} {c : Nat × Int64} (h : 1 ≤ A.length) : (P ++ (c :: A))[P.length + 1]? = some (gHd A) := by
  have := gget_hd (P := P) (C := []) (c := c) h
  rwa [List.append_nil] at this
theorem gofN_0 {m : Nat} (h : m < 10) : (Int64.ofNat m = 0 ↔ m = 0) ∧ (Int64.ofNat m = 1 ↔ m = 1) := by
  have key : ∀ m : Fin 10, (Int64.ofNat m.val = 0 ↔ m.val = 0) ∧ (Int64.ofNat m.val = 1 ↔ m.val = 1) := by decide
  exact key ⟨m, h⟩
set_option maxRecDepth 10000 in
theorem c_X10_foldPower {l : Launch} {Γ : gC} {ad : Nat → Nat} {I : Nat → Nat → Int} {J : Nat → Nat → Int64} {d : Nat} {P A : gLn} {m0 : Nat} (hm0 : m0 < 10) (hm : gMd I J (P ++ ((5, Int64.ofNat m0) :: A))) (hA : 1 ≤ A.length) (hA8 : (gHd A).1 < 8) (hd : 3 ≤ d) : gKv l Γ gm_X10_foldPower d [.ref (gad (gSS ad) 145), .int (iv (P.length : Int)), .int (iv (m0 : Int))] (gSS ad, I, J) (fun μ => ∃ I1 J1, μ = (gSS ad, I1, J1) ∧ gMd I1 J1 (P ++ gfPow A (Int64.ofNat m0)) ∧ (∀ p, p ≠ 145 → p ≠ 187 → I1 p = I p) ∧ (∀ q, q ≠ 5 → q ≠ 6 → I1 145 q = I 145 q) ∧ (∀ p, p ≠ 188 → J1 p = J p)) := by
  refine gKv_of gk_X10_foldPower.1 (Nat.le_of_ble_eq_true rfl) ?_
  show gG l Γ gm_X10_foldPower (d, 0, 0, 0, 0) 0 [(0, .ref (gad (gSS ad) 145)), (1, .int (iv (P.length : Int))), (2, .int (iv (m0 : Int)))] [] _ _
  have hl := hm.2.1
  have hll : (P ++ ((5, Int64.ofNat m0) :: A)).length = P.length + 1 + A.length := by simp; omega
  refine gg_iload_n dX10_foldPower_0 2 rfl ?_
  refine gg_if_ne (tgt := 13) dX10_foldPower_1 (by decide) (by omega) (fun h0 => ?_) (fun h0 => ?_)
  · have h0 : ¬ m0 = 0 := by omega
    refine gg_iload_n dX10_foldPower_13 2 rfl ?_
    refine gg_iconst dX10_foldPower_14 ?_
    refine gg_icmp_ne (tgt := 29) dX10_foldPower_15 (by decide) (by omega) (fun h1 => ?_) (fun h1 => ?_)
    · have h1 : ¬ m0 = 1 := by omega
      refine gg_aload_n dX10_foldPower_29 0 rfl ?_
      refine gg_getR (k' := 187) rfl gf_RX10_29 dX10_foldPower_30 sh_145 pl_145 (by decide) (by decide) rr_145_7 ?_
      refine gg_iload_n dX10_foldPower_33 1 rfl ?_
      refine gg_iconst dX10_foldPower_34 ?_
      refine gg_iadd dX10_foldPower_35 ?_
      refine gg_ialdj (P.length + 1) dX10_foldPower_36 sh_187 pl_187 (by decide) rfl (by omega) ?_
      refine gg_toI (b := (((gHd A).1 : Nat) : Int)) (hm.2.2.2 _ _ (gget_h1 hA)).1 ?_
      refine gg_if_ne (tgt := 57) dX10_foldPower_37 (by decide) (by omega) (fun hb => ?_) (fun hb => ?_)
      · have hA0 : ¬ (gHd A).1 = 0 := by omega
        clear hb
        refine gg_vretv dX10_foldPower_57 rfl ⟨rfl, rfl⟩ ?_
        refine ⟨I, J, rfl, ?_, fun _ _ _ => rfl, fun _ _ _ => rfl, fun _ _ => rfl⟩
        rw [(show gfPow A (Int64.ofNat m0) = (5, Int64.ofNat m0) :: A by unfold gfPow; rw [gnum_of (by omega)]; simp only [(gofN_0 hm0).1, (gofN_0 hm0).2]; repeat' split; all_goals first | rfl | (exfalso; omega) | (exfalso; simp_all; done) | simp_all)]
        exact hm
      · have hA0 : (gHd A).1 = 0 := by omega
        clear hb
        refine gg_aload_n dX10_foldPower_40 0 rfl ?_
        refine gg_iload_n dX10_foldPower_41 1 rfl ?_
        refine gg_aload_n dX10_foldPower_42 0 rfl ?_
        refine gg_getR (k' := 188) rfl gf_RX10_32 dX10_foldPower_43 sh_145 pl_145 (by decide) (by decide) rr_145_8 ?_
        refine gg_iload_n dX10_foldPower_46 1 rfl ?_
        refine gg_iconst dX10_foldPower_47 ?_
        refine gg_iadd dX10_foldPower_48 ?_
        refine gg_laldj (P.length + 1) dX10_foldPower_49 sh_188 pl_188 (by decide) rfl (by omega) ?_
        refine gg_toL (b := (gHd A).2) (hm.2.2.2 _ _ (gget_h1 hA)).2 ?_
        refine gg_iload_n dX10_foldPower_50 2 rfl ?_
        refine gg_callSl (own := RX10) (yt := gm_X10_power) rfl gl_RX10_218 gk_X10_power gr_X10_power dX10_foldPower_51 (c_X10_power (d := d - 1) (m0 := m0) (by omega)) rfl rfl (Nat.le_of_ble_eq_true rfl) (by show _ ≤ d; omega) ⟨Nat.le_refl _, Nat.le_refl _⟩ (fun e1 μ' hc => ?_)
        obtain ⟨rfl, rfl⟩ := hc
        refine gg_callVv (own := RX10) (yt := gm_X10_becomes) rfl gl_RX10_196 gk_X10_becomes gr_X10_becomes dX10_foldPower_54 (c_X10_becomes (d := d - 1) (P := P) (R := (5, Int64.ofNat m0) :: A) (x := _) hm (by omega) (by omega)) sh_145 pl_145 (by decide) rfl rfl rfl (Nat.le_of_ble_eq_true rfl) (by show _ ≤ d; omega) ⟨Nat.le_refl _, Nat.le_refl _⟩ (fun μ' hc => ?_)
        obtain ⟨I1, J1, rfl, m1, fa1, fb1, fc1⟩ := hc
        refine gg_vretv dX10_foldPower_57 rfl ⟨rfl, rfl⟩ ?_
        refine ⟨I1, J1, rfl, ?_, fa1, fb1, fc1⟩
        rw [(show gfPow A (Int64.ofNat m0) = [(0, gpow (gHd A).2 m0)] by unfold gfPow; rw [gnum_of (by omega)]; simp only [(gofN_0 hm0).1, (gofN_0 hm0).2]; repeat' split; all_goals first | rfl | (exfalso; omega) | (exfalso; simp_all; done) | simp_all)]
        exact m1
    · have h1 : m0 = 1 := by omega
      refine gg_aload_n dX10_foldPower_18 0 rfl ?_
      refine gg_iload_n dX10_foldPower_19 1 rfl ?_
      refine gg_iload_n dX10_foldPower_20 1 rfl ?_
      refine gg_iconst dX10_foldPower_21 ?_
      refine gg_iadd dX10_foldPower_22 ?_
      refine gg_toI (b := ((P.length + 1 : Nat) : Int)) (by omega) ?_
      refine gg_callVv (own := RX10) (yt := gm_X10_takeOut) rfl gl_RX10_199 gk_X10_takeOut gr_X10_takeOut dX10_foldPower_23 (c_X10_takeOut (d := d - 1) (P := P) (M := [(5, Int64.ofNat m0)]) (R := A) hm rfl (by simp)) sh_145 pl_145 (by decide) rfl rfl rfl (Nat.le_of_ble_eq_true rfl) (by show _ ≤ d; omega) ⟨Nat.le_refl _, Nat.le_refl _⟩ (fun μ' hc => ?_)
      obtain ⟨I1, J1, rfl, m1, fa1, fb1, fc1⟩ := hc
      refine gg_goto (tgt := 57) dX10_foldPower_26 (by decide) ?_
      refine gg_vretv dX10_foldPower_57 rfl ⟨rfl, rfl⟩ ?_
      refine ⟨I1, J1, rfl, ?_, fa1, fb1, fc1⟩
      rw [(show gfPow A (Int64.ofNat m0) = A by unfold gfPow; rw [gnum_of (by omega)]; simp only [(gofN_0 hm0).1, (gofN_0 hm0).2]; repeat' split; all_goals first | rfl | (exfalso; omega) | (exfalso; simp_all; done) | simp_all)]
      exact m1
  · have h0 : m0 = 0 := by omega
    refine gg_aload_n dX10_foldPower_4 0 rfl ?_
    refine gg_iload_n dX10_foldPower_5 1 rfl ?_
    refine gg_lconstv (x := 1) dX10_foldPower_6 rfl ?_
    refine gg_callVv (own := RX10) (yt := gm_X10_becomes) rfl gl_RX10_196 gk_X10_becomes gr_X10_becomes dX10_foldPower_7 (c_X10_becomes (d := d - 1) (P := P) (R := (5, Int64.ofNat m0) :: A) (x := 1) hm (by omega) (by omega)) sh_145 pl_145 (by decide) rfl rfl rfl (Nat.le_of_ble_eq_true rfl) (by show _ ≤ d; omega) ⟨Nat.le_refl _, Nat.le_refl _⟩ (fun μ' hc => ?_)
    obtain ⟨I1, J1, rfl, m1, fa1, fb1, fc1⟩ := hc
    refine gg_goto (tgt := 57) dX10_foldPower_10 (by decide) ?_
    refine gg_vretv dX10_foldPower_57 rfl ⟨rfl, rfl⟩ ?_
    refine ⟨I1, J1, rfl, ?_, fa1, fb1, fc1⟩
    rw [(show gfPow A (Int64.ofNat m0) = [(0, 1)] by unfold gfPow; rw [gnum_of (by omega)]; simp only [(gofN_0 hm0).1, (gofN_0 hm0).2]; repeat' split; all_goals first | rfl | (exfalso; omega) | (exfalso; simp_all; done) | simp_all)]
    exact m1

set_option maxRecDepth 10000 in
theorem c_X10_foldPick {l : Launch} {Γ : gC} {ad : Nat → Nat} {I : Nat → Nat → Int} {J : Nat → Nat → Int64} {d : Nat} {P A C E : gLn} (hm : gMd I J (P ++ ((6, 0) :: (A ++ (C ++ E))))) (hP : gNvs P) (hA : gFo A 1) (hC : gFo C 1) (hE : gFo E 1) (vA : gNvs A) (vC : gNvs C) (vE : gNvs E) (hd : 3 ≤ d) : gKv l Γ gm_X10_foldPick d [.ref (gad (gSS ad) 145), .int (iv (P.length : Int))] (gSS ad, I, J) (fun μ => ∃ I1 J1, μ = (gSS ad, I1, J1) ∧ gMd I1 J1 (P ++ gfPic A C E) ∧ (∀ p, p ≠ 145 → p ≠ 187 → I1 p = I p) ∧ (∀ q, q ≠ 5 → q ≠ 6 → I1 145 q = I 145 q) ∧ (∀ p, p ≠ 188 → J1 p = J p)) := by
  refine gKv_of gk_X10_foldPick.1 (Nat.le_of_ble_eq_true rfl) ?_
  show gG l Γ gm_X10_foldPick (d, 0, 0, 0, 0) 0 [(0, .ref (gad (gSS ad) 145)), (1, .int (iv (P.length : Int)))] [] _ _
  have hl := hm.2.1
  have hA1 := gFo_pos hA (Nat.le_refl _)
  have hC1 := gFo_pos hC (Nat.le_refl _)
  have hll : (P ++ ((6, 0) :: (A ++ (C ++ E)))).length = P.length + 1 + A.length + C.length + E.length := by simp; omega
  have hv8 : ∀ c, c ∈ (P ++ ((6, 0) :: (A ++ (C ++ E)))) → c.1 < 8 := fun c hc => ((gNvs_app hP (gNvs_cons (gNv_z (by omega) (by omega) (by omega)) (gNvs_app vA (gNvs_app vC vE)))) c hc).1
  have hA8 := (vA (gHd A) (gHd_mem hA1)).1
  have hd1 : (P ++ ((6, 0) :: (A ++ (C ++ E)))).drop (P.length + 1) = A ++ (C ++ E) := gdrop (a := [(6, 0)]) (by rw [List.drop_left]; rfl)
  refine gg_iload_n dX10_foldPick_0 1 rfl ?_
  refine gg_iconst dX10_foldPick_1 ?_
  refine gg_iadd dX10_foldPick_2 ?_
  refine gg_toI (b := ((P.length + 1 : Nat) : Int)) (by omega) ?_
  refine gg_istore_n (ls' := [(2, .int (iv ((P.length + 1 : Nat) : Int))), (0, .ref (gad (gSS ad) 145)), (1, .int (iv (P.length : Int)))]) dX10_foldPick_3 rfl (by decide) rfl ?_
  refine gg_aload_n dX10_foldPick_4 1 rfl ?_
  refine gg_getR (k' := 187) rfl gf_RX10_29 dX10_foldPick_5 sh_145 pl_145 (by decide) (by decide) rr_145_7 ?_
  refine gg_iload_n dX10_foldPick_8 0 rfl ?_
  refine gg_ialdj (P.length + 1) dX10_foldPick_9 sh_187 pl_187 (by decide) rfl (by omega) ?_
  refine gg_toI (b := (((gHd A).1 : Nat) : Int)) (hm.2.2.2 _ _ (gget_hd hA1)).1 ?_
  refine gg_if_eq (tgt := 14) dX10_foldPick_10 (by decide) (by omega) (fun hb => ?_) (fun hb => ?_)
  · have hA0 : (gHd A).1 = 0 := by omega
    clear hb
    refine gg_aload_n dX10_foldPick_14 1 rfl ?_
    refine gg_iload_n dX10_foldPick_15 0 rfl ?_
    refine gg_callVi (own := RX10) (yt := gm_X10_madeEnd) rfl gl_RX10_106 gk_X10_madeEnd gr_X10_madeEnd dX10_foldPick_16 (c_X10_madeEnd (d := d - 1) (B := (P ++ ((6, 0) :: (A ++ (C ++ E))))) (tl := A) (r := C ++ E) (fr := P.length + 1) hm.2.2.2 hm.2.1 hv8 hA hd1 (by omega)) sh_145 pl_145 (by decide) rfl rfl rfl (Nat.le_of_ble_eq_true rfl) (by show _ ≤ d; omega) ⟨Nat.le_refl _, Nat.le_refl _⟩ (fun e1 μ' hc => ?_)
    obtain ⟨rfl, rfl⟩ := hc
    refine gg_istore_n (ls' := [(3, .int (iv ((P.length + 1 + A.length : Nat) : Int))), (2, .int (iv ((P.length + 1 : Nat) : Int))), (0, .ref (gad (gSS ad) 145)), (1, .int (iv (P.length : Int)))]) dX10_foldPick_19 rfl (by decide) rfl ?_
    refine gg_aload_n dX10_foldPick_20 2 rfl ?_
    refine gg_iload_n dX10_foldPick_21 0 rfl ?_
    refine gg_callVi (own := RX10) (yt := gm_X10_madeEnd) rfl gl_RX10_106 gk_X10_madeEnd gr_X10_madeEnd dX10_foldPick_22 (c_X10_madeEnd (d := d - 1) (B := (P ++ ((6, 0) :: (A ++ (C ++ E))))) (tl := C) (r := E) (fr := P.length + 1 + A.length) hm.2.2.2 hm.2.1 hv8 hC (gdrop hd1) (by omega)) sh_145 pl_145 (by decide) rfl rfl rfl (Nat.le_of_ble_eq_true rfl) (by show _ ≤ d; omega) ⟨Nat.le_refl _, Nat.le_refl _⟩ (fun e2 μ' hc => ?_)
    obtain ⟨rfl, rfl⟩ := hc
    refine gg_istore (ls' := [(4, .int (iv ((P.length + 1 + A.length + C.length : Nat) : Int))), (3, .int (iv ((P.length + 1 + A.length : Nat) : Int))), (2, .int (iv ((P.length + 1 : Nat) : Int))), (0, .ref (gad (gSS ad) 145)), (1, .int (iv (P.length : Int)))]) dX10_foldPick_25 (by decide) rfl ?_
    refine gg_aload_n dX10_foldPick_27 3 rfl ?_
    refine gg_getR (k' := 188) rfl gf_RX10_32 dX10_foldPick_28 sh_145 pl_145 (by decide) (by decide) rr_145_8 ?_
    refine gg_iload_n dX10_foldPick_31 2 rfl ?_
    refine gg_laldj (P.length + 1) dX10_foldPick_32 sh_188 pl_188 (by decide) rfl (by omega) ?_
    refine gg_toL (b := (gHd A).2) (hm.2.2.2 _ _ (gget_hd hA1)).2 ?_
    refine gg_lconstv (x := 0) dX10_foldPick_33 rfl ?_
    refine gg_lcmp_ne (tgt := 48) dX10_foldPick_34 dX10_foldPick_35 (by decide) (fun hz => ?_) (fun hz => ?_)
    · refine gg_aload_n dX10_foldPick_48 3 rfl ?_
      refine gg_iload dX10_foldPick_49 0 rfl ?_
      refine gg_putI rfl gf_RX10_90 dX10_foldPick_51 sh_145 pl_145 (by decide) (by decide) (by decide) (gfit_i _) ?_
      refine gg_aload_n dX10_foldPick_54 3 rfl ?_
      refine gg_iload_n dX10_foldPick_55 4 rfl ?_
      refine gg_iload_n dX10_foldPick_56 1 rfl ?_
      refine gg_callVv (own := RX10) (yt := gm_X10_takeOut) rfl gl_RX10_199 gk_X10_takeOut gr_X10_takeOut dX10_foldPick_57 (c_X10_takeOut (d := d - 1) (P := P) (M := (6, 0) :: A) (R := C) (gMd_pre (P := P ++ ((6, 0) :: (A ++ C))) (R := E) (by simpa using hm) (by simp only [List.length_append, List.length_cons]; omega)) rfl (by simp only [List.length_cons]; omega)) sh_145 pl_145 (by decide) rfl rfl rfl (Nat.le_of_ble_eq_true rfl) (by show _ ≤ d; omega) ⟨Nat.le_refl _, Nat.le_refl _⟩ (fun μ' hc => ?_)
      obtain ⟨I1, J1, rfl, m1, fa1, fb1, fc1⟩ := hc
      refine gg_vretv dX10_foldPick_60 rfl ⟨rfl, rfl⟩ ?_
      refine ⟨I1, J1, rfl, ?_, fun p a b => (fa1 p a b).trans (gu_other a), fun q a b => (fb1 q a b).trans (gu_n (by omega)), fc1⟩
      rw [(show gfPic A C E = C by unfold gfPic; repeat' split; all_goals first | rfl | (exfalso; simp_all; done) | simp_all)]
      exact m1
    · refine gg_aload_n dX10_foldPick_38 3 rfl ?_
      refine gg_iload_n dX10_foldPick_39 4 rfl ?_
      refine gg_iload dX10_foldPick_40 0 rfl ?_
      refine gg_callVv (own := RX10) (yt := gm_X10_takeOut) rfl gl_RX10_199 gk_X10_takeOut gr_X10_takeOut dX10_foldPick_42 (c_X10_takeOut (d := d - 1) (P := P) (M := (6, 0) :: (A ++ C)) (R := E) (by simpa using hm) rfl (by simp only [List.length_cons, List.length_append]; omega)) sh_145 pl_145 (by decide) rfl rfl rfl (Nat.le_of_ble_eq_true rfl) (by show _ ≤ d; omega) ⟨Nat.le_refl _, Nat.le_refl _⟩ (fun μ' hc => ?_)
      obtain ⟨I1, J1, rfl, m1, fa1, fb1, fc1⟩ := hc
      refine gg_goto (tgt := 60) dX10_foldPick_45 (by decide) ?_
      refine gg_vretv dX10_foldPick_60 rfl ⟨rfl, rfl⟩ ?_
      refine ⟨I1, J1, rfl, ?_, fa1, fb1, fc1⟩
      rw [(show gfPic A C E = E by unfold gfPic; repeat' split; all_goals first | rfl | (exfalso; simp_all; done) | simp_all)]
      exact m1
  · have hA0 : ¬ (gHd A).1 = 0 := by omega
    clear hb
    refine gg_vretv dX10_foldPick_13 rfl ⟨rfl, rfl⟩ ?_
    refine ⟨I, J, rfl, ?_, fun _ _ _ => rfl, fun _ _ _ => rfl, fun _ _ => rfl⟩
    rw [(show gfPic A C E = (6, 0) :: (A ++ (C ++ E)) by unfold gfPic; repeat' split; all_goals first | rfl | (exfalso; simp_all; done) | simp_all)]
    exact hm

