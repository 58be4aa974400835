/-! the reference: what is made -/
def gMe (I : Nat → Nat → Int) (J : Nat → Nat → Int64) (B : gLn) : Prop := ∀ q c, B[q]? = some c → I 187 q = ((c.1 : Nat) : Int) ∧ J 188 q = c.2
def gMd (I : Nat → Nat → Int) (J : Nat → Nat → Int64) (B : gLn) : Prop := I 145 5 = (B.length : Int) ∧ B.length ≤ 200 ∧ I 145 6 = 0 ∧ gMe I J B
/-- what would be made, were there room -/
def gMx (I : Nat → Nat → Int) (J : Nat → Nat → Int64) (B : gLn) : Prop := gMd I J B ∨ (200 < B.length ∧ I 145 6 = 1 ∧ 0 ≤ I 145 5 ∧ I 145 5 ≤ 200)
theorem gMx_d {I : Nat → Nat → Int} {J : Nat → Nat → Int64} {B : gLn} (h : gMx I J B) (hB : B.length ≤ 200) : gMd I J B := by
  rcases h with h | h
  · exact h
  · omega
theorem gMe_push {I : Nat → Nat → Int} {J : Nat → Nat → Int64} {B : gLn} {k : Nat} {x : Int64} {z : Int} (h : gMe I J B) : gMe (gu (gu I 187 B.length (k : Int)) 145 5 z) (gv J 188 B.length x) (B ++ [(k, x)]) := by
  intro q c hc
  by_cases hq : q < B.length
  · rw [List.getElem?_append_left hq] at hc
    rw [gu_n (by omega), gu_n (by omega), gv_n (by omega)]
    exact h q c hc
  · have h1 := gget_lt hc
    simp only [List.length_append, List.length_cons, List.length_nil] at h1
    have h2 : q = B.length := by omega
    subst h2
    simp at hc
    subst hc
    exact ⟨(gu_n (by omega)).trans gu_s, gv_s⟩
theorem gMe_pre {I : Nat → Nat → Int} {J : Nat → Nat → Int64} {P R : gLn} (h : gMe I J (P ++ R)) : gMe I J P := fun q c hc => h q c (gget_app hc)
theorem gMe_I {I I' : Nat → Nat → Int} {J : Nat → Nat → Int64} {B : gLn} (h : gMe I J B) (e : I' 187 = I 187) : gMe I' J B := fun q c hc => by rw [e]; exact h q c hc
set_option maxRecDepth 10000 in
theorem c_X10_begin {l : Launch} {Γ : gC} {ad : Nat → Nat} {I : Nat → Nat → Int} {J : Nat → Nat → Int64} {d : Nat}  : gKv l Γ gm_X10_begin d [.ref (gad (gSS ad) 145)] (gSS ad, I, J) (fun μ => ∃ I1, μ = (gSS ad, I1, J) ∧ gMd I1 J [] ∧ (∀ p, p ≠ 145 → I1 p = I p) ∧ (∀ q, q ≠ 5 → q ≠ 6 → I1 145 q = I 145 q)) := by
  refine gKv_of gk_X10_begin.1 (Nat.le_of_ble_eq_true rfl) ?_
  show gG l Γ gm_X10_begin (d, 0, 0, 0, 0) 0 [(0, .ref (gad (gSS ad) 145))] [] _ _
  refine gg_aload_n dX10_begin_0 0 rfl ?_
  refine gg_iconst dX10_begin_1 ?_
  refine gg_putI rfl gf_RX10_90 dX10_begin_2 sh_145 pl_145 (by decide) (by decide) (by decide) (gfit_i _) ?_
  refine gg_aload_n dX10_begin_5 0 rfl ?_
  refine gg_iconst dX10_begin_6 ?_
  refine gg_putI rfl gf_RX10_94 dX10_begin_7 sh_145 pl_145 (by decide) (by decide) (by decide) gfit_0 ?_
  refine gg_vretv dX10_begin_10 rfl ⟨rfl, rfl⟩ ?_
  exact ⟨_, rfl, ⟨(gu_n (by omega)).trans gu_s, by decide, gu_s, fun q c hc => by simp at hc⟩, fun p h => (gu_other h).trans (gu_other h), fun q h1 h2 => (gu_n (by omega)).trans (gu_n (by omega))⟩

set_option maxRecDepth 10000 in
theorem c_X10_put_a {l : Launch} {Γ : gC} {ad : Nat → Nat} {I : Nat → Nat → Int} {J : Nat → Nat → Int64} {d : Nat} {B : gLn} {k : Nat} {x : Int64} (hm : gMd I J B) (hB : B.length < 200) : gKv l Γ gm_X10_put d [.ref (gad (gSS ad) 145), .int (iv (k : Int)), .long x] (gSS ad, I, J) (fun μ => ∃ I1 J1, μ = (gSS ad, I1, J1) ∧ gMx I1 J1 (B ++ [(k, x)]) ∧ (∀ p, p ≠ 145 → p ≠ 187 → I1 p = I p) ∧ (∀ q, q ≠ 5 → q ≠ 6 → I1 145 q = I 145 q) ∧ (∀ p, p ≠ 188 → J1 p = J p)) := by
  refine gKv_of gk_X10_put.1 (Nat.le_of_ble_eq_true rfl) ?_
  show gG l Γ gm_X10_put (d, 0, 0, 0, 0) 0 [(0, .ref (gad (gSS ad) 145)), (1, .int (iv (k : Int))), (2, .long x)] [] _ _
  refine gg_aload_n dX10_put_0 0 rfl ?_
  refine gg_getI rfl gf_RX10_90 dX10_put_1 sh_145 pl_145 (by decide) (by decide) ?_
  refine gg_toI (b := (B.length : Int)) hm.1 ?_
  refine gg_sipush dX10_put_4 (by decide) ?_
  refine gg_icmp_ne_t (tgt := 15) dX10_put_7 (by decide) (by omega) (by omega) ?_
  refine gg_aload_n dX10_put_15 0 rfl ?_
  refine gg_getI rfl gf_RX10_94 dX10_put_16 sh_145 pl_145 (by decide) (by decide) ?_
  refine gg_toI (b := 0) hm.2.2.1 ?_
  refine gg_if_eq_t (tgt := 23) dX10_put_19 (by decide) (by decide) (by decide) ?_
  refine gg_aload_n dX10_put_23 0 rfl ?_
  refine gg_getR (k' := 187) rfl gf_RX10_29 dX10_put_24 sh_145 pl_145 (by decide) (by decide) rr_145_7 ?_
  refine gg_aload_n dX10_put_27 0 rfl ?_
  refine gg_getI rfl gf_RX10_90 dX10_put_28 sh_145 pl_145 (by decide) (by decide) ?_
  refine gg_toI (b := (B.length : Int)) hm.1 ?_
  refine gg_iload_n dX10_put_31 1 rfl ?_
  refine gg_iastj ((B.length : Int)).toNat dX10_put_32 sh_187 pl_187 (by decide) (by omega) (by omega) ?_
  refine gg_aload_n dX10_put_33 0 rfl ?_
  refine gg_getR (k' := 188) rfl gf_RX10_32 dX10_put_34 sh_145 pl_145 (by decide) (by decide) rr_145_8 ?_
  refine gg_aload_n dX10_put_37 0 rfl ?_
  refine gg_getI rfl gf_RX10_90 dX10_put_38 sh_145 pl_145 (by decide) (by decide) ?_
  refine gg_toI (b := (B.length : Int)) ((gu_n (by omega)).trans hm.1) ?_
  refine gg_lload_n dX10_put_41 2 rfl ?_
  refine gg_lastj ((B.length : Int)).toNat dX10_put_42 sh_188 pl_188 (by decide) (by omega) (by omega) ?_
  refine gg_aload_n dX10_put_43 0 rfl ?_
  refine gg_dup dX10_put_44 rfl ?_
  refine gg_getI rfl gf_RX10_90 dX10_put_45 sh_145 pl_145 (by decide) (by decide) ?_
  refine gg_toI (b := (B.length : Int)) ((gu_n (by omega)).trans hm.1) ?_
  refine gg_iconst dX10_put_48 ?_
  refine gg_iadd dX10_put_49 ?_
  refine gg_putI rfl gf_RX10_90 dX10_put_50 sh_145 pl_145 (by decide) (by decide) (by decide) (gfit_i _) ?_
  refine gg_vretv dX10_put_53 rfl ⟨rfl, rfl⟩ ?_
  exact ⟨_, _, rfl, Or.inl ⟨gu_s.trans (by simp), by simp; omega, (gu_n (by omega)).trans ((gu_n (by omega)).trans hm.2.2.1), gMe_push hm.2.2.2⟩, fun p h1 h2 => (gu_other h1).trans (gu_other h2), fun q h1 h2 => (gu_n (by omega)).trans (gu_n (by omega)), fun p h => gv_other h⟩

set_option maxRecDepth 10000 in
theorem c_X10_put_b {l : Launch} {Γ : gC} {ad : Nat → Nat} {I : Nat → Nat → Int} {J : Nat → Nat → Int64} {d : Nat} {B : gLn} {k : Nat} {x : Int64} (hm : gMd I J B) (hB : B.length = 200) : gKv l Γ gm_X10_put d [.ref (gad (gSS ad) 145), .int (iv (k : Int)), .long x] (gSS ad, I, J) (fun μ => ∃ I1 J1, μ = (gSS ad, I1, J1) ∧ gMx I1 J1 (B ++ [(k, x)]) ∧ (∀ p, p ≠ 145 → p ≠ 187 → I1 p = I p) ∧ (∀ q, q ≠ 5 → q ≠ 6 → I1 145 q = I 145 q) ∧ (∀ p, p ≠ 188 → J1 p = J p)) := by
  refine gKv_of gk_X10_put.1 (Nat.le_of_ble_eq_true rfl) ?_
  show gG l Γ gm_X10_put (d, 0, 0, 0, 0) 0 [(0, .ref (gad (gSS ad) 145)), (1, .int (iv (k : Int))), (2, .long x)] [] _ _
  refine gg_aload_n dX10_put_0 0 rfl ?_
  refine gg_getI rfl gf_RX10_90 dX10_put_1 sh_145 pl_145 (by decide) (by decide) ?_
  refine gg_toI (b := (B.length : Int)) hm.1 ?_
  refine gg_sipush dX10_put_4 (by decide) ?_
  refine gg_icmp_ne_f (tgt := 15) dX10_put_7 (by decide) (by omega) (by omega) ?_
  refine gg_aload_n dX10_put_10 0 rfl ?_
  refine gg_iconst dX10_put_11 ?_
  refine gg_putI rfl gf_RX10_94 dX10_put_12 sh_145 pl_145 (by decide) (by decide) (by decide) gfit_1 ?_
  refine gg_aload_n dX10_put_15 0 rfl ?_
  refine gg_getI rfl gf_RX10_94 dX10_put_16 sh_145 pl_145 (by decide) (by decide) ?_
  refine gg_toI (b := 1) gu_s ?_
  refine gg_if_eq_f (tgt := 23) dX10_put_19 (by decide) (by decide) (by decide) ?_
  refine gg_vretv dX10_put_22 rfl ⟨rfl, rfl⟩ ?_
  exact ⟨_, _, rfl, Or.inr ⟨by simp; omega, gu_s, by rw [gu_n (by omega), hm.1]; omega, by rw [gu_n (by omega), hm.1]; omega⟩, fun p h1 h2 => gu_other h1, fun q h1 h2 => gu_n (by omega), fun p h => rfl⟩

set_option maxRecDepth 10000 in
theorem c_X10_put_c {l : Launch} {Γ : gC} {ad : Nat → Nat} {I : Nat → Nat → Int} {J : Nat → Nat → Int64} {d : Nat} {B : gLn} {k : Nat} {x : Int64} (hB : 200 < B.length) (h6 : I 145 6 = 1) (h5 : 0 ≤ I 145 5 ∧ I 145 5 ≤ 200) : gKv l Γ gm_X10_put d [.ref (gad (gSS ad) 145), .int (iv (k : Int)), .long x] (gSS ad, I, J) (fun μ => ∃ I1 J1, μ = (gSS ad, I1, J1) ∧ gMx I1 J1 (B ++ [(k, x)]) ∧ (∀ p, p ≠ 145 → p ≠ 187 → I1 p = I p) ∧ (∀ q, q ≠ 5 → q ≠ 6 → I1 145 q = I 145 q) ∧ (∀ p, p ≠ 188 → J1 p = J p)) := by
  refine gKv_of gk_X10_put.1 (Nat.le_of_ble_eq_true rfl) ?_
  show gG l Γ gm_X10_put (d, 0, 0, 0, 0) 0 [(0, .ref (gad (gSS ad) 145)), (1, .int (iv (k : Int))), (2, .long x)] [] _ _
  refine gg_aload_n dX10_put_0 0 rfl ?_
  refine gg_getI rfl gf_RX10_90 dX10_put_1 sh_145 pl_145 (by decide) (by decide) ?_
  obtain ⟨mm, hmm⟩ : ∃ mm : Int, I 145 5 = mm := ⟨_, rfl⟩
  refine gg_toI (b := mm) hmm ?_
  refine gg_sipush dX10_put_4 (by decide) ?_
  refine gg_icmp_ne (tgt := 15) dX10_put_7 (by decide) (by omega) (fun hb => ?_) (fun hb => ?_)
  · refine gg_aload_n dX10_put_15 0 rfl ?_
    refine gg_getI rfl gf_RX10_94 dX10_put_16 sh_145 pl_145 (by decide) (by decide) ?_
    refine gg_toI (b := 1) h6 ?_
    refine gg_if_eq_f (tgt := 23) dX10_put_19 (by decide) (by decide) (by decide) ?_
    refine gg_vretv dX10_put_22 rfl ⟨rfl, rfl⟩ ?_
    exact ⟨_, _, rfl, Or.inr ⟨by simp; omega, h6, h5.1, h5.2⟩, fun p h1 h2 => rfl, fun q h1 h2 => rfl, fun p h => rfl⟩
  · refine gg_aload_n dX10_put_10 0 rfl ?_
    refine gg_iconst dX10_put_11 ?_
    refine gg_putI rfl gf_RX10_94 dX10_put_12 sh_145 pl_145 (by decide) (by decide) (by decide) gfit_1 ?_
    refine gg_aload_n dX10_put_15 0 rfl ?_
    refine gg_getI rfl gf_RX10_94 dX10_put_16 sh_145 pl_145 (by decide) (by decide) ?_
    refine gg_toI (b := 1) gu_s ?_
    refine gg_if_eq_f (tgt := 23) dX10_put_19 (by decide) (by decide) (by decide) ?_
    refine gg_vretv dX10_put_22 rfl ⟨rfl, rfl⟩ ?_
    exact ⟨_, _, rfl, Or.inr ⟨by simp; omega, gu_s, by rw [gu_n (by omega)]; exact h5.1, by rw [gu_n (by omega)]; exact h5.2⟩, fun p h1 h2 => gu_other h1, fun q h1 h2 => gu_n (by omega), fun p h => rfl⟩

theorem c_X10_put {l : Launch} {Γ : gC} {ad : Nat → Nat} {I : Nat → Nat → Int} {J : Nat → Nat → Int64} {d : Nat} {B : gLn} {k : Nat} {x : Int64} (hm : gMx I J B) : gKv l Γ gm_X10_put d [.ref (gad (gSS ad) 145), .int (iv (k : Int)), .long x] (gSS ad, I, J) (fun μ => ∃ I1 J1, μ = (gSS ad, I1, J1) ∧ gMx I1 J1 (B ++ [(k, x)]) ∧ (∀ p, p ≠ 145 → p ≠ 187 → I1 p = I p) ∧ (∀ q, q ≠ 5 → q ≠ 6 → I1 145 q = I 145 q) ∧ (∀ p, p ≠ 188 → J1 p = J p)) := by
  rcases hm with hm | ⟨hB, h6, h5, h55⟩
  · by_cases hB : B.length < 200
    · exact c_X10_put_a hm hB
    · exact c_X10_put_b hm (by have := hm.2.1; omega)
  · exact c_X10_put_c hB h6 ⟨h5, h55⟩
set_option maxRecDepth 10000 in
theorem w_X10_madeEnd {l : Launch} {Γ : gC} {ad : Nat → Nat} {I : Nat → Nat → Int} {J : Nat → Nat → Int64} {d : Nat} {B r : gLn} {fr e0 : Nat} (hm : gMe I J B) (hB : B.length ≤ 200) (hv : ∀ c, c ∈ B → c.1 < 8) (hd : 1 ≤ d) : ∀ (m : Nat) (tl : gLn) (w k : Nat), tl.length < m → (gFo tl w) → (B.drop k = tl ++ r) → (k + tl.length = e0) → gG l Γ gm_X10_madeEnd (d, 0, 0, 0, 0) 4 [(2, .int (iv (w : Int))), (3, .int (iv (k : Int))), (0, .ref (gad (gSS ad) 145)), (1, .int (iv (fr : Int)))] [] (gSS ad, I, J) (gDi (fun e μ => μ = (gSS ad, I, J) ∧ e = (e0 : Int))) := by
  intro m
  induction m with
  | zero => intros; omega
  | succ m ih =>
    intro tl w k hm_ ht hdr he
    have hw4 : w ≤ 1000000 := by
      have hgen : ∀ (l : gLn) (c : Nat), gFo l c → c ≤ l.length := by
        intro l
        induction l with
        | nil => intro c h; exact Nat.le_of_eq h
        | cons y l ih2 =>
          intro c h
          have := ih2 _ h.2
          have := h.1
          simp only [List.length_cons]
          omega
      have h1 := hgen tl w ht
      have h2 := congrArg List.length hdr
      simp only [List.length_drop, List.length_append] at h2
      omega
    refine gg_iload_n dX10_madeEnd_4 0 rfl ?_
    refine gg_if_le (tgt := 28) dX10_madeEnd_5 (by decide) (by omega) (fun hb => ?_) (fun hb => ?_)
    · have hw0 : w = 0 := by omega
      have htn : tl = [] := by
        cases tl with
        | nil => rfl
        | cons x t => exact absurd ht.1 (by omega)
      have hk0 : k = e0 := by rw [htn] at he; simpa using he
      refine gg_iload_n dX10_madeEnd_28 1 rfl ?_
      refine gg_ireti dX10_madeEnd_29 rfl ⟨rfl, rfl⟩ ?_
      exact ⟨rfl, by rw [hk0]⟩
    · obtain ⟨x, t, rfl⟩ : ∃ x t, tl = x :: t := by
        cases tl with
        | nil => exact absurd ht (by show ¬ w = 0; omega)
        | cons x t => exact ⟨x, t, rfl⟩
      obtain ⟨hx, hkl⟩ := gRow_at (r := t ++ r) hdr
      have hxk : B[k]? = some x := by
        rw [List.getD_eq_getElem?_getD, List.getElem?_eq_getElem hkl] at hx
        rw [List.getElem?_eq_getElem hkl]
        exact congrArg some hx
      have hx8 : x.1 < 8 := hv x (List.mem_of_getElem? hxk)
      have ht1 := ht.1
      have hg3 := gPar3 hx8
      refine gg_iload_n dX10_madeEnd_8 0 rfl ?_
      refine gg_aload_n dX10_madeEnd_9 2 rfl ?_
      refine gg_getR (k' := 187) rfl gf_RX10_29 dX10_madeEnd_10 sh_145 pl_145 (by decide) (by decide) rr_145_7 ?_
      refine gg_iload_n dX10_madeEnd_13 1 rfl ?_
      refine gg_ialdj k dX10_madeEnd_14 sh_187 pl_187 (by decide) rfl (by omega) ?_
      refine gg_toI (b := ((x.1 : Nat) : Int)) (hm k x hxk).1 ?_
      refine gg_callSi (own := RX10) (yt := gm_X10_parts) rfl gl_RX10_98 gk_X10_parts gr_X10_parts dX10_madeEnd_15 (c_X10_parts (d := d - 1) hx8) rfl rfl (Nat.le_of_ble_eq_true rfl) (by show _ ≤ d; omega) ⟨Nat.le_refl _, Nat.le_refl _⟩ (fun e1 μ' hc => ?_)
      obtain ⟨rfl, rfl⟩ := hc
      refine gg_iconst dX10_madeEnd_18 ?_
      refine gg_isub dX10_madeEnd_19 ?_
      refine gg_iadd dX10_madeEnd_20 ?_
      refine gg_toI (b := ((w - 1 + gPar x.1 : Nat) : Int)) (by omega) ?_
      refine gg_istore_n (ls' := [(2, .int (iv ((w - 1 + gPar x.1 : Nat) : Int))), (3, .int (iv (k : Int))), (0, .ref (gad (gSS ad) 145)), (1, .int (iv (fr : Int)))]) dX10_madeEnd_21 rfl (by decide) rfl ?_
      refine gg_iincv (ls' := [(3, .int (iv ((k + 1 : Nat) : Int))), (2, .int (iv ((w - 1 + gPar x.1 : Nat) : Int))), (0, .ref (gad (gSS ad) 145)), (1, .int (iv (fr : Int)))]) dX10_madeEnd_22 1 rfl (by omega) (by decide) rfl ?_
      refine gg_goto (tgt := 4) dX10_madeEnd_25 (by decide) ?_
      refine gg_sub [1, 0, 2, 3] rfl ?_
      exact ih t _ (k + 1) (by simp only [List.length_cons] at hm_; omega) ht.2 (gdrop (a := [x]) (b := t ++ r) hdr) (by rw [← he]; simp only [List.length_cons]; omega)

set_option maxRecDepth 10000 in
theorem c_X10_madeEnd {l : Launch} {Γ : gC} {ad : Nat → Nat} {I : Nat → Nat → Int} {J : Nat → Nat → Int64} {d : Nat} {B tl r : gLn} {fr : Nat} (hm : gMe I J B) (hB : B.length ≤ 200) (hv : ∀ c, c ∈ B → c.1 < 8) (ht : gFo tl 1) (hdr : B.drop fr = tl ++ r) (hd : 1 ≤ d) : gKi l Γ gm_X10_madeEnd d [.ref (gad (gSS ad) 145), .int (iv (fr : Int))] (gSS ad, I, J) (fun e μ => μ = (gSS ad, I, J) ∧ e = ((fr + tl.length : Nat) : Int)) := by
  refine gKi_of gk_X10_madeEnd.1 (Nat.le_of_ble_eq_true rfl) ?_
  show gG l Γ gm_X10_madeEnd (d, 0, 0, 0, 0) 0 [(0, .ref (gad (gSS ad) 145)), (1, .int (iv (fr : Int)))] [] _ _
  refine gg_iconst dX10_madeEnd_0 ?_
  refine gg_istore_n (ls' := [(2, .int (iv 1)), (0, .ref (gad (gSS ad) 145)), (1, .int (iv (fr : Int)))]) dX10_madeEnd_1 rfl (by decide) rfl ?_
  refine gg_iload_n dX10_madeEnd_2 2 rfl ?_
  refine gg_istore_n (ls' := [(3, .int (iv (fr : Int))), (2, .int (iv 1)), (0, .ref (gad (gSS ad) 145)), (1, .int (iv (fr : Int)))]) dX10_madeEnd_3 rfl (by decide) rfl ?_
  refine gg_sub [1, 0, 2, 3] rfl ?_
  exact w_X10_madeEnd hm hB hv hd (tl.length + 1) tl 1 fr (by omega) ht hdr rfl

theorem gget_skip {P M R : gLn} {k : Nat} (h1 : P.length + M.length ≤ k) : (P ++ (M ++ R))[k]? = (P ++ R)[k - M.length]? := by
  rw [List.getElem?_append_right (by omega), List.getElem?_append_right (by omega), List.getElem?_append_right (by omega)]
  congr 1
  omega
set_option maxRecDepth 10000 in
theorem w_X10_takeOut {l : Launch} {Γ : gC} {ad : Nat → Nat} {I0 : Nat → Nat → Int} {J0 : Nat → Nat → Int64} {d : Nat} {P M R : gLn} {fr to : Nat} (hmd : gMd I0 J0 (P ++ (M ++ R))) (hfr : fr = P.length) (hto : to = P.length + M.length) : ∀ (m : Nat) (k : Nat) (I : Nat → Nat → Int) (J : Nat → Nat → Int64), (P ++ (M ++ R)).length - k < m → (to ≤ k) → (k ≤ (P ++ (M ++ R)).length) → (∀ q c, (P ++ R)[q]? = some c → q < fr + (k - to) → I 187 q = ((c.1 : Nat) : Int) ∧ J 188 q = c.2) → (∀ q c, (P ++ (M ++ R))[q]? = some c → k ≤ q → I 187 q = ((c.1 : Nat) : Int) ∧ J 188 q = c.2) → (I 145 = I0 145) → (∀ p, p ≠ 145 → p ≠ 187 → I p = I0 p) → (∀ p, p ≠ 188 → J p = J0 p) → gG l Γ gm_X10_takeOut (d, 0, 0, 0, 0) 2 [(3, .int (iv (k : Int))), (0, .ref (gad (gSS ad) 145)), (1, .int (iv (fr : Int))), (2, .int (iv (to : Int)))] [] (gSS ad, I, J) (gDv (fun μ => ∃ I1 J1, μ = (gSS ad, I1, J1) ∧ gMd I1 J1 (P ++ R) ∧ (∀ p, p ≠ 145 → p ≠ 187 → I1 p = I0 p) ∧ (∀ q, q ≠ 5 → q ≠ 6 → I1 145 q = I0 145 q) ∧ (∀ p, p ≠ 188 → J1 p = J0 p))) := by
  intro m
  induction m with
  | zero => intros; omega
  | succ m ih =>
    intro k I J hm hk1 hk2 hn ho h145 hI hJ
    have hlen := hmd.2.1
    have hlen3 : (P ++ (M ++ R)).length = P.length + M.length + R.length := by simp only [List.length_append]; omega
    refine gg_iload_n dX10_takeOut_2 0 rfl ?_
    refine gg_aload_n dX10_takeOut_3 1 rfl ?_
    refine gg_getI rfl gf_RX10_90 dX10_takeOut_4 sh_145 pl_145 (by decide) (by decide) ?_
    refine gg_toI (b := ((P ++ (M ++ R)).length : Int)) (by rw [h145]; exact hmd.1) ?_
    refine gg_icmp_ge (tgt := 48) dX10_takeOut_7 (by decide) (by omega) (fun hb => ?_) (fun hb => ?_)
    · have hke : k = (P ++ (M ++ R)).length := by omega
      refine gg_aload_n dX10_takeOut_48 1 rfl ?_
      refine gg_dup dX10_takeOut_49 rfl ?_
      refine gg_getI rfl gf_RX10_90 dX10_takeOut_50 sh_145 pl_145 (by decide) (by decide) ?_
      refine gg_toI (b := ((P ++ (M ++ R)).length : Int)) (by rw [h145]; exact hmd.1) ?_
      refine gg_iload_n dX10_takeOut_53 3 rfl ?_
      refine gg_iload_n dX10_takeOut_54 2 rfl ?_
      refine gg_isub dX10_takeOut_55 ?_
      refine gg_isub dX10_takeOut_56 ?_
      refine gg_toI (b := ((P ++ R).length : Int)) (by simp only [List.length_append] at hlen ⊢; omega) ?_
      refine gg_putI rfl gf_RX10_90 dX10_takeOut_57 sh_145 pl_145 (by decide) (by decide) (by decide) (gfit_i _) ?_
      refine gg_vretv dX10_takeOut_60 rfl ⟨rfl, rfl⟩ ?_
      have hlen2 : (P ++ R).length ≤ 200 := by have := hmd.2.1; simp only [List.length_append] at this ⊢; omega
      refine ⟨_, J, rfl, ⟨gu_s, hlen2, by rw [gu_n (by omega), h145]; exact hmd.2.2.1, fun q c hc => ?_⟩, fun p h1 h2 => (gu_other h1).trans (hI p h1 h2), fun q h1 h2 => (gu_n (by omega)).trans (by rw [h145]), hJ⟩
      rw [gu_n (by omega)]
      refine hn q c hc ?_
      have := gget_lt hc
      simp only [List.length_append] at this hke
      omega
    · have hkl : k < (P ++ (M ++ R)).length := by omega
      obtain ⟨c, hc⟩ : ∃ c, (P ++ (M ++ R))[k]? = some c := ⟨_, List.getElem?_eq_getElem hkl⟩
      have hck := ho k c hc (Nat.le_refl _)
      refine gg_aload_n dX10_takeOut_10 1 rfl ?_
      refine gg_getR (k' := 187) rfl gf_RX10_29 dX10_takeOut_11 sh_145 pl_145 (by decide) (by decide) rr_145_7 ?_
      refine gg_iload_n dX10_takeOut_14 2 rfl ?_
      refine gg_iload_n dX10_takeOut_15 0 rfl ?_
      refine gg_iadd dX10_takeOut_16 ?_
      refine gg_iload_n dX10_takeOut_17 3 rfl ?_
      refine gg_isub dX10_takeOut_18 ?_
      refine gg_aload_n dX10_takeOut_19 1 rfl ?_
      refine gg_getR (k' := 187) rfl gf_RX10_29 dX10_takeOut_20 sh_145 pl_145 (by decide) (by decide) rr_145_7 ?_
      refine gg_iload_n dX10_takeOut_23 0 rfl ?_
      refine gg_ialdj k dX10_takeOut_24 sh_187 pl_187 (by decide) rfl (by omega) ?_
      refine gg_toI (b := ((c.1 : Nat) : Int)) hck.1 ?_
      refine gg_iastj (fr + k - to) dX10_takeOut_25 sh_187 pl_187 (by decide) (by omega) (by omega) ?_
      refine gg_aload_n dX10_takeOut_26 1 rfl ?_
      refine gg_getR (k' := 188) rfl gf_RX10_32 dX10_takeOut_27 sh_145 pl_145 (by decide) (by decide) rr_145_8 ?_
      refine gg_iload_n dX10_takeOut_30 2 rfl ?_
      refine gg_iload_n dX10_takeOut_31 0 rfl ?_
      refine gg_iadd dX10_takeOut_32 ?_
      refine gg_iload_n dX10_takeOut_33 3 rfl ?_
      refine gg_isub dX10_takeOut_34 ?_
      refine gg_aload_n dX10_takeOut_35 1 rfl ?_
      refine gg_getR (k' := 188) rfl gf_RX10_32 dX10_takeOut_36 sh_145 pl_145 (by decide) (by decide) rr_145_8 ?_
      refine gg_iload_n dX10_takeOut_39 0 rfl ?_
      refine gg_laldj k dX10_takeOut_40 sh_188 pl_188 (by decide) rfl (by omega) ?_
      refine gg_toL (b := c.2) hck.2 ?_
      refine gg_lastj (fr + k - to) dX10_takeOut_41 sh_188 pl_188 (by decide) (by omega) (by omega) ?_
      refine gg_memI (fun I2 hI2 => ?_)
      refine gg_memJ (fun J2 hJ2 => ?_)
      refine gg_iincv (ls' := [(3, .int (iv ((k + 1 : Nat) : Int))), (0, .ref (gad (gSS ad) 145)), (1, .int (iv (fr : Int))), (2, .int (iv (to : Int)))]) dX10_takeOut_42 0 rfl (by omega) (by decide) rfl ?_
      refine gg_goto (tgt := 2) dX10_takeOut_45 (by decide) ?_
      refine ih (k + 1) I2 J2 (by omega) (by omega) (by omega) (fun q x hx hq => ?_) (fun q x hx hq => ?_) (by rw [hI2, gu_other (by omega)]; exact h145) (fun p h1 h2 => by rw [hI2, gu_other h2]; exact hI p h1 h2) (fun p h => by rw [hJ2, gv_other h]; exact hJ p h)
      · rw [hI2, hJ2]
        by_cases hqe : q = fr + k - to
        · subst hqe
          rw [gu_s, gv_s]
          rw [gget_skip (by omega), show k - M.length = fr + k - to by omega] at hc
          rw [hx] at hc
          cases hc
          exact ⟨rfl, rfl⟩
        · rw [gu_n (by omega), gv_n (by omega)]
          exact hn q x hx (by omega)
      · rw [hI2, hJ2, gu_n (by omega), gv_n (by omega)]
        exact ho q x hx (by omega)

set_option maxRecDepth 10000 in
theorem c_X10_takeOut {l : Launch} {Γ : gC} {ad : Nat → Nat} {I : Nat → Nat → Int} {J : Nat → Nat → Int64} {d : Nat} {P M R : gLn} {fr to : Nat} (hmd : gMd I J (P ++ (M ++ R))) (hfr : fr = P.length) (hto : to = P.length + M.length) : gKv l Γ gm_X10_takeOut d [.ref (gad (gSS ad) 145), .int (iv (fr : Int)), .int (iv (to : Int))] (gSS ad, I, J) (fun μ => ∃ I1 J1, μ = (gSS ad, I1, J1) ∧ gMd I1 J1 (P ++ R) ∧ (∀ p, p ≠ 145 → p ≠ 187 → I1 p = I p) ∧ (∀ q, q ≠ 5 → q ≠ 6 → I1 145 q = I 145 q) ∧ (∀ p, p ≠ 188 → J1 p = J p)) := by
  refine gKv_of gk_X10_takeOut.1 (Nat.le_of_ble_eq_true rfl) ?_
  show gG l Γ gm_X10_takeOut (d, 0, 0, 0, 0) 0 [(0, .ref (gad (gSS ad) 145)), (1, .int (iv (fr : Int))), (2, .int (iv (to : Int)))] [] _ _
  refine gg_iload_n dX10_takeOut_0 2 rfl ?_
  refine gg_istore_n (ls' := [(3, .int (iv (to : Int))), (0, .ref (gad (gSS ad) 145)), (1, .int (iv (fr : Int))), (2, .int (iv (to : Int)))]) dX10_takeOut_1 rfl (by decide) rfl ?_
  refine gg_sub [0, 1, 2, 3] rfl ?_
  refine w_X10_takeOut hmd hfr hto ((P ++ (M ++ R)).length + 1) to I J (by omega) (Nat.le_refl _) (by rw [hto]; simp only [List.length_append]; omega) (fun q c hc hq => ?_) (fun q c hc _ => hmd.2.2.2 q c hc) rfl (fun _ _ _ => rfl) (fun _ _ => rfl)
  rw [Nat.sub_self, Nat.add_zero, hfr] at hq
  rw [List.getElem?_append_left hq] at hc
  exact hmd.2.2.2 q c (gget_app hc)

