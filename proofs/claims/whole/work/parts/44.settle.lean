/-! a draft's tree is written out as a row -/
/-- the trees that wait, the last first, print this -/
def gPd (D : List gLn) : List Int → gLn → Prop
  | [], r => r = []
  | t :: W, r => ∃ (i : Nat) (tl r' : gLn), t = (i : Int) ∧ D[i]? = some tl ∧ gPd D W r' ∧ r = r' ++ tl
theorem gPd_push {D : List gLn} {i : Nat} {tl : gLn} (hi : D[i]? = some tl) : ∀ (W : List Int) (r : gLn), gPd D W r → gPd D (W ++ [(i : Int)]) (tl ++ r)
  | [], r, h => by
    have h : r = [] := h
    subst h
    exact ⟨i, tl, [], rfl, hi, rfl, by simp⟩
  | t :: W, r, h => by
    obtain ⟨j, tj, r', h1, h2, h3, h4⟩ := h
    subst h4
    exact ⟨j, tj, tl ++ r', h1, h2, gPd_push hi W r' h3, by simp⟩
theorem gPd_pop {D : List gLn} : ∀ (W : List Int) (t : Int) (r : gLn), gPd D (W ++ [t]) r → ∃ (i : Nat) (tl r' : gLn), t = (i : Int) ∧ D[i]? = some tl ∧ gPd D W r' ∧ r = tl ++ r'
  | [], t, r, h => by
    obtain ⟨j, tj, r', h1, h2, h3, h4⟩ := h
    have h3 : r' = [] := h3
    subst h3
    exact ⟨j, tj, [], h1, h2, rfl, by rw [h4]; simp⟩
  | s :: W, t, r, h => by
    obtain ⟨j, tj, r', h1, h2, h3, h4⟩ := h
    obtain ⟨i, ti, r2, g1, g2, g3, g4⟩ := gPd_pop W t r' h3
    exact ⟨i, ti, r2 ++ tj, g1, g2, ⟨j, tj, r2, h1, h2, g3, rfl⟩, by rw [h4, g4]; simp⟩
theorem gDf_W {I I' : Nat → Nat → Int} {J J' : Nat → Nat → Int64} {D : List gLn} (h : gDf I J D) (hI : ∀ p, p = 13 ∨ p = 15 ∨ p = 16 ∨ p = 17 ∨ p = 18 → I' p = I p) (hu : I' 12 6 = I 12 6) (hJ : J' 14 = J 14) : gDf I' J' D := by
  refine ⟨by rw [hu]; exact h.1, h.2.1, fun t l ht => ?_⟩
  obtain ⟨k, x, la, lb, lc, g1, g2, g3, g4, g5, g6, g7, g8, g9⟩ := h.2.2 t l ht
  exact ⟨k, x, la, lb, lc, by rw [hI 13 (by omega)]; exact g1, by rw [hJ]; exact g2, by rw [hI 18 (by omega)]; exact g3, by rw [hI 15 (by omega)]; exact g4, by rw [hI 16 (by omega)]; exact g5, by rw [hI 17 (by omega)]; exact g6, g7, g8, g9⟩
set_option maxRecDepth 10000 in
theorem c_X0_await {l : Launch} {Γ : gC} {ad : Nat → Nat} {I : Nat → Nat → Int} {J : Nat → Nat → Int64} {d : Nat}  {D : List gLn} {u : Nat} {p : Prop} {a : Int} {la r : gLn} {W : List Int} (hD : gDf I J D) (hu : u ≤ D.length) (ra : gDrf D u p a la) (hW : gLst I 19 W) (h8 : I 12 8 = (W.length : Int)) (hl : W.length < 600) (hp : gPd D W r) (hd : 1 ≤ d) : gKv l Γ gm_X0_await d [.ref (gad (gSS ad) 12), .int (iv a)] (gSS ad, I, J) (fun μ => ∃ I1 W1, μ = (gSS ad, I1, J) ∧ gLst I1 19 W1 ∧ I1 12 8 = (W1.length : Int) ∧ W1.length ≤ W.length + 1 ∧ gPd D W1 (la ++ r) ∧ (∀ p, p ≠ 12 → p ≠ 19 → I1 p = I p) ∧ (∀ q, q ≠ 8 → I1 12 q = I 12 q)) := by
  refine gKv_of gk_X0_await.1 (Nat.le_of_ble_eq_true rfl) ?_
  show gG l Γ gm_X0_await (d, 0, 0, 0, 0) 0 [(0, .ref (gad (gSS ad) 12)), (1, .int (iv a))] [] _ _
  refine gg_aload_n dX0_await_0 0 rfl ?_
  refine gg_iload_n dX0_await_1 1 rfl ?_
  refine gg_callVi (own := RX0) (yt := gm_X0_has) rfl gl_RX0_38 gk_X0_has gr_X0_has dX0_await_2 (c_X0_has (d := d - 1) hD (by have := hD.2.1; rcases ra with ⟨-, i, h1, h2, -⟩ | ⟨-, h1, -⟩ <;> omega)) sh_12 pl_12 (by decide) rfl rfl rfl (Nat.le_of_ble_eq_true rfl) (by show _ ≤ d; omega) ⟨Nat.le_refl _, Nat.le_refl _⟩ (fun e1 μ' hc => ?_)
  obtain ⟨rfl, ⟨rfl, hb⟩ | ⟨rfl, hb⟩⟩ := hc
  · obtain ⟨i, rfl, h1, h2⟩ : ∃ i : Nat, a = (i : Int) ∧ i < u ∧ D[i]? = some la := by
      rcases ra with ⟨-, h⟩ | ⟨-, h, -⟩
      · exact h
      · omega
    refine gg_if_eq_f (tgt := 40) dX0_await_5 (by decide) (by decide) (by decide) ?_
    refine gg_aload_n dX0_await_8 0 rfl ?_
    refine gg_getI rfl gf_RX0_60 dX0_await_9 sh_12 pl_12 (by decide) (by decide) ?_
    refine gg_toI (b := (W.length : Int)) h8 ?_
    refine gg_aload_n dX0_await_12 0 rfl ?_
    refine gg_getR (k' := 19) rfl gf_RX0_31 dX0_await_13 sh_12 pl_12 (by decide) (by decide) rr_12_7 ?_
    refine gg_alenv (v := 600) (t := 0) dX0_await_16 sh_19 (by decide) pl_19 rfl ?_
    refine gg_icmp_ge_f (tgt := 40) dX0_await_17 (by decide) (by omega) (by omega) ?_
    refine gg_aload_n dX0_await_20 0 rfl ?_
    refine gg_getR (k' := 19) rfl gf_RX0_31 dX0_await_21 sh_12 pl_12 (by decide) (by decide) rr_12_7 ?_
    refine gg_aload_n dX0_await_24 0 rfl ?_
    refine gg_getI rfl gf_RX0_60 dX0_await_25 sh_12 pl_12 (by decide) (by decide) ?_
    refine gg_toI (b := (W.length : Int)) h8 ?_
    refine gg_iload_n dX0_await_28 1 rfl ?_
    refine gg_iastj W.length dX0_await_29 sh_19 pl_19 (by decide) rfl hl ?_
    refine gg_aload_n dX0_await_30 0 rfl ?_
    refine gg_dup dX0_await_31 rfl ?_
    refine gg_getI rfl gf_RX0_60 dX0_await_32 sh_12 pl_12 (by decide) (by decide) ?_
    refine gg_toI (b := (W.length : Int)) ((gu_n (by omega)).trans h8) ?_
    refine gg_iconst dX0_await_35 ?_
    refine gg_iadd dX0_await_36 ?_
    refine gg_putI rfl gf_RX0_60 dX0_await_37 sh_12 pl_12 (by decide) (by decide) (by decide) (gfit_i _) ?_
    refine gg_vretv dX0_await_40 rfl ⟨rfl, rfl⟩ ?_
    refine ⟨_, W ++ [(i : Int)], rfl, gLst_same (gLst_push hW) (gu_other (by omega)), gu_s.trans (by simp), by simp, gPd_push h2 W r hp, fun p h1 h2 => (gu_other h1).trans (gu_other h2), fun q h => (gu_n (by omega)).trans (gu_n (by omega))⟩
  · have hla : la = [] := by
      rcases ra with ⟨-, i, h1, h2, h3⟩ | ⟨-, -, h⟩
      · have := gget_lt h3
        omega
      · exact h
    refine gg_if_eq_t (tgt := 40) dX0_await_5 (by decide) (by decide) (by decide) ?_
    refine gg_vretv dX0_await_40 rfl ⟨rfl, rfl⟩ ?_
    exact ⟨I, W, rfl, hW, h8, by omega, by rw [hla]; exact hp, fun _ _ _ => rfl, fun _ _ => rfl⟩

theorem gRow_lt {tl r : gLn} {i : Nat} {x : Nat × Int64} (h : tl.drop i = x :: r) : gRk tl i = x.1 ∧ gRn tl i = x.2 ∧ i < tl.length := by
  obtain ⟨h1, h2⟩ := gRow_at h
  exact ⟨by unfold gRk; rw [h1], by unfold gRn; rw [h1], h2⟩
set_option maxRecDepth 10000 in
theorem w_X0_settle {l : Launch} {Γ : gC} {ad : Nat → Nat} {I0 : Nat → Nat → Int} {J0 : Nat → Nat → Int64} {d : Nat} {a : Nat} {D : List gLn} {tl : gLn} {rt : Int} (hF : gF a) (hfo0 : gFo tl 1) (hlen : tl.length ≤ 200) (hd : 3 ≤ d) : ∀ (m : Nat) (i : Nat) (W : List Int) (I : Nat → Nat → Int) (J : Nat → Nat → Int64), 200 - i < m → (i ≤ tl.length) → (gDf I J D) → (gLst I 19 W) → (I 12 8 = (W.length : Int)) → (W.length ≤ 1 + 2 * i) → (gPd D W (tl.drop i)) → (I a 3 = (i : Int)) → (∀ j, j < i → I (a + 1) j = (gRk tl j : Int) ∧ J (a + 2) j = gRn tl j ∧ I (a + 3) j = (gZl tl j : Int)) → (∀ p, p ≠ 12 → p ≠ 19 → p ≠ a → p ≠ a + 1 → p ≠ a + 3 → I p = I0 p) → (∀ q, q ≠ 8 → I 12 q = I0 12 q) → (∀ q, q ≠ 3 → I a q = I0 a q) → (∀ p, p ≠ a + 2 → J p = J0 p) → gG l Γ gm_X0_settle (d, 0, 0, 0, 0) 16 [(3, .int (iv (i : Int))), (0, .ref (gad (gSS ad) 12)), (1, .int (iv rt)), (2, .ref (gad (gSS ad) a))] [] (gSS ad, I, J) (gDv (fun μ => ∃ I1 J1, μ = (gSS ad, I1, J1) ∧ gAt I1 J1 a tl.length (gRk tl) (gRn tl) (gZl tl) ∧ (∀ p, p ≠ 12 → p ≠ 19 → p ≠ a → p ≠ a + 1 → p ≠ a + 3 → I1 p = I0 p) ∧ (∀ q, q ≠ 8 → I1 12 q = I0 12 q) ∧ (∀ q, q ≠ 3 → I1 a q = I0 a q) ∧ (∀ p, p ≠ a + 2 → J1 p = J0 p))) := by
  intro m
  induction m with
  | zero => intros; omega
  | succ m ih =>
    intro i W I J hm hi hDf hW h8 hWl hp hs hrow f1 f2 f3 f4
    have hr := gF_rng hF
    refine gg_iload_n dX0_settle_16 0 rfl ?_
    refine gg_sipush dX0_settle_17 (by decide) ?_
    refine gg_icmp_ge (tgt := 115) dX0_settle_20 (by decide) (by omega) (fun hb20 => ?_) (fun hb20 => ?_)
    · refine gg_vretv dX0_settle_115 rfl ⟨rfl, rfl⟩ ?_
      have hn : tl.length = i := by
        have hlen : tl.drop i = [] → tl.length = i := fun h => by have := congrArg List.length h; simp only [List.length_drop, List.length_nil] at this; omega
        first
        | exact hlen (by have hW0 : W = [] := List.length_eq_zero_iff.mp (by omega); rw [hW0] at hp; exact hp)
        | omega
      exact ⟨I, J, rfl, by rw [hn]; exact ⟨hs, hrow⟩, f1, f2, f3, f4⟩
    · refine gg_aload_n dX0_settle_23 1 rfl ?_
      refine gg_getI rfl gf_RX0_60 dX0_settle_24 sh_12 pl_12 (by decide) (by decide) ?_
      refine gg_toI (b := (W.length : Int)) h8 ?_
      refine gg_if_le (tgt := 115) dX0_settle_27 (by decide) (by omega) (fun hb => ?_) (fun hb => ?_)
      · refine gg_vretv dX0_settle_115 rfl ⟨rfl, rfl⟩ ?_
        have hn : tl.length = i := by
          have hlen : tl.drop i = [] → tl.length = i := fun h => by have := congrArg List.length h; simp only [List.length_drop, List.length_nil] at this; omega
          first
          | exact hlen (by have hW0 : W = [] := List.length_eq_zero_iff.mp (by omega); rw [hW0] at hp; exact hp)
          | omega
        exact ⟨I, J, rfl, by rw [hn]; exact ⟨hs, hrow⟩, f1, f2, f3, f4⟩
      · rcases gLs_split W with hW0 | ⟨W1, t0, hWe⟩
        · rw [hW0] at hb; exact absurd hb (by simp)
        subst hWe
        obtain ⟨t, tt, r, rfl, htt, hp1, hdr⟩ := gPd_pop W1 t0 _ hp
        have hWl1 : (W1 ++ [(t : Int)]).length = W1.length + 1 := by simp
        have htl := gget_lt htt
        have hu := hDf.2.1
        obtain ⟨k, x, la, lb, lc, e13, e14, e18, ra2, rb, rc, ett, hfo, hnv⟩ := hDf.2.2 t tt htt
        have hzi : gZl tl i = tt.length := gZl_of hdr hfo
        have hdr2 := hdr
        rw [ett] at hdr2
        obtain ⟨hk, hx, hil⟩ := gRow_lt (x := (k, x)) hdr2
        have hdn : tl.drop (i + 1) = la ++ (lb ++ (lc ++ r)) := by
          have := gdrop (a := [(k, x)]) (b := la ++ (lb ++ lc) ++ r) hdr2
          rw [show i + [(k, x)].length = i + 1 from rfl] at this
          rw [this]
          simp
        have httl : tt.length ≤ tl.length := by
          have := congrArg List.length hdr
          simp only [List.length_drop, List.length_append] at this
          omega
        refine gg_aload_n dX0_settle_30 1 rfl ?_
        refine gg_dup dX0_settle_31 rfl ?_
        refine gg_getI rfl gf_RX0_60 dX0_settle_32 sh_12 pl_12 (by decide) (by decide) ?_
        refine gg_toI (b := ((W1.length + 1 : Nat) : Int)) (by rw [h8, hWl1]) ?_
        refine gg_iconst dX0_settle_35 ?_
        refine gg_isub dX0_settle_36 ?_
        refine gg_toI (b := (W1.length : Int)) (by omega) ?_
        refine gg_putI rfl gf_RX0_60 dX0_settle_37 sh_12 pl_12 (by decide) (by decide) (by decide) (gfit_i _) ?_
        refine gg_memI (fun I2 hI2 => ?_)
        refine gg_aload_n dX0_settle_40 1 rfl ?_
        refine gg_getR (k' := 19) rfl gf_RX0_31 dX0_settle_41 sh_12 pl_12 (by decide) (by decide) rr_12_7 ?_
        refine gg_aload_n dX0_settle_44 1 rfl ?_
        refine gg_getI rfl gf_RX0_60 dX0_settle_45 sh_12 pl_12 (by decide) (by decide) ?_
        refine gg_toI (b := (W1.length : Int)) (by rw [hI2, gu_s]) ?_
        refine gg_ialdj W1.length dX0_settle_48 sh_19 pl_19 (by decide) rfl (by omega) ?_
        refine gg_toI (b := (t : Int)) (by rw [hI2, gu_other (by omega)]; exact gLst_last hW) ?_
        refine gg_istore (ls' := [(4, .int (iv (t : Int))), (3, .int (iv (i : Int))), (0, .ref (gad (gSS ad) 12)), (1, .int (iv rt)), (2, .ref (gad (gSS ad) a))]) dX0_settle_49 (by decide) rfl ?_
        refine gg_aload_n dX0_settle_51 4 rfl ?_
        refine gg_aload_n dX0_settle_52 2 rfl ?_
        refine gg_getR (k' := 13) rfl gf_RX0_11 dX0_settle_53 sh_12 pl_12 (by decide) (by decide) rr_12_0 ?_
        refine gg_iload dX0_settle_56 0 rfl ?_
        refine gg_ialdj t dX0_settle_58 sh_13 pl_13 (by decide) rfl (by omega) ?_
        refine gg_toI (b := (k : Int)) (by rw [hI2, gu_other (by omega)]; exact e13) ?_
        refine gg_aload_n dX0_settle_59 2 rfl ?_
        refine gg_getR (k' := 14) rfl gf_RX0_15 dX0_settle_60 sh_12 pl_12 (by decide) (by decide) rr_12_1 ?_
        refine gg_iload dX0_settle_63 0 rfl ?_
        refine gg_laldj t dX0_settle_65 sh_14 pl_14 (by decide) rfl (by omega) ?_
        refine gg_toL (b := x) e14 ?_
        refine gg_aload_n dX0_settle_66 2 rfl ?_
        refine gg_getR (k' := 18) rfl gf_RX0_28 dX0_settle_67 sh_12 pl_12 (by decide) (by decide) rr_12_5 ?_
        refine gg_iload dX0_settle_70 0 rfl ?_
        refine gg_ialdj t dX0_settle_72 sh_18 pl_18 (by decide) rfl (by omega) ?_
        refine gg_toI (b := (tt.length : Int)) (by rw [hI2, gu_other (by omega), e18]; omega) ?_
        refine gg_callVv (own := RX0) (yt := gm_X1_add) rfl gl_RX0_72 gk_X1_add gr_X1_add dX0_settle_73 (c_X1_add (d := d - 1) (a := a) (n := i) hF (by rw [hI2, gu_other (by omega)]; exact hs) (by omega)) (gFsh hF) (gFlt hF) (by decide) rfl rfl rfl (Nat.le_of_ble_eq_true rfl) (by show _ ≤ d; omega) ⟨Nat.le_refl _, Nat.le_refl _⟩ (fun μ' hc => ?_)
        obtain rfl := hc
        refine gg_memI (fun I3 hI3 => ?_)
        refine gg_memJ (fun J3 hJ3 => ?_)
        have k3 : ∀ p, p ≠ 12 → p ≠ a → p ≠ a + 1 → p ≠ a + 3 → I3 p = I p := fun p h1 h2 h3 h4 => by rw [hI3, gu_other h2, gu_other h4, gu_other h3, hI2, gu_other h1]
        have k12 : ∀ q, q ≠ 8 → I3 12 q = I 12 q := fun q h => by rw [hI3, gu_other (by omega), gu_other (by omega), gu_other (by omega), hI2, gu_n (by omega)]
        have k8 : I3 12 8 = (W1.length : Int) := by rw [hI3, gu_other (by omega), gu_other (by omega), gu_other (by omega), hI2, gu_s]
        have hDf3 : gDf I3 J3 D := gDf_W hDf (fun p h => k3 p (by omega) (by omega) (by omega) (by omega)) (k12 6 (by omega)) (by rw [hJ3, gv_other (by omega)])
        have hW3 : gLst I3 19 W1 := gLst_same (gLst_init hW) (k3 19 (by omega) (by omega) (by omega) (by omega))
        refine gg_aload_n dX0_settle_76 2 rfl ?_
        refine gg_aload_n dX0_settle_77 2 rfl ?_
        refine gg_getR (k' := 17) rfl gf_RX0_25 dX0_settle_78 sh_12 pl_12 (by decide) (by decide) rr_12_4 ?_
        refine gg_iload dX0_settle_81 0 rfl ?_
        refine gg_ialdj t dX0_settle_83 sh_17 pl_17 (by decide) rfl (by omega) ?_
        refine gg_toI (b := I 17 t) (by rw [(k3 17 (by omega) (by omega) (by omega) (by omega))]) ?_
        refine gg_callVv (own := RX0) (yt := gm_X0_await) rfl gl_RX0_68 gk_X0_await gr_X0_await dX0_settle_84 (c_X0_await (d := d - 1) (W := W1) hDf3 (Nat.le_of_lt htl) rc hW3 k8 (by omega) hp1 (by omega)) sh_12 pl_12 (by decide) rfl rfl rfl (Nat.le_of_ble_eq_true rfl) (by show _ ≤ d; omega) ⟨Nat.le_refl _, Nat.le_refl _⟩ (fun μ' hc => ?_)
        obtain ⟨I4, W4, rfl, hW4, h84, hl4, hp4, fa4, fb4⟩ := hc
        have hDf4 : gDf I4 J3 D := gDf_W hDf3 (fun p h => fa4 p (by omega) (by omega)) (fb4 6 (by omega)) rfl
        refine gg_aload_n dX0_settle_87 2 rfl ?_
        refine gg_aload_n dX0_settle_88 2 rfl ?_
        refine gg_getR (k' := 16) rfl gf_RX0_22 dX0_settle_89 sh_12 pl_12 (by decide) (by decide) rr_12_3 ?_
        refine gg_iload dX0_settle_92 0 rfl ?_
        refine gg_ialdj t dX0_settle_94 sh_16 pl_16 (by decide) rfl (by omega) ?_
        refine gg_toI (b := I 16 t) (by rw [((fa4 16 (by omega) (by omega)).trans (k3 16 (by omega) (by omega) (by omega) (by omega)))]) ?_
        refine gg_callVv (own := RX0) (yt := gm_X0_await) rfl gl_RX0_68 gk_X0_await gr_X0_await dX0_settle_95 (c_X0_await (d := d - 1) (W := W4) hDf4 (Nat.le_of_lt htl) rb hW4 h84 (by omega) hp4 (by omega)) sh_12 pl_12 (by decide) rfl rfl rfl (Nat.le_of_ble_eq_true rfl) (by show _ ≤ d; omega) ⟨Nat.le_refl _, Nat.le_refl _⟩ (fun μ' hc => ?_)
        obtain ⟨I5, W5, rfl, hW5, h85, hl5, hp5, fa5, fb5⟩ := hc
        have hDf5 : gDf I5 J3 D := gDf_W hDf4 (fun p h => fa5 p (by omega) (by omega)) (fb5 6 (by omega)) rfl
        refine gg_aload_n dX0_settle_98 2 rfl ?_
        refine gg_aload_n dX0_settle_99 2 rfl ?_
        refine gg_getR (k' := 15) rfl gf_RX0_19 dX0_settle_100 sh_12 pl_12 (by decide) (by decide) rr_12_2 ?_
        refine gg_iload dX0_settle_103 0 rfl ?_
        refine gg_ialdj t dX0_settle_105 sh_15 pl_15 (by decide) rfl (by omega) ?_
        refine gg_toI (b := I 15 t) (by rw [((fa5 15 (by omega) (by omega)).trans ((fa4 15 (by omega) (by omega)).trans (k3 15 (by omega) (by omega) (by omega) (by omega))))]) ?_
        refine gg_callVv (own := RX0) (yt := gm_X0_await) rfl gl_RX0_68 gk_X0_await gr_X0_await dX0_settle_106 (c_X0_await (d := d - 1) (W := W5) hDf5 (Nat.le_of_lt htl) ra2 hW5 h85 (by omega) hp5 (by omega)) sh_12 pl_12 (by decide) rfl rfl rfl (Nat.le_of_ble_eq_true rfl) (by show _ ≤ d; omega) ⟨Nat.le_refl _, Nat.le_refl _⟩ (fun μ' hc => ?_)
        obtain ⟨I6, W6, rfl, hW6, h86, hl6, hp6, fa6, fb6⟩ := hc
        have hDf6 : gDf I6 J3 D := gDf_W hDf5 (fun p h => fa6 p (by omega) (by omega)) (fb6 6 (by omega)) rfl
        refine gg_iincv (ls' := [(3, .int (iv ((i + 1 : Nat) : Int))), (4, .int (iv (t : Int))), (0, .ref (gad (gSS ad) 12)), (1, .int (iv rt)), (2, .ref (gad (gSS ad) a))]) dX0_settle_109 1 rfl (by omega) (by decide) rfl ?_
        refine gg_goto (tgt := 16) dX0_settle_112 (by decide) ?_
        refine gg_sub [0, 2, 3, 4] rfl ?_
        have kk : ∀ p, p ≠ 12 → p ≠ 19 → p ≠ a → p ≠ a + 1 → p ≠ a + 3 → I6 p = I p := (fun p h1 h2 h3 h4 h5 => (fa6 p h1 h2).trans ((fa5 p h1 h2).trans ((fa4 p h1 h2).trans (k3 p h1 h3 h4 h5))))
        have ka : ∀ p, p ≠ 12 → p ≠ 19 → I6 p = I3 p := fun p h1 h2 => (fa6 p h1 h2).trans ((fa5 p h1 h2).trans (fa4 p h1 h2))
        refine ih (i + 1) W6 I6 J3 (by omega) (by omega) hDf6 hW6 h86 (by omega) (by rw [hdn]; exact hp6) (by rw [ka a (by omega) (by omega), hI3, gu_s]; omega) (fun j hj => ?_) (fun p h1 h2 h3 h4 h5 => (kk p h1 h2 h3 h4 h5).trans (f1 p h1 h2 h3 h4 h5)) (fun q h => (fb6 q h).trans ((fb5 q h).trans ((fb4 q h).trans ((k12 q h).trans (f2 q h))))) (fun q h => by rw [ka a (by omega) (by omega), hI3, gu_n (by omega), gu_other (by omega), gu_other (by omega), hI2, gu_other (by omega)]; exact f3 q h) (fun p h => by rw [hJ3, gv_other h]; exact f4 p h)
        rw [ka (a + 1) (by omega) (by omega), ka (a + 3) (by omega) (by omega), hI3, hJ3]
        by_cases hji : j = i
        · subst hji
          exact ⟨((gu_n (by omega)).trans ((gu_n (by omega)).trans gu_s)).trans (by rw [hk]), gv_s.trans hx.symm, ((gu_n (by omega)).trans gu_s).trans (by rw [hzi])⟩
        · have hj2 := hrow j (by omega)
          refine ⟨?_, (gv_n (by omega)).trans hj2.2.1, ?_⟩
          · exact ((gu_n (by omega)).trans ((gu_n (by omega)).trans ((gu_n (by omega)).trans (by rw [hI2, gu_other (by omega)])))).trans hj2.1
          · exact ((gu_n (by omega)).trans ((gu_n (by omega)).trans ((gu_n (by omega)).trans (by rw [hI2, gu_other (by omega)])))).trans hj2.2.2

set_option maxRecDepth 10000 in
theorem c_X0_settle {l : Launch} {Γ : gC} {ad : Nat → Nat} {I : Nat → Nat → Int} {J : Nat → Nat → Int64} {d : Nat} {a t : Nat} {D : List gLn} {tl : gLn} (hF : gF a) (hDf : gDf I J D) (ht : D[t]? = some tl) (hlen : tl.length ≤ 200) (hd : 3 ≤ d) : gKv l Γ gm_X0_settle d [.ref (gad (gSS ad) 12), .int (iv (t : Int)), .ref (gad (gSS ad) a)] (gSS ad, I, J) (fun μ => ∃ I1 J1, μ = (gSS ad, I1, J1) ∧ gAt I1 J1 a tl.length (gRk tl) (gRn tl) (gZl tl) ∧ (∀ p, p ≠ 12 → p ≠ 19 → p ≠ a → p ≠ a + 1 → p ≠ a + 3 → I1 p = I p) ∧ (∀ q, q ≠ 8 → I1 12 q = I 12 q) ∧ (∀ q, q ≠ 3 → I1 a q = I a q) ∧ (∀ p, p ≠ a + 2 → J1 p = J p)) := by
  refine gKv_of gk_X0_settle.1 (Nat.le_of_ble_eq_true rfl) ?_
  show gG l Γ gm_X0_settle (d, 0, 0, 0, 0) 0 [(0, .ref (gad (gSS ad) 12)), (1, .int (iv (t : Int))), (2, .ref (gad (gSS ad) a))] [] _ _
  have hr := gF_rng hF
  refine gg_aload_n dX0_settle_0 2 rfl ?_
  refine gg_callVv (own := RX0) (yt := gm_X1_clear) rfl gl_RX0_63 gk_X1_clear gr_X1_clear dX0_settle_1 (c_X1_clear (d := d - 1) hF) (gFsh hF) (gFlt hF) (by decide) rfl rfl rfl (Nat.le_of_ble_eq_true rfl) (by show _ ≤ d; omega) ⟨Nat.le_refl _, Nat.le_refl _⟩ (fun μ' hc => ?_)
  obtain rfl := hc
  refine gg_aload_n dX0_settle_4 0 rfl ?_
  refine gg_iconst dX0_settle_5 ?_
  refine gg_putI rfl gf_RX0_60 dX0_settle_6 sh_12 pl_12 (by decide) (by decide) (by decide) (gfit_i _) ?_
  refine gg_memI (fun I2 hI2 => ?_)
  have k2 : ∀ p, p ≠ 12 → p ≠ a → I2 p = I p := fun p h1 h2 => by rw [hI2, gu_other h1, gu_other h2]
  have k12 : ∀ q, q ≠ 8 → I2 12 q = I 12 q := fun q h => by rw [hI2, gu_n (by omega), gu_other (by omega)]
  have hDf2 : gDf I2 J D := gDf_W hDf (fun p h => k2 p (by omega) (by omega)) (k12 6 (by omega)) rfl
  refine gg_aload_n dX0_settle_9 0 rfl ?_
  refine gg_iload_n dX0_settle_10 1 rfl ?_
  refine gg_callVv (own := RX0) (yt := gm_X0_await) rfl gl_RX0_68 gk_X0_await gr_X0_await dX0_settle_11 (c_X0_await (d := d - 1) (u := D.length) (p := True) (la := tl) (r := []) (W := []) hDf2 (Nat.le_refl _) (Or.inl ⟨trivial, t, rfl, gget_lt ht, ht⟩) gLst_nil (by rw [hI2]; exact gu_s) (by decide) rfl (by omega)) sh_12 pl_12 (by decide) rfl rfl rfl (Nat.le_of_ble_eq_true rfl) (by show _ ≤ d; omega) ⟨Nat.le_refl _, Nat.le_refl _⟩ (fun μ' hc => ?_)
  obtain ⟨I3, W3, rfl, hW3, h83, hl3, hp3, fa3, fb3⟩ := hc
  refine gg_iconst dX0_settle_14 ?_
  refine gg_istore_n (ls' := [(3, .int (iv 0)), (0, .ref (gad (gSS ad) 12)), (1, .int (iv (t : Int))), (2, .ref (gad (gSS ad) a))]) dX0_settle_15 rfl (by decide) rfl ?_
  have hDf3 : gDf I3 J D := gDf_W hDf2 (fun p h => fa3 p (by omega) (by omega)) (fb3 6 (by omega)) rfl
  refine gg_sub [0, 1, 2, 3] rfl ?_
  refine gG_post (w_X0_settle hF (gDf_tree hDf ht).1 hlen hd 201 0 W3 I3 J (by omega) (by omega) hDf3 hW3 h83 (by simpa using hl3) (by simpa using hp3) (by rw [fa3 a (by omega) (by omega), hI2, gu_other (by omega), gu_s]; rfl) (fun j hj => absurd hj (Nat.not_lt_zero _)) (fun p h1 h2 h3 h4 h5 => rfl) (fun q h => rfl) (fun q h => rfl) (fun p h => rfl)) (fun r μ h => ?_)
  obtain ⟨rfl, I1, J1, rfl, g1, g2, g3, g4, g5⟩ := h
  refine ⟨rfl, I1, J1, rfl, g1, fun p h1 h2 h3 h4 h5 => (g2 p h1 h2 h3 h4 h5).trans ((fa3 p h1 h2).trans (k2 p h1 h3)), fun q h => (g3 q h).trans ((fb3 q h).trans (k12 q h)), fun q h => (g4 q h).trans ?_, g5⟩
  rw [fa3 a (by omega) (by omega), hI2, gu_other (by omega), gu_n (by omega)]

