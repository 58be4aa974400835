/-! the class's object (by program) -/
def gR0 : Nat → Nat → Option Nat := fun _ _ => none
/-- whom the places name when f formulas are made; s sheets -/
def gRf (f : Nat) : Nat → Nat → Option Nat := fun k j => if k = 1 ∨ k = 2 then (if j < f then gRr k j else none) else if k = 5 then none else if k < 41 + 8 * f then gRr k j else none
def gRg (s : Nat) : Nat → Nat → Option Nat := fun k j => if k = 5 then (if j < s then gRr k j else none) else if k < 137 + 2 * s then gRr k j else none
def gIt (I : Nat → Nat → Int) (s : Nat) : Nat → Nat → Int := fun a b => if b = 1 ∧ 137 ≤ a ∧ a < 137 + 2 * s ∧ (a - 137) % 2 = 0 then -1 else I a b
theorem gNew_rf {n : Nat} {rf rf' : Nat → Nat → Option Nat} {I : Nat → Nat → Int} {J : Nat → Nat → Int64} (hg : gNew n rf I J) (h : ∀ k, k < n → rf' k = rf k) (h2 : ∀ k, n ≤ k → ∀ j, rf' k j = none) : gNew n rf' I J := by
  refine ⟨fun k j v e => ?_, fun k hk j => ⟨h2 k hk j, (hg.2 k hk j).2⟩⟩
  by_cases c : k < n
  · rw [h k c] at e
    exact hg.1 k j v e
  · rw [h2 k (by omega) j] at e
    cases e
theorem gR_eq {n m : Nat} {rf rf' : Nat → Nat → Option Nat} {I : Nat → Nat → Int} {J : Nat → Nat → Int64} (hg : gNew n rf I J) (h4 : ∀ k j, 40 ≤ j → rf' k j = none) (h : ∀ k, k < m → ∀ j, j < 40 → rf k j = rf' k j) : ∀ k, k < m → rf' k = rf k := fun k hk => by
  funext j
  by_cases hj : j < 40
  · exact (h k hk j hj).symm
  · rw [h4 k j (by omega)]
    cases c1 : rf k j with
    | some v => exact absurd (hg.1 k j v c1).2 hj
    | none => rfl
theorem gRr_none {k j : Nat} (h : 40 ≤ j) : gRr k j = none := by
  cases c : gRr k j with
  | some v => exact absurd (gR_40 k j v c) (by omega)
  | none => rfl
theorem gRf_none {f k j : Nat} (h : 40 ≤ j) : gRf f k j = none := by
  unfold gRf
  rw [gRr_none h]
  simp
theorem gRg_none {f k j : Nat} (h : 40 ≤ j) : gRg f k j = none := by
  unfold gRg
  rw [gRr_none h]
  simp
theorem gg_rf {l : Launch} {Γ : gC} {mt : gY} {B : gB} {pc : Nat} {ls : List (Nat × Value)} {st : List Value} {n : Nat} {rf rf' : Nat → Nat → Option Nat} {ad : Nat → Nat} {I : Nat → Nat → Int} {J : Nat → Nat → Int64} {Q : Option Value → gM → Prop} (hg : gNew n rf I J) (h : ∀ k, k < n → rf' k = rf k) (h2 : ∀ k, n ≤ k → ∀ j, rf' k j = none) (kk : gNew n rf' I J → gG l Γ mt B pc ls st ((n, gSh, rf', ad), I, J) Q) : gG l Γ mt B pc ls st ((n, gSh, rf, ad), I, J) Q :=
  gg_world (gWl_by h) (kk (gNew_rf hg h h2))
theorem gg_gR {l : Launch} {Γ : gC} {mt : gY} {B : gB} {pc : Nat} {ls : List (Nat × Value)} {st : List Value} {n k w ci j len idx : Nat} {own : String} {rf : Nat → Nat → Option Nat} {ad : Nat → Nat} {I : Nat → Nat → Int} {J : Nat → Nat → Int64} {Q : Option Value → gM → Prop} (ho : mt.1.cls = own) (f : gFL own idx ci j) (dd : decode mt.2.1 pc = .ok (.getfield idx, 3)) (hs : gSh k = (ci, len)) (hk : k < n) (hr : gRef ci j = true) (hj : j < len) (hq : rf k j = some w)
    (kk : gG l Γ mt B (pc + 3) ls (.ref (ad w) :: st) ((n, gSh, rf, ad), I, J) Q) : gG l Γ mt B pc ls (.ref (ad k) :: st) ((n, gSh, rf, ad), I, J) Q := gg_getR (S := (n, gSh, rf, ad)) ho f dd hs hk hr hj hq kk
/-- what the object's constructor comes to -/
def gP9 (a0 : Nat) (I : Nat → Nat → Int) (J : Nat → Nat → Int64) : Option Value → gM → Prop := fun r μ' => r = none ∧ ∃ ad' : Nat → Nat, ad' 0 = a0 ∧ gNew 145 (gRc 145) (gIt I 4) J ∧ μ' = ((145, gSh, gRc 145, ad'), gIt I 4, J)
theorem gRs_step {s : Nat} (hs : s < 4) {rf : Nat → Nat → Option Nat} {I : Nat → Nat → Int} {J : Nat → Nat → Int64} (e : rf = (gnr (gnr (gRg s) (137 + 2 * s) 0 (137 + 2 * s + 1)) 5 s (137 + 2 * s))) (hg : gNew (137 + 2 * s + 2) rf I J) : (∀ k, k < 137 + 2 * s + 2 → gRg (s + 1) k = rf k) ∧ ∀ k, 137 + 2 * s + 2 ≤ k → ∀ j, gRg (s + 1) k j = none := by
  have z : ∀ s : Fin 4, ∀ j : Fin 40, (gnr (gnr (gRg s.val) (137 + 2 * s.val) 0 (137 + 2 * s.val + 1)) 5 s.val (137 + 2 * s.val)) 5 j.val = gRg (s.val + 1) 5 j.val ∧ ∀ i : Fin 2, (gnr (gnr (gRg s.val) (137 + 2 * s.val) 0 (137 + 2 * s.val + 1)) 5 s.val (137 + 2 * s.val)) (137 + 2 * s.val + i.val) j.val = gRg (s.val + 1) (137 + 2 * s.val + i.val) j.val := by decide +kernel
  refine ⟨gR_eq hg (fun k j h => gRg_none h) (fun k hk j hj => ?_), fun k hk j => ?_⟩
  · subst e
    by_cases c1 : k = 5
    · subst c1
      exact (z ⟨s, hs⟩ ⟨j, hj⟩).1
    · by_cases c2 : k < 137 + 2 * s
      · rw [gnr_other (by omega), gnr_other (by omega), show gRg s k j = gRr k j by unfold gRg; rw [if_neg c1, if_pos c2]]
        unfold gRg
        rw [if_neg c1, if_pos (by omega)]
      · have h := (z ⟨s, hs⟩ ⟨j, hj⟩).2 ⟨k - (137 + 2 * s), by omega⟩
        have h2 : 137 + 2 * s + (k - (137 + 2 * s)) = k := by omega
        simp only [h2] at h
        exact h
  · unfold gRg
    rw [if_neg (by omega), if_neg (by omega)]
theorem gIt_step {I : Nat → Nat → Int} {s : Nat} : gu (gIt I s) (137 + 2 * s) 1 (-1) = gIt I (s + 1) := by
  funext a b
  unfold gu gIt
  by_cases c : a = 137 + 2 * s ∧ b = 1
  · rw [if_pos c, if_pos (by omega)]
  · rw [if_neg c]
    by_cases c2 : b = 1 ∧ 137 ≤ a ∧ a < 137 + 2 * s ∧ (a - 137) % 2 = 0
    · rw [if_pos c2, if_pos (by omega)]
    · rw [if_neg c2, if_neg (by omega)]
set_option maxRecDepth 10000 in
theorem w_X9_init_s {l : Launch} {Γ : gC} {d a0 : Nat} {I : Nat → Nat → Int} {J : Nat → Nat → Int64} (hd : 2 ≤ d) : ∀ (m s : Nat) (ad : Nat → Nat), 4 - s < m → s ≤ 4 → ad 0 = a0 → gNew (137 + 2 * s) (gRg s) (gIt I s) J → gG l Γ gm_X9_init (d, 144, 32507, 136 + 2 * s, 32335 + 43 * s) 199 [(1, .int (iv (s : Int))), (0, .ref (ad 0))] [] ((137 + 2 * s, gSh, gRg s, ad), gIt I s, J) (gP9 a0 I J) := by
  intro m
  induction m with
  | zero => intros; omega
  | succ m ih =>
    intro s ad hm hs ha hg
    refine gg_iload_n dX9_init_199 0 rfl ?_
    refine gg_iconst dX9_init_200 ?_
    refine gg_icmp_ge (tgt := 223) dX9_init_201 (by decide) (by omega) (fun hx => ?_) (fun hx => ?_)
    · have he : s = 4 := by omega
      subst he
      refine gg_wide (B' := (d, 144, 32507, 144, 32507)) ⟨rfl, rfl, rfl⟩ (Nat.le_of_ble_eq_true rfl) (Nat.le_of_ble_eq_true rfl) ?_
      refine gg_rf (n := 145) (rf' := gRc 145) hg (gR_eq hg (fun k j h => by unfold gRc; rw [gRr_none h]; simp) (fun k hk j hj => ?_)) (fun k hk j => by unfold gRc; rw [if_neg (by omega)]) (fun hg => ?_)
      · have z : ∀ j : Fin 40, gRg 4 5 j.val = gRc 145 5 j.val := by decide +kernel
        by_cases c : k = 5
        · subst c
          exact z ⟨j, hj⟩
        · unfold gRg gRc
          rw [if_neg c]
      refine gg_vret dX9_init_223 rfl ⟨rfl, rfl⟩ ?_
      exact ⟨rfl, ad, ha, hg, rfl⟩
    · have hs4 : s < 4 := by omega
      have k0 : gSh (137 + 2 * s) = (6, 3) := (gSt s hs4).1
      have k1 : gSh (137 + 2 * s + 1) = (100, 40) := by rw [show 137 + 2 * s + 1 = 138 + 2 * s by omega]; exact (gSt s hs4).2.2
      refine gg_aload_n dX9_init_204 1 rfl ?_
      refine gg_gR (k := 0) (w := 5) rfl gf_RX9_27 dX9_init_205 rfl (by omega) (by decide) (by decide) (by show gRg s 0 5 = _; unfold gRg; rw [if_neg (by omega), if_pos (by omega)]; rfl) ?_
      refine gg_iload_n dX9_init_208 0 rfl ?_
      refine gg_nO (n' := 137 + 2 * s + 1) (u' := 136 + 2 * s + 1) (v' := 32335 + 43 * s + 3) (ci := 6) (N := 3) rfl (by decide) rfl gc_RX9_25 gi_RX6 gk_X6_init.1.2.1 (by decide +kernel) k0 ⟨by omega, by omega, by omega⟩ dX9_init_209 hg ⟨by omega, by omega, by omega⟩ (fun ad1 h1 g1 => ?_)
      rw [← h1 0 (by omega)]
      rw [← h1 5 (by omega)]
      refine gg_dupr dX9_init_212 ?_
      refine gg_callIN (B := (d, 144, 32507, 136 + 2 * s + 1, 32335 + 43 * s + 3)) (own := RX9) (yt := gm_X6_init) (rest := [.ref (ad1 (137 + 2 * s)), .int (iv (s : Int)), .ref (ad1 5)]) rfl (List.mem_of_getElem? (i := 6) rfl) gk_X6_init gr_X6_init dX9_init_213 (c_X6_init (d := d - 1) (a := (137 + 2 * s)) (n := (137 + 2 * s + 1)) (by omega) k0 k1 g1 (by omega)) rfl rfl rfl (Nat.le_of_ble_eq_true rfl) (by show _ ≤ d; omega) ⟨by dsimp only; omega, by dsimp only; omega⟩ (fun r μ' hc => ?_)
      obtain ⟨rfl, ad2, h2, g2, rfl⟩ := hc
      show gG l Γ gm_X9_init (d, 144, 32507, 136 + 2 * s + 2, 32335 + 43 * s + 43) 216 _ _ _ _
      rw [← h2 0 (by omega)]
      rw [← h2 5 (by omega)]
      rw [← h2 (137 + 2 * s) (by omega)]
      refine gg_aastR (B := (d, 144, 32507, 136 + 2 * s + 2, 32335 + 43 * s + 43)) (t := 5) (ci := 6) (k := 5) (v := (137 + 2 * s)) (j := s) (len := 4) (by decide) rfl (by omega) dX9_init_216 rfl (by omega) k0 (by omega) (by omega) rfl hs4 ?_
      have g3 := gNew_ref (k := 5) (j := s) (v := (137 + 2 * s)) g2 (by omega) (by omega) (by omega)
      have hst := gRs_step hs4 rfl g3
      refine gg_rf g3 hst.1 hst.2 (fun hg2 => ?_)
      rw [gIt_step] at hg2 ⊢
      refine gg_iincv (ls' := [(1, .int (iv ((s + 1 : Nat) : Int))), (0, .ref (ad2 0))]) dX9_init_217 0 rfl (by omega) (by decide) rfl ?_
      refine gg_goto (tgt := 199) dX9_init_220 (by decide) ?_
      refine gg_wide (B' := (d, 144, 32507, 136 + 2 * (s + 1), 32335 + 43 * (s + 1))) ⟨rfl, rfl, rfl⟩ (by dsimp only; omega) (by dsimp only; omega) ?_
      exact ih (s + 1) ad2 (by omega) (by omega) ((h2 0 (by omega)).trans (h1 0 (by omega)) |>.trans ha) hg2
theorem gRf_step {f : Nat} (hf : f < 12) {rf : Nat → Nat → Option Nat} {I : Nat → Nat → Int} {J : Nat → Nat → Int64} (e : rf = (gnr (gnr (gnr (gnr (gnr (gnr (gnr (gnr (gRf f) (41 + 8 * f) 0 (41 + 8 * f + 1)) (41 + 8 * f) 1 (41 + 8 * f + 2)) (41 + 8 * f) 2 (41 + 8 * f + 3)) 1 f (41 + 8 * f)) (41 + 8 * f + 4) 0 (41 + 8 * f + 5)) (41 + 8 * f + 4) 1 (41 + 8 * f + 6)) (41 + 8 * f + 4) 2 (41 + 8 * f + 7)) 2 f (41 + 8 * f + 4))) (hg : gNew (41 + 8 * f + 8) rf I J) : (∀ k, k < 41 + 8 * f + 8 → gRf (f + 1) k = rf k) ∧ ∀ k, 41 + 8 * f + 8 ≤ k → ∀ j, gRf (f + 1) k j = none := by
  have z : ∀ f : Fin 12, ∀ j : Fin 40, ((gnr (gnr (gnr (gnr (gnr (gnr (gnr (gnr (gRf f.val) (41 + 8 * f.val) 0 (41 + 8 * f.val + 1)) (41 + 8 * f.val) 1 (41 + 8 * f.val + 2)) (41 + 8 * f.val) 2 (41 + 8 * f.val + 3)) 1 f.val (41 + 8 * f.val)) (41 + 8 * f.val + 4) 0 (41 + 8 * f.val + 5)) (41 + 8 * f.val + 4) 1 (41 + 8 * f.val + 6)) (41 + 8 * f.val + 4) 2 (41 + 8 * f.val + 7)) 2 f.val (41 + 8 * f.val + 4)) 1 j.val = gRf (f.val + 1) 1 j.val ∧ (gnr (gnr (gnr (gnr (gnr (gnr (gnr (gnr (gRf f.val) (41 + 8 * f.val) 0 (41 + 8 * f.val + 1)) (41 + 8 * f.val) 1 (41 + 8 * f.val + 2)) (41 + 8 * f.val) 2 (41 + 8 * f.val + 3)) 1 f.val (41 + 8 * f.val)) (41 + 8 * f.val + 4) 0 (41 + 8 * f.val + 5)) (41 + 8 * f.val + 4) 1 (41 + 8 * f.val + 6)) (41 + 8 * f.val + 4) 2 (41 + 8 * f.val + 7)) 2 f.val (41 + 8 * f.val + 4)) 2 j.val = gRf (f.val + 1) 2 j.val) ∧ ∀ i : Fin 8, (gnr (gnr (gnr (gnr (gnr (gnr (gnr (gnr (gRf f.val) (41 + 8 * f.val) 0 (41 + 8 * f.val + 1)) (41 + 8 * f.val) 1 (41 + 8 * f.val + 2)) (41 + 8 * f.val) 2 (41 + 8 * f.val + 3)) 1 f.val (41 + 8 * f.val)) (41 + 8 * f.val + 4) 0 (41 + 8 * f.val + 5)) (41 + 8 * f.val + 4) 1 (41 + 8 * f.val + 6)) (41 + 8 * f.val + 4) 2 (41 + 8 * f.val + 7)) 2 f.val (41 + 8 * f.val + 4)) (41 + 8 * f.val + i.val) j.val = gRf (f.val + 1) (41 + 8 * f.val + i.val) j.val := by decide +kernel
  refine ⟨gR_eq hg (fun k j h => gRf_none h) (fun k hk j hj => ?_), fun k hk j => ?_⟩
  · subst e
    by_cases c1 : k = 1
    · subst c1
      exact (z ⟨f, hf⟩ ⟨j, hj⟩).1.1
    · by_cases c2 : k = 2
      · subst c2
        exact (z ⟨f, hf⟩ ⟨j, hj⟩).1.2
      · by_cases c3 : k < 41 + 8 * f
        · rw [gnr_other (by omega), gnr_other (by omega), gnr_other (by omega), gnr_other (by omega), gnr_other (by omega), gnr_other (by omega), gnr_other (by omega), gnr_other (by omega), show gRf f k j = gRf (f + 1) k j by
            have c12 : ¬ (k = 1 ∨ k = 2) := by omega
            have c4 : k < 41 + 8 * (f + 1) := by omega
            unfold gRf
            simp only [if_neg c12, if_pos c3, if_pos c4]]
        · have h := (z ⟨f, hf⟩ ⟨j, hj⟩).2 ⟨k - (41 + 8 * f), by omega⟩
          have h2 : 41 + 8 * f + (k - (41 + 8 * f)) = k := by omega
          simp only [h2] at h
          exact h
  · unfold gRf
    rw [if_neg (by omega), if_neg (by omega), if_neg (by omega)]
set_option maxRecDepth 10000 in
theorem w_X9_init_f {l : Launch} {Γ : gC} {d a0 : Nat} {I : Nat → Nat → Int} {J : Nat → Nat → Int64} (hd : 2 ≤ d) : ∀ (m f : Nat) (ad : Nat → Nat), 12 - f < m → f ≤ 12 → ad 0 = a0 → gNew (41 + 8 * f) (gRf f) I J → gG l Γ gm_X9_init (d, 144, 32507, 40 + 8 * f, 17839 + 1208 * f) 159 [(1, .int (iv (f : Int))), (0, .ref (ad 0))] [] ((41 + 8 * f, gSh, gRf f, ad), I, J) (gP9 a0 I J) := by
  intro m
  induction m with
  | zero => intros; omega
  | succ m ih =>
    intro f ad hm hf ha hg
    refine gg_iload_n dX9_init_159 0 rfl ?_
    refine gg_bipush dX9_init_160 (by decide) ?_
    refine gg_icmp_ge (tgt := 197) dX9_init_162 (by decide) (by omega) (fun hx => ?_) (fun hx => ?_)
    · have he : f = 12 := by omega
      subst he
      refine gg_iconst dX9_init_197 ?_
      refine gg_istore_n (ls' := [(1, .int (iv 0)), (0, .ref (ad 0))]) dX9_init_198 rfl (by decide) rfl ?_
      refine gg_rf (n := 137) (rf' := gRg 0) hg (gR_eq hg (fun k j h => gRg_none h) (fun k hk j hj => ?_)) (fun k hk j => by unfold gRg; rw [if_neg (by omega), if_neg (by omega)]) (fun hg => ?_)
      · have z : ∀ j : Fin 40, gRf 12 1 j.val = gRg 0 1 j.val ∧ gRf 12 2 j.val = gRg 0 2 j.val ∧ gRf 12 5 j.val = gRg 0 5 j.val := by decide +kernel
        by_cases c : k = 1
        · subst c
          exact (z ⟨j, hj⟩).1
        · by_cases c2 : k = 2
          · subst c2
            exact (z ⟨j, hj⟩).2.1
          · by_cases c3 : k = 5
            · subst c3
              exact (z ⟨j, hj⟩).2.2
            · unfold gRf gRg
              rw [if_neg (by omega), if_neg c3, if_neg c3]
      have hI : gIt I 0 = I := by
        funext a b
        unfold gIt
        rw [if_neg (by omega)]
      have h := w_X9_init_s (l := l) (Γ := Γ) (a0 := a0) (I := I) (J := J) hd 5 0 ad (by omega) (by omega) ha (by rw [hI]; exact hg)
      rw [hI] at h
      exact h
    · have hf : f < 12 := by omega
      have k0 : gSh (41 + 8 * f) = (1, 4) := (gF_fo f hf).1
      have k1 : gSh (41 + 8 * f + 1) = (100, 200) := (gF_fo f hf).2.2.2.2.2.1
      have k2 : gSh (41 + 8 * f + 2) = (101, 200) := (gF_fo f hf).2.2.2.2.2.2.1
      have k3 : gSh (41 + 8 * f + 3) = (100, 200) := (gF_fo f hf).2.2.2.2.2.2.2
      have k4 : gSh (41 + 8 * f + 4) = (1, 4) := by rw [show 41 + 8 * f + 4 = 45 + 8 * f by omega]; exact (gF_ke f hf).1
      have k5 : gSh (41 + 8 * f + 5) = (100, 200) := by rw [show 41 + 8 * f + 5 = 45 + 8 * f + 1 by omega]; exact (gF_ke f hf).2.2.2.2.2.1
      have k6 : gSh (41 + 8 * f + 6) = (101, 200) := by rw [show 41 + 8 * f + 6 = 45 + 8 * f + 2 by omega]; exact (gF_ke f hf).2.2.2.2.2.2.1
      have k7 : gSh (41 + 8 * f + 7) = (100, 200) := by rw [show 41 + 8 * f + 7 = 45 + 8 * f + 3 by omega]; exact (gF_ke f hf).2.2.2.2.2.2.2
      refine gg_aload_n dX9_init_165 1 rfl ?_
      refine gg_gR (k := 0) (w := 1) rfl gf_RX9_11 dX9_init_166 rfl (by omega) (by decide) (by decide) (by show gRf f 0 0 = _; unfold gRf; rw [if_neg (by omega), if_neg (by omega), if_pos (by omega)]; rfl) ?_
      refine gg_iload_n dX9_init_169 0 rfl ?_
      refine gg_nO (n' := 41 + 8 * f + 1) (u' := 40 + 8 * f + 1) (v' := 17839 + 1208 * f + 4) (ci := 1) (N := 4) rfl (by decide) rfl gc_RX9_9 gi_RX1 gk_X1_init.1.2.1 (by decide +kernel) k0 ⟨by omega, by omega, by omega⟩ dX9_init_170 hg ⟨by omega, by omega, by omega⟩ (fun ad1 h1 g1 => ?_)
      rw [← h1 0 (by omega)]
      rw [← h1 1 (by omega)]
      refine gg_dupr dX9_init_173 ?_
      refine gg_callIN (B := (d, 144, 32507, 40 + 8 * f + 1, 17839 + 1208 * f + 4)) (own := RX9) (yt := gm_X1_init) (rest := [.ref (ad1 (41 + 8 * f)), .int (iv (f : Int)), .ref (ad1 1)]) rfl (List.mem_of_getElem? (i := 0) rfl) gk_X1_init gr_X1_init dX9_init_174 (c_X1_init (d := d - 1) (a := (41 + 8 * f)) (n := (41 + 8 * f + 1)) (by omega) k0 k1 k2 k3 g1 (by omega)) rfl rfl rfl (Nat.le_of_ble_eq_true rfl) (by show _ ≤ d; omega) ⟨by dsimp only; omega, by dsimp only; omega⟩ (fun r μ' hc => ?_)
      obtain ⟨rfl, ad2, h2, g2, rfl⟩ := hc
      show gG l Γ gm_X9_init (d, 144, 32507, 40 + 8 * f + 4, 17839 + 1208 * f + 604) 177 _ _ _ _
      rw [← h2 0 (by omega)]
      rw [← h2 1 (by omega)]
      rw [← h2 (41 + 8 * f) (by omega)]
      refine gg_aastR (B := (d, 144, 32507, 40 + 8 * f + 4, 17839 + 1208 * f + 604)) (t := 4) (ci := 1) (k := 1) (v := (41 + 8 * f)) (j := f) (len := 12) (by decide) rfl (by omega) dX9_init_177 rfl (by omega) k0 (by omega) (by omega) rfl hf ?_
      have g3 := gNew_ref (k := 1) (j := f) (v := (41 + 8 * f)) g2 (by omega) (by omega) (by omega)
      refine gg_aload_n dX9_init_178 1 rfl ?_
      refine gg_gR (k := 0) (w := 2) rfl gf_RX9_15 dX9_init_179 rfl (by omega) (by decide) (by decide) (by show (gnr (gnr (gnr (gnr (gRf f) (41 + 8 * f) 0 (41 + 8 * f + 1)) (41 + 8 * f) 1 (41 + 8 * f + 2)) (41 + 8 * f) 2 (41 + 8 * f + 3)) 1 f (41 + 8 * f)) 0 1 = _; rw [gnr_other (by omega), gnr_other (by omega), gnr_other (by omega), gnr_other (by omega)]; show gRf f 0 1 = _; unfold gRf; rw [if_neg (by omega), if_neg (by omega), if_pos (by omega)]; rfl) ?_
      refine gg_iload_n dX9_init_182 0 rfl ?_
      refine gg_nO (n' := 41 + 8 * f + 5) (u' := 40 + 8 * f + 5) (v' := 17839 + 1208 * f + 608) (ci := 1) (N := 4) rfl (by decide) rfl gc_RX9_9 gi_RX1 gk_X1_init.1.2.1 (by decide +kernel) k4 ⟨by omega, by omega, by omega⟩ dX9_init_183 g3 ⟨by omega, by omega, by omega⟩ (fun ad4 h4 g4 => ?_)
      rw [← h4 0 (by omega)]
      rw [← h4 2 (by omega)]
      refine gg_dupr dX9_init_186 ?_
      refine gg_callIN (B := (d, 144, 32507, 40 + 8 * f + 5, 17839 + 1208 * f + 608)) (own := RX9) (yt := gm_X1_init) (rest := [.ref (ad4 (41 + 8 * f + 4)), .int (iv (f : Int)), .ref (ad4 2)]) rfl (List.mem_of_getElem? (i := 0) rfl) gk_X1_init gr_X1_init dX9_init_187 (c_X1_init (d := d - 1) (a := (41 + 8 * f + 4)) (n := (41 + 8 * f + 5)) (by omega) k4 k5 k6 k7 g4 (by omega)) rfl rfl rfl (Nat.le_of_ble_eq_true rfl) (by show _ ≤ d; omega) ⟨by dsimp only; omega, by dsimp only; omega⟩ (fun r μ' hc => ?_)
      obtain ⟨rfl, ad5, h5, g5, rfl⟩ := hc
      show gG l Γ gm_X9_init (d, 144, 32507, 40 + 8 * f + 8, 17839 + 1208 * f + 1208) 190 _ _ _ _
      rw [← h5 0 (by omega)]
      rw [← h5 2 (by omega)]
      rw [← h5 (41 + 8 * f + 4) (by omega)]
      refine gg_aastR (B := (d, 144, 32507, 40 + 8 * f + 8, 17839 + 1208 * f + 1208)) (t := 4) (ci := 1) (k := 2) (v := (41 + 8 * f + 4)) (j := f) (len := 12) (by decide) rfl (by omega) dX9_init_190 rfl (by omega) k4 (by omega) (by omega) rfl hf ?_
      have g6 := gNew_ref (k := 2) (j := f) (v := (41 + 8 * f + 4)) g5 (by omega) (by omega) (by omega)
      have hst := gRf_step hf rfl g6
      refine gg_rf g6 hst.1 hst.2 (fun hg2 => ?_)
      refine gg_iincv (ls' := [(1, .int (iv ((f + 1 : Nat) : Int))), (0, .ref (ad5 0))]) dX9_init_191 0 rfl (by omega) (by decide) rfl ?_
      refine gg_goto (tgt := 159) dX9_init_194 (by decide) ?_
      refine gg_wide (B' := (d, 144, 32507, 40 + 8 * (f + 1), 17839 + 1208 * (f + 1))) ⟨rfl, rfl, rfl⟩ (by dsimp only; omega) (by dsimp only; omega) ?_
      exact ih (f + 1) ad5 (by omega) (by omega) ((h5 0 (by omega)).trans ((h4 0 (by omega)).trans ((h2 0 (by omega)).trans (h1 0 (by omega)))) |>.trans ha) hg2
set_option maxRecDepth 10000 in
theorem c_X9_init {l : Launch} {Γ : gC} {d : Nat} {ad : Nat → Nat} {I : Nat → Nat → Int} {J : Nat → Nat → Int64} (hg : gNew 1 gR0 I J) (hd : 2 ≤ d) : gK l Γ gm_X9_init d 144 32507 [.ref (ad 0)] ((1, gSh, gR0, ad), I, J) (gP9 (ad 0) I J) := by
  refine gK_of gk_X9_init.1 (Nat.le_of_ble_eq_true rfl) ?_
  show gG l Γ gm_X9_init (d, 144, 32507, 0, 0) 0 [(0, .ref (ad 0))] [] _ (gP9 (ad 0) I J)
  obtain ⟨a0, ha⟩ : ∃ a0, ad 0 = a0 := ⟨_, rfl⟩
  suffices h : gG l Γ gm_X9_init (d, 144, 32507, 0, 0) 0 [(0, .ref (ad 0))] [] ((1, gSh, gR0, ad), I, J) (gP9 a0 I J) by rw [← ha] at h; exact h
  refine gg_aload_n dX9_init_0 0 rfl ?_
  refine gg_obj rfl go_RX9 dX9_init_1 (by show 1 ≤ d; omega) ?_
  refine gg_aload_n dX9_init_4 0 rfl ?_
  refine gg_bipush dX9_init_5 (by decide) ?_
  refine gg_nF (n' := 2) (u' := 1) (v' := 12) (len := 12) rfl rfl rfl ⟨rfl, rfl, rfl⟩ dX9_init_7 hg ⟨by omega, by decide, by decide, by decide⟩ (fun ad1 h1 g1 => ?_)
  rw [← h1 0 (by omega)]
  refine gg_pR (k := 0) (w := 1) rfl gf_RX9_11 dX9_init_10 rfl ⟨by omega, by omega, by decide, by decide⟩ (by decide) rfl rfl rfl g1 (fun g2 => ?_)
  refine gg_aload_n dX9_init_13 0 rfl ?_
  refine gg_bipush dX9_init_14 (by decide) ?_
  refine gg_nF (n' := 3) (u' := 2) (v' := 24) (len := 12) rfl rfl rfl ⟨rfl, rfl, rfl⟩ dX9_init_16 g2 ⟨by omega, by decide, by decide, by decide⟩ (fun ad3 h3 g3 => ?_)
  rw [← h3 0 (by omega)]
  refine gg_pR (k := 0) (w := 2) rfl gf_RX9_15 dX9_init_19 rfl ⟨by omega, by omega, by decide, by decide⟩ (by decide) rfl rfl rfl g3 (fun g4 => ?_)
  refine gg_aload_n dX9_init_22 0 rfl ?_
  refine gg_bipush dX9_init_23 (by decide) ?_
  refine gg_nI (n' := 4) (u' := 3) (v' := 32) (len := 8) rfl rfl ⟨rfl, rfl, rfl⟩ dX9_init_25 g4 ⟨by omega, by decide, by decide, by decide⟩ (fun ad5 h5 g5 => ?_)
  rw [← h5 0 (by omega)]
  refine gg_pR (k := 0) (w := 3) rfl gf_RX9_18 dX9_init_27 rfl ⟨by omega, by omega, by decide, by decide⟩ (by decide) rfl rfl rfl g5 (fun g6 => ?_)
  refine gg_aload_n dX9_init_30 0 rfl ?_
  refine gg_bipush dX9_init_31 (by decide) ?_
  refine gg_nI (n' := 5) (u' := 4) (v' := 40) (len := 8) rfl rfl ⟨rfl, rfl, rfl⟩ dX9_init_33 g6 ⟨by omega, by decide, by decide, by decide⟩ (fun ad7 h7 g7 => ?_)
  rw [← h7 0 (by omega)]
  refine gg_pR (k := 0) (w := 4) rfl gf_RX9_22 dX9_init_35 rfl ⟨by omega, by omega, by decide, by decide⟩ (by decide) rfl rfl rfl g7 (fun g8 => ?_)
  refine gg_aload_n dX9_init_38 0 rfl ?_
  refine gg_iconst dX9_init_39 ?_
  refine gg_nS (n' := 6) (u' := 5) (v' := 44) (len := 4) rfl rfl rfl ⟨rfl, rfl, rfl⟩ dX9_init_40 g8 ⟨by omega, by decide, by decide, by decide⟩ (fun ad9 h9 g9 => ?_)
  rw [← h9 0 (by omega)]
  refine gg_pR (k := 0) (w := 5) rfl gf_RX9_27 dX9_init_43 rfl ⟨by omega, by omega, by decide, by decide⟩ (by decide) rfl rfl rfl g9 (fun g10 => ?_)
  refine gg_aload_n dX9_init_46 0 rfl ?_
  refine gg_iconst dX9_init_47 ?_
  refine gg_nI (n' := 7) (u' := 6) (v' := 49) (len := 5) rfl rfl ⟨rfl, rfl, rfl⟩ dX9_init_48 g10 ⟨by omega, by decide, by decide, by decide⟩ (fun ad11 h11 g11 => ?_)
  rw [← h11 0 (by omega)]
  refine gg_pR (k := 0) (w := 6) rfl gf_RX9_31 dX9_init_50 rfl ⟨by omega, by omega, by decide, by decide⟩ (by decide) rfl rfl rfl g11 (fun g12 => ?_)
  refine gg_aload_n dX9_init_53 0 rfl ?_
  refine gg_bipush dX9_init_54 (by decide) ?_
  refine gg_nI (n' := 8) (u' := 7) (v' := 57) (len := 8) rfl rfl ⟨rfl, rfl, rfl⟩ dX9_init_56 g12 ⟨by omega, by decide, by decide, by decide⟩ (fun ad13 h13 g13 => ?_)
  rw [← h13 0 (by omega)]
  refine gg_pR (k := 0) (w := 7) rfl gf_RX9_34 dX9_init_58 rfl ⟨by omega, by omega, by decide, by decide⟩ (by decide) rfl rfl rfl g13 (fun g14 => ?_)
  refine gg_aload_n dX9_init_61 0 rfl ?_
  refine gg_nO (n' := 9) (u' := 8) (v' := 61) (ci := 1) (N := 4) rfl (by decide) rfl gc_RX9_9 gi_RX1 gk_X1_init.1.2.1 (by decide +kernel) rfl ⟨rfl, rfl, rfl⟩ dX9_init_62 g14 ⟨by omega, by decide, by decide⟩ (fun ad15 h15 g15 => ?_)
  rw [← h15 0 (by omega)]
  refine gg_dupr dX9_init_65 ?_
  refine gg_callIN (B := (d, 144, 32507, 8, 61)) (own := RX9) (yt := gm_X1_init) (rest := [.ref (ad15 8), .ref (ad15 0)]) rfl (List.mem_of_getElem? (i := 0) rfl) gk_X1_init gr_X1_init dX9_init_66 (c_X1_init (d := d - 1) (a := 8) (n := 9) (by omega) rfl rfl rfl rfl g15 (by omega)) rfl rfl rfl (Nat.le_of_ble_eq_true rfl) (by show _ ≤ d; omega) ⟨Nat.le_of_ble_eq_true rfl, Nat.le_of_ble_eq_true rfl⟩ (fun r μ' hc => ?_)
  obtain ⟨rfl, ad16, h16, g16, rfl⟩ := hc
  show gG l Γ gm_X9_init (d, 144, 32507, 11, 661) 69 _ _ _ _
  rw [← h16 0 (by omega)]
  rw [← h16 8 (by omega)]
  refine gg_pR (k := 0) (w := 8) rfl gf_RX9_38 dX9_init_69 rfl ⟨by omega, by omega, by decide, by decide⟩ (by decide) rfl rfl rfl g16 (fun g17 => ?_)
  refine gg_aload_n dX9_init_72 0 rfl ?_
  refine gg_nO (n' := 13) (u' := 12) (v' := 670) (ci := 0) (N := 9) rfl (by decide) rfl gc_RX9_42 gi_RX0 gk_X0_init.1.2.1 (by decide +kernel) rfl ⟨rfl, rfl, rfl⟩ dX9_init_73 g17 ⟨by omega, by decide, by decide⟩ (fun ad18 h18 g18 => ?_)
  rw [← h18 0 (by omega)]
  refine gg_dupr dX9_init_76 ?_
  refine gg_callIN (B := (d, 144, 32507, 12, 670)) (own := RX9) (yt := gm_X0_init) (rest := [.ref (ad18 12), .ref (ad18 0)]) rfl (List.mem_of_getElem? (i := 1) rfl) gk_X0_init gr_X0_init dX9_init_77 (c_X0_init (d := d - 1) g18 (by omega)) rfl rfl rfl (Nat.le_of_ble_eq_true rfl) (by show _ ≤ d; omega) ⟨Nat.le_of_ble_eq_true rfl, Nat.le_of_ble_eq_true rfl⟩ (fun r μ' hc => ?_)
  obtain ⟨rfl, ad19, h19, g19, rfl⟩ := hc
  show gG l Γ gm_X9_init (d, 144, 32507, 19, 8470) 80 _ _ _ _
  rw [← h19 0 (by omega)]
  rw [← h19 12 (by omega)]
  refine gg_pR (k := 0) (w := 12) rfl gf_RX9_45 dX9_init_80 rfl ⟨by omega, by omega, by decide, by decide⟩ (by decide) rfl rfl rfl g19 (fun g20 => ?_)
  refine gg_aload_n dX9_init_83 0 rfl ?_
  refine gg_nO (n' := 21) (u' := 20) (v' := 8478) (ci := 5) (N := 8) rfl (by decide) rfl gc_RX9_49 gi_RX5 gk_X5_init.1.2.1 (by decide +kernel) rfl ⟨rfl, rfl, rfl⟩ dX9_init_84 g20 ⟨by omega, by decide, by decide⟩ (fun ad21 h21 g21 => ?_)
  rw [← h21 0 (by omega)]
  refine gg_dupr dX9_init_87 ?_
  refine gg_aload_n dX9_init_88 0 rfl ?_
  refine gg_gR (k := 0) (w := 12) rfl gf_RX9_45 dX9_init_89 rfl (by omega) (by decide) (by decide) rfl ?_
  refine gg_callI (B := (d, 144, 32507, 20, 8478)) (own := RX9) (yt := gm_X5_init) (rest := [.ref (ad21 20), .ref (ad21 0)]) rfl gl_RX9_51 gk_X5_init gr_X5_init dX9_init_92 (c_X5_init (d := d - 1) g21 (by omega)) rfl rfl rfl (Nat.le_of_ble_eq_true rfl) (by show _ ≤ d; omega) ⟨Nat.le_of_ble_eq_true rfl, Nat.le_of_ble_eq_true rfl⟩ (fun r μ' hc => ?_)
  obtain ⟨rfl, ad22, h22, g22, rfl⟩ := hc
  show gG l Γ gm_X9_init (d, 144, 32507, 21, 8598) 95 _ _ _ _
  rw [← h22 0 (by omega)]
  rw [← h22 20 (by omega)]
  refine gg_pR (k := 0) (w := 20) rfl gf_RX9_54 dX9_init_95 rfl ⟨by omega, by omega, by decide, by decide⟩ (by decide) rfl rfl rfl g22 (fun g23 => ?_)
  refine gg_aload_n dX9_init_98 0 rfl ?_
  refine gg_nO (n' := 23) (u' := 22) (v' := 8601) (ci := 7) (N := 3) rfl (by decide) rfl gc_RX9_58 gi_RX7 gk_X7_init.1.2.1 (by decide +kernel) rfl ⟨rfl, rfl, rfl⟩ dX9_init_99 g23 ⟨by omega, by decide, by decide⟩ (fun ad24 h24 g24 => ?_)
  rw [← h24 0 (by omega)]
  refine gg_dupr dX9_init_102 ?_
  refine gg_aload_n dX9_init_103 0 rfl ?_
  refine gg_gR (k := 0) (w := 12) rfl gf_RX9_45 dX9_init_104 rfl (by omega) (by decide) (by decide) rfl ?_
  refine gg_callI (B := (d, 144, 32507, 22, 8601)) (own := RX9) (yt := gm_X7_init) (rest := [.ref (ad24 22), .ref (ad24 0)]) rfl gl_RX9_60 gk_X7_init gr_X7_init dX9_init_107 (c_X7_init (d := d - 1) g24 (by omega)) rfl rfl rfl (Nat.le_of_ble_eq_true rfl) (by show _ ≤ d; omega) ⟨Nat.le_of_ble_eq_true rfl, Nat.le_of_ble_eq_true rfl⟩ (fun r μ' hc => ?_)
  obtain ⟨rfl, ad25, h25, g25, rfl⟩ := hc
  show gG l Γ gm_X9_init (d, 144, 32507, 24, 9001) 110 _ _ _ _
  rw [← h25 0 (by omega)]
  rw [← h25 22 (by omega)]
  refine gg_pR (k := 0) (w := 22) rfl gf_RX9_61 dX9_init_110 rfl ⟨by omega, by omega, by decide, by decide⟩ (by decide) rfl rfl rfl g25 (fun g26 => ?_)
  refine gg_aload_n dX9_init_113 0 rfl ?_
  refine gg_nO (n' := 26) (u' := 25) (v' := 9003) (ci := 8) (N := 2) rfl (by decide) rfl gc_RX9_65 gi_RX8 gk_X8_init.1.2.1 (by decide +kernel) rfl ⟨rfl, rfl, rfl⟩ dX9_init_114 g26 ⟨by omega, by decide, by decide⟩ (fun ad27 h27 g27 => ?_)
  rw [← h27 0 (by omega)]
  refine gg_dupr dX9_init_117 ?_
  refine gg_callIN (B := (d, 144, 32507, 25, 9003)) (own := RX9) (yt := gm_X8_init) (rest := [.ref (ad27 25), .ref (ad27 0)]) rfl (List.mem_of_getElem? (i := 2) rfl) gk_X8_init gr_X8_init dX9_init_118 (c_X8_init (d := d - 1) g27 (by omega)) rfl rfl rfl (Nat.le_of_ble_eq_true rfl) (by show _ ≤ d; omega) ⟨Nat.le_of_ble_eq_true rfl, Nat.le_of_ble_eq_true rfl⟩ (fun r μ' hc => ?_)
  obtain ⟨rfl, ad28, h28, g28, rfl⟩ := hc
  show gG l Γ gm_X9_init (d, 144, 32507, 27, 9403) 121 _ _ _ _
  rw [← h28 0 (by omega)]
  rw [← h28 25 (by omega)]
  refine gg_pR (k := 0) (w := 25) rfl gf_RX9_68 dX9_init_121 rfl ⟨by omega, by omega, by decide, by decide⟩ (by decide) rfl rfl rfl g28 (fun g29 => ?_)
  refine gg_aload_n dX9_init_124 0 rfl ?_
  refine gg_nO (n' := 29) (u' := 28) (v' := 9408) (ci := 4) (N := 5) rfl (by decide) rfl gc_RX9_72 gi_RX4 gk_X4_init.1.2.1 (by decide +kernel) rfl ⟨rfl, rfl, rfl⟩ dX9_init_125 g29 ⟨by omega, by decide, by decide⟩ (fun ad30 h30 g30 => ?_)
  rw [← h30 0 (by omega)]
  refine gg_dupr dX9_init_128 ?_
  refine gg_callIN (B := (d, 144, 32507, 28, 9408)) (own := RX9) (yt := gm_X4_init) (rest := [.ref (ad30 28), .ref (ad30 0)]) rfl (List.mem_of_getElem? (i := 3) rfl) gk_X4_init gr_X4_init dX9_init_129 (c_X4_init (d := d - 1) g30 (by omega)) rfl rfl rfl (Nat.le_of_ble_eq_true rfl) (by show _ ≤ d; omega) ⟨Nat.le_of_ble_eq_true rfl, Nat.le_of_ble_eq_true rfl⟩ (fun r μ' hc => ?_)
  obtain ⟨rfl, ad31, h31, g31, rfl⟩ := hc
  show gG l Γ gm_X9_init (d, 144, 32507, 31, 15828) 132 _ _ _ _
  rw [← h31 0 (by omega)]
  rw [← h31 28 (by omega)]
  refine gg_pR (k := 0) (w := 28) rfl gf_RX9_75 dX9_init_132 rfl ⟨by omega, by omega, by decide, by decide⟩ (by decide) rfl rfl rfl g31 (fun g32 => ?_)
  refine gg_aload_n dX9_init_135 0 rfl ?_
  refine gg_nO (n' := 33) (u' := 32) (v' := 15837) (ci := 3) (N := 9) rfl (by decide) rfl gc_RX9_79 gi_RX3 gk_X3_init.1.2.1 (by decide +kernel) rfl ⟨rfl, rfl, rfl⟩ dX9_init_136 g32 ⟨by omega, by decide, by decide⟩ (fun ad33 h33 g33 => ?_)
  rw [← h33 0 (by omega)]
  refine gg_dupr dX9_init_139 ?_
  refine gg_callIN (B := (d, 144, 32507, 32, 15837)) (own := RX9) (yt := gm_X3_init) (rest := [.ref (ad33 32), .ref (ad33 0)]) rfl (List.mem_of_getElem? (i := 4) rfl) gk_X3_init gr_X3_init dX9_init_140 (c_X3_init (d := d - 1) g33 (by omega)) rfl rfl rfl (Nat.le_of_ble_eq_true rfl) (by show _ ≤ d; omega) ⟨Nat.le_of_ble_eq_true rfl, Nat.le_of_ble_eq_true rfl⟩ (fun r μ' hc => ?_)
  obtain ⟨rfl, ad34, h34, g34, rfl⟩ := hc
  show gG l Γ gm_X9_init (d, 144, 32507, 37, 17437) 143 _ _ _ _
  rw [← h34 0 (by omega)]
  rw [← h34 32 (by omega)]
  refine gg_pR (k := 0) (w := 32) rfl gf_RX9_82 dX9_init_143 rfl ⟨by omega, by omega, by decide, by decide⟩ (by decide) rfl rfl rfl g34 (fun g35 => ?_)
  refine gg_aload_n dX9_init_146 0 rfl ?_
  refine gg_nO (n' := 39) (u' := 38) (v' := 17439) (ci := 2) (N := 2) rfl (by decide) rfl gc_RX9_86 gi_RX2 gk_X2_init.1.2.1 (by decide +kernel) rfl ⟨rfl, rfl, rfl⟩ dX9_init_147 g35 ⟨by omega, by decide, by decide⟩ (fun ad36 h36 g36 => ?_)
  rw [← h36 0 (by omega)]
  refine gg_dupr dX9_init_150 ?_
  refine gg_callIN (B := (d, 144, 32507, 38, 17439)) (own := RX9) (yt := gm_X2_init) (rest := [.ref (ad36 38), .ref (ad36 0)]) rfl (List.mem_of_getElem? (i := 5) rfl) gk_X2_init gr_X2_init dX9_init_151 (c_X2_init (d := d - 1) g36 (by omega)) rfl rfl rfl (Nat.le_of_ble_eq_true rfl) (by show _ ≤ d; omega) ⟨Nat.le_of_ble_eq_true rfl, Nat.le_of_ble_eq_true rfl⟩ (fun r μ' hc => ?_)
  obtain ⟨rfl, ad37, h37, g37, rfl⟩ := hc
  show gG l Γ gm_X9_init (d, 144, 32507, 40, 17839) 154 _ _ _ _
  rw [← h37 0 (by omega)]
  rw [← h37 38 (by omega)]
  refine gg_pR (k := 0) (w := 38) rfl gf_RX9_89 dX9_init_154 rfl ⟨by omega, by omega, by decide, by decide⟩ (by decide) rfl rfl rfl g37 (fun g38 => ?_)
  refine gg_iconst dX9_init_157 ?_
  refine gg_istore_n (ls' := [(1, .int (iv 0)), (0, .ref (ad37 0))]) dX9_init_158 rfl (by decide) rfl ?_
  refine gg_rf (n := 41) (rf' := gRf 0) g38 (gR_eq g38 (fun k j h => gRf_none h) (fun k hk j hj => ?_)) (fun k hk j => by unfold gRf; rw [if_neg (by omega), if_neg (by omega), if_neg (by omega)]) (fun hg2 => ?_)
  · have z : ∀ k : Fin 41, ∀ j : Fin 40, (gnr (gnr (gnr (gnr (gnr (gnr (gnr (gnr (gnr (gnr (gnr (gnr (gnr (gnr (gnr (gnr (gnr (gnr (gnr (gnr (gnr (gnr (gnr (gnr (gnr (gnr (gnr (gnr (gnr (gnr (gnr (gnr (gnr (gnr (gnr (gnr (gnr (gnr (gnr (gnr (gnr (gnr gR0 0 0 1) 0 1 2) 0 2 3) 0 3 4) 0 5 5) 0 6 6) 0 7 7) 8 0 9) 8 1 10) 8 2 11) 0 8 8) 12 0 13) 12 1 14) 12 2 15) 12 3 16) 12 4 17) 12 5 18) 12 7 19) 0 9 12) 20 1 21) 20 0 12) 0 10 20) 22 1 23) 22 2 24) 22 0 12) 0 11 22) 25 0 26) 25 1 27) 0 12 25) 28 0 29) 28 2 30) 28 4 31) 0 13 28) 32 0 33) 32 1 34) 32 3 35) 32 4 36) 32 5 37) 0 14 32) 38 0 39) 38 1 40) 0 15 38) k.val j.val = gRf 0 k.val j.val := by decide +kernel
    exact z ⟨k, hk⟩ ⟨j, hj⟩
  exact w_X9_init_f hd 13 0 ad37 (by omega) (by omega) ((h37 0 (by omega)).trans ((h36 0 (by omega)).trans ((h34 0 (by omega)).trans ((h33 0 (by omega)).trans ((h31 0 (by omega)).trans ((h30 0 (by omega)).trans ((h28 0 (by omega)).trans ((h27 0 (by omega)).trans ((h25 0 (by omega)).trans ((h24 0 (by omega)).trans ((h22 0 (by omega)).trans ((h21 0 (by omega)).trans ((h19 0 (by omega)).trans ((h18 0 (by omega)).trans ((h16 0 (by omega)).trans ((h15 0 (by omega)).trans ((h13 0 (by omega)).trans ((h11 0 (by omega)).trans ((h9 0 (by omega)).trans ((h7 0 (by omega)).trans ((h5 0 (by omega)).trans ((h3 0 (by omega)).trans (h1 0 (by omega))))))))))))))))))))))) |>.trans ha) hg2
