/-! what a text is: a fault's place, or its tree and the next cursor -/
abbrev gRT : Type := Sum Nat (gLn × Nat)
def gBd (r : gRT) (k : gLn → Nat → gRT) : gRT := match r with | .inl p => .inl p | .inr x => k x.1 x.2
noncomputable def gPwL (T : Nat → Int) (n : Nat) : Nat → gLn → Nat → gRT
  | 0, t, q => .inr (t, q)
  | m + 1, t, q => if gtC T n q = 94 then (if gtC T n (gtE T n q) = 3 ∧ gtV T n (gtE T n q) ≤ 9 then gPwL T n m ((5, gi2l (gtV T n (gtE T n q))) :: t) (gtE T n (gtE T n q)) else .inl (gtP T n (gtE T n q))) else .inr (t, q)
noncomputable def gPw (T : Nat → Int) (n : Nat) (o : Nat → gRT) (q : Nat) : gRT := gBd (o q) (gPwL T n 120)
noncomputable def gTmL (T : Nat → Int) (n : Nat) (pw : Nat → gRT) : Nat → gLn → Nat → gRT
  | 0, t, q => .inr (t, q)
  | m + 1, t, q => if gtC T n q = 42 then gBd (pw (gtE T n q)) (fun t' q' => gTmL T n pw m ((4, 0) :: (t ++ t')) q') else .inr (t, q)
noncomputable def gTm (T : Nat → Int) (n : Nat) (o : Nat → gRT) (q : Nat) : gRT := gBd (gPw T n o q) (gTmL T n (gPw T n o) 120)
noncomputable def gSmL (T : Nat → Int) (n : Nat) (tm : Nat → gRT) : Nat → gLn → Nat → gRT
  | 0, t, q => .inr (t, q)
  | m + 1, t, q => if gtC T n q = 43 then gBd (tm (gtE T n q)) (fun t' q' => gSmL T n tm m ((3, 0) :: (t ++ t')) q') else if gtC T n q = 45 then gBd (tm (gtE T n q)) (fun t' q' => gSmL T n tm m ((3, 0) :: (t ++ (2, 0) :: t')) q') else .inr (t, q)
noncomputable def gSm (T : Nat → Int) (n : Nat) (o : Nat → gRT) (q : Nat) : gRT := gBd (gTm T n o q) (gSmL T n (gTm T n o) 120)
noncomputable def gChF (T : Nat → Int) (n : Nat) (sm : Nat → gRT) (q : Nat) : gRT := gBd (sm q) (fun w q1 => if gtC T n q1 = 63 then gBd (sm (gtE T n q1)) (fun a q2 => if gtC T n q2 = 58 then gBd (sm (gtE T n q2)) (fun b q3 => .inr ((6, 0) :: (w ++ (a ++ b)), q3)) else .inl (gtP T n q2)) else .inr (w, q1))
noncomputable def gEn (T : Nat → Int) (n : Nat) (o : Nat → gRT) (c : Int) (q : Nat) : gRT := gBd (gChF T n (gSm T n o) (gtE T n q)) (fun t q' => if gtC T n q' = c then .inr (t, gtE T n q') else .inl (gtP T n q'))
noncomputable def gLf (T : Nat → Int) (n : Nat) (q : Nat) : gRT := if gtC T n q = 3 then .inr ([(0, gi2l (gtV T n q))], gtE T n q) else if gtC T n q = 2 then .inr ([(1, gi2l (gtV T n q))], gtE T n q) else .inl (gtP T n q)
noncomputable def gNe (T : Nat → Int) (n : Nat) (o : Nat → gRT) (q : Nat) : gRT := gBd (o (gtE T n q)) (fun t q' => .inr ((2, 0) :: t, q'))
noncomputable def gSqr (T : Nat → Int) (n : Nat) (o : Nat → gRT) (q : Nat) : gRT := gBd (gEn T n o 93 q) (fun t q' => .inr ((7, 0) :: t, q'))
noncomputable def gOn (T : Nat → Int) (n : Nat) : Nat → Nat → gRT
  | 0, q => gLf T n q
  | u + 1, q => if gtC T n q = 45 then gNe T n (gOn T n u) q else if gtC T n q = 40 then gEn T n (gOn T n u) 41 q else if gtC T n q = 91 then gSqr T n (gOn T n u) q else gLf T n q
theorem gRun_all {P : Int → Bool} {T : Nat → Int} {n : Nat} : ∀ (m q : Nat) (j : Nat), n - q = m → q ≤ j → j < gRunE P T n q → P (T j) = true
  | 0, q, j, h, h1, h2 => by
    rw [gRunE_f (by omega)] at h2
    omega
  | m + 1, q, j, h, h1, h2 => by
    by_cases hp : P (T q) = true
    · by_cases hq : j = q
      · rw [hq]
        exact hp
      · rw [gRunE_t (by omega) hp] at h2
        exact gRun_all m (q + 1) j (by omega) (by omega) h2
    · rw [gRunE_f (fun h => hp h.2)] at h2
      omega
theorem gVl_rng {T : Nat → Int} {p : Nat} : ∀ (k : Nat), k ≤ 4 → (∀ j, p ≤ j → j < p + k → 48 ≤ T j ∧ T j ≤ 57) → 0 ≤ gVl T p k ∧ gVl T p k < 10 ^ k
  | 0, _, _ => ⟨by show (0 : Int) ≤ 0; omega, by show (0 : Int) < 10 ^ 0; decide⟩
  | k + 1, hk, h => by
    obtain ⟨h1, h2⟩ := gVl_rng k (by omega) (fun j a b => h j a (by omega))
    have h3 := h (p + k) (by omega) (by omega)
    show 0 ≤ gVl T p k * 10 + T (p + k) - 48 ∧ gVl T p k * 10 + T (p + k) - 48 < 10 ^ (k + 1)
    rw [Int.pow_succ]
    omega
theorem gtC_rng (T : Nat → Int) (n q : Nat) : 0 ≤ gtC T n q ∧ gtC T n q ≤ 94 := by
  unfold gtC
  repeat' split
  all_goals first | omega | skip
  rename_i h
  have h : T (gtP T n q) = 40 ∨ T (gtP T n q) = 41 ∨ T (gtP T n q) = 42 ∨ T (gtP T n q) = 43 ∨ T (gtP T n q) = 45 ∨ T (gtP T n q) = 58 ∨ T (gtP T n q) = 63 ∨ T (gtP T n q) = 91 ∨ T (gtP T n q) = 93 ∨ T (gtP T n q) = 94 := h
  omega
theorem gtC_23 {T : Nat → Int} {n q : Nat} : (gtC T n q = 2 → 0 ≤ gtV T n q ∧ gtV T n q ≤ 7) ∧ (gtC T n q = 3 → 0 ≤ gtV T n q ∧ gtV T n q ≤ 9999) := by
  have hd : ∀ c : Int, @ite Int (gSg (T (gtP T n q))) (Classical.propDecidable _) (T (gtP T n q)) 1 = c → c ≠ 2 ∧ c ≠ 3 := by
    intro c hc
    by_cases hs : gSg (T (gtP T n q))
    · rw [if_pos hs] at hc
      have h : T (gtP T n q) = 40 ∨ T (gtP T n q) = 41 ∨ T (gtP T n q) = 42 ∨ T (gtP T n q) = 43 ∨ T (gtP T n q) = 45 ∨ T (gtP T n q) = 58 ∨ T (gtP T n q) = 63 ∨ T (gtP T n q) = 91 ∨ T (gtP T n q) = 93 ∨ T (gtP T n q) = 94 := hs
      omega
    · rw [if_neg hs] at hc
      omega
  unfold gtC gtV
  by_cases c1 : n ≤ gtP T n q
  · rw [if_pos c1]
    exact ⟨fun h => absurd h (by decide), fun h => absurd h (by decide)⟩
  · rw [if_neg c1]
    by_cases c2 : gLt (T (gtP T n q)) = true
    · have hl : 97 ≤ T (gtP T n q) ∧ T (gtP T n q) ≤ 122 := by simpa only [gLt, decide_eq_true_eq] using c2
      rw [if_pos c2, if_pos c2]
      split
      · exact ⟨fun _ => by omega, fun h => absurd h (by decide)⟩
      · exact ⟨fun h => absurd h (by decide), fun h => absurd h (by decide)⟩
    · rw [if_neg c2, if_neg c2]
      by_cases c3 : gDgt (T (gtP T n q)) = true
      · rw [if_pos c3]
        split
        · rename_i h4
          refine ⟨fun h => absurd h (by decide), fun _ => ?_⟩
          have hE : gtE T n q = gRunE gDgt T n (gtP T n q) := by unfold gtE; rw [if_neg c1, if_neg c2, if_pos c3]
          have hr := gVl_rng (T := T) (p := gtP T n q) (gtE T n q - gtP T n q) h4 (fun j a b => by
            have := gRun_all (P := gDgt) (T := T) (n := n) _ (gtP T n q) j rfl a (by omega)
            simpa only [gDgt, decide_eq_true_eq] using this)
          have h10 : (10 : Int) ^ (gtE T n q - gtP T n q) ≤ 10 ^ 4 := by
            have : ∀ k : Fin 5, (10 : Int) ^ k.val ≤ 10 ^ 4 := by decide
            exact this ⟨gtE T n q - gtP T n q, by omega⟩
          have h1e : (10 : Int) ^ 4 = 10000 := by decide
          omega
        · exact ⟨fun h => absurd h (by decide), fun h => absurd h (by decide)⟩
      · rw [if_neg c3]
        exact ⟨fun h => absurd rfl (hd _ h).1, fun h => absurd rfl (hd _ h).2⟩
theorem gi2l_of {v : Int} (h : 0 ≤ v ∧ v ≤ 2147483647) : gi2l v = Int64.ofNat v.toNat := by
  obtain ⟨m, rfl⟩ : ∃ m : Nat, v = (m : Int) := ⟨v.toNat, by omega⟩
  rw [gi2l_nat (by omega), Int.toNat_natCast]
/-- what stays when the class reads -/
def gKeep (I : Nat → Nat → Int) (J : Nat → Nat → Int64) (I1 : Nat → Nat → Int) (J1 : Nat → Nat → Int64) : Prop := (∀ p, p ≠ 12 → p ≠ 13 → p ≠ 15 → p ≠ 16 → p ≠ 17 → p ≠ 18 → p ≠ 20 → I1 p = I p) ∧ (∀ q, q ≠ 6 → I1 12 q = I 12 q) ∧ I1 20 2 = I 20 2 ∧ (∀ p, p ≠ 14 → J1 p = J p)
theorem gKeep_r (I : Nat → Nat → Int) (J : Nat → Nat → Int64) : gKeep I J I J := ⟨fun _ _ _ _ _ _ _ _ => rfl, fun _ _ => rfl, rfl, fun _ _ => rfl⟩
theorem gKeep_t {I I1 I2 : Nat → Nat → Int} {J J1 J2 : Nat → Nat → Int64} (h : gKeep I J I1 J1) (g : gKeep I1 J1 I2 J2) : gKeep I J I2 J2 := ⟨fun p a b c d e f k => (g.1 p a b c d e f k).trans (h.1 p a b c d e f k), fun q a => (g.2.1 q a).trans (h.2.1 q a), g.2.2.1.trans h.2.2.1, fun p a => (g.2.2.2 p a).trans (h.2.2.2 p a)⟩
theorem gKeep_20 {I I1 : Nat → Nat → Int} {J : Nat → Nat → Int64} (h : gF20 I I1) : gKeep I J I1 J := ⟨fun p _ _ _ _ _ _ k => h.1 p k, fun q _ => by rw [h.1 12 (by omega)], h.2.1, fun _ _ => rfl⟩
theorem gKeep_7 {I : Nat → Nat → Int} {J : Nat → Nat → Int64} {x : Int} : gKeep I J (gu I 20 7 x) J := ⟨fun p _ _ _ _ _ _ k => gu_other k, fun q _ => gu_n (by omega), gu_n (by omega), fun _ _ => rfl⟩
theorem gKeep_D {I I1 : Nat → Nat → Int} {J J1 : Nat → Nat → Int64} (h1 : ∀ p, p ≠ 12 → p ≠ 13 → p ≠ 15 → p ≠ 16 → p ≠ 17 → p ≠ 18 → I1 p = I p) (h2 : ∀ q, q ≠ 6 → I1 12 q = I 12 q) (h3 : ∀ p, p ≠ 14 → J1 p = J p) : gKeep I J I1 J1 ∧ I1 20 = I 20 := by
  have e := h1 20 (by omega) (by omega) (by omega) (by omega) (by omega) (by omega)
  exact ⟨⟨fun p a b c d f g _ => h1 p a b c d f g, h2, by rw [e], h3⟩, e⟩
theorem gTp_p {I I1 : Nat → Nat → Int} {J J1 : Nat → Nat → Int64} {T : Nat → Int} {n : Nat} (h : gTp I T n) (g : gKeep I J I1 J1) : gTp I1 T n := ⟨h.1, g.2.2.1.trans h.2.1, fun q hq => by rw [g.1 21 (by omega) (by omega) (by omega) (by omega) (by omega) (by omega) (by omega)]; exact h.2.2 q hq⟩
theorem gRd_e {I I1 : Nat → Nat → Int} {T : Nat → Int} {n q : Nat} (h : gRd I T n q) (e : I1 20 = I 20) : gRd I1 T n q := by
  unfold gRd
  rw [e]
  exact h
theorem gDf_20 {I I1 : Nat → Nat → Int} {J : Nat → Nat → Int64} {D : List gLn} (h : gDf I J D) (g : gF20 I I1) : gDf I1 J D := gDf_W h (fun p hp => g.1 p (by omega)) (by rw [g.1 12 (by omega)]) rfl
/-- what a reading answers -/
def gRs (I1 : Nat → Nat → Int) (J1 : Nat → Nat → Int64) (D : List gLn) (q : Nat) (T : Nat → Int) (n : Nat) (r : gRT) (e : Int) : Prop := match r with
  | .inl p => e = -1 ∧ I1 20 7 = (p : Int)
  | .inr x => ∃ (E : List gLn) (rr : Nat), e = (rr : Int) ∧ gDf I1 J1 (D ++ E) ∧ (D ++ E)[rr]? = some x.1 ∧ gRd I1 T n x.2 ∧ q < x.2 ∧ x.2 ≤ n ∧ E.length + 2 * q ≤ 2 * x.2
theorem gRs_neg {I1 : Nat → Nat → Int} {J1 : Nat → Nat → Int64} {D : List gLn} {q : Nat} {T : Nat → Int} {n : Nat} {r : gRT} {e : Int} (h : gRs I1 J1 D q T n r e) (he : e < 0) : ∃ p : Nat, r = .inl p ∧ e = -1 ∧ I1 20 7 = (p : Int) := by
  cases r with
  | inl p => exact ⟨p, rfl, h.1, h.2⟩
  | inr x =>
    obtain ⟨E, rr, h1, -⟩ := h
    omega
theorem gRs_pos {I1 : Nat → Nat → Int} {J1 : Nat → Nat → Int64} {D : List gLn} {q : Nat} {T : Nat → Int} {n : Nat} {r : gRT} {e : Int} (h : gRs I1 J1 D q T n r e) (he : 0 ≤ e) : ∃ (t : gLn) (q' : Nat) (E : List gLn) (rr : Nat), r = .inr (t, q') ∧ e = (rr : Int) ∧ gDf I1 J1 (D ++ E) ∧ (D ++ E)[rr]? = some t ∧ gRd I1 T n q' ∧ q < q' ∧ q' ≤ n ∧ E.length + 2 * q ≤ 2 * q' := by
  cases r with
  | inl p =>
    have := h.1
    omega
  | inr x =>
    obtain ⟨E, rr, h1, h2, h3, h4⟩ := h
    exact ⟨x.1, x.2, E, rr, rfl, h1, h2, h3, h4⟩
theorem gRs_rng {I1 : Nat → Nat → Int} {J1 : Nat → Nat → Int64} {D : List gLn} {q : Nat} {T : Nat → Int} {n : Nat} {r : gRT} {e : Int} (h : gRs I1 J1 D q T n r e) : -1 ≤ e ∧ e ≤ 1200 := by
  cases r with
  | inl p =>
    have := h.1
    omega
  | inr x =>
    obtain ⟨E, rr, h1, h2, h3, h4⟩ := h
    have := gget_lt h3
    have := h2.2.1
    omega
def gCx (l : Launch) (Γ : gC) (ad : Nat → Nat) (mt : gY) (d : Nat) (av : List Value) (T : Nat → Int) (n : Nat) (R : Nat → gRT) : Prop := ∀ (I : Nat → Nat → Int) (J : Nat → Nat → Int64) (D : List gLn) (q : Nat), gTp I T n → gRd I T n q → gDf I J D → q ≤ n → D.length ≤ 2 * q → gKi l Γ mt d av (gSS ad, I, J) (fun e μ => ∃ I1 J1, μ = (gSS ad, I1, J1) ∧ gKeep I J I1 J1 ∧ gRs I1 J1 D q T n (R q) e)
