/-! methods that change what is held -/
def gShU (s : gShs) (t : Nat) (so : Int) (sn : Nat) (C : Nat → Int) : gShs := (fun q => if q = t then so else s.1 q, fun q => if q = t then sn else s.2.1 q, fun q => if q = t then C else s.2.2 q)
section UP
variable {I I1 : Nat → Nat → Int} {J J1 : Nat → Nat → Int64} {R : Nat → gRow} {s : gShs} {r : gRow} {f t sn : Nat} {so : Int} {C : Nat → Int}
theorem gQS_up (h : gQS s I) (ht : t < 4) (hI : ∀ p q, (137 ≤ p ∧ p < 145) ∧ p ≠ 137 + 2 * t ∧ p ≠ 138 + 2 * t → I1 p q = I p q) (h1 : I1 (137 + 2 * t) 1 = so) (h2 : I1 (137 + 2 * t) 2 = (sn : Int)) (h3 : ∀ j, j < sn → I1 (138 + 2 * t) j = C j) : gQS (gShU s t so sn C) I1 := fun q hq => by
  by_cases c : q = t
  · subst c
    show I1 (137 + 2 * q) 1 = (if q = q then so else s.1 q) ∧ I1 (137 + 2 * q) 2 = ((if q = q then sn else s.2.1 q : Nat) : Int) ∧ ∀ j, j < (if q = q then sn else s.2.1 q) → I1 (138 + 2 * q) j = (if q = q then C else s.2.2 q) j
    rw [if_pos rfl, if_pos rfl, if_pos rfl]
    exact ⟨h1, h2, h3⟩
  · show I1 (137 + 2 * q) 1 = (if q = t then so else s.1 q) ∧ I1 (137 + 2 * q) 2 = ((if q = t then sn else s.2.1 q : Nat) : Int) ∧ ∀ j, j < (if q = t then sn else s.2.1 q) → I1 (138 + 2 * q) j = (if q = t then C else s.2.2 q) j
    rw [if_neg c, if_neg c, if_neg c]
    exact ⟨(hI _ _ (by omega)).trans (h q hq).1, (hI _ _ (by omega)).trans (h q hq).2.1, fun j hj => (hI _ _ (by omega)).trans ((h q hq).2.2 j hj)⟩
theorem gNS_up (h : gNSh s I) (ht : t < 4) (hI : ∀ p q, ((p = 237 ∨ p = 238) ∧ q ≠ t) ∨ (240 ≤ p ∧ p < 244 ∧ p ≠ 240 + t) → I1 p q = I p q) (h1 : I1 237 t = so) (h2 : I1 238 t = (sn : Int)) (h3 : ∀ j, j < sn → I1 (240 + t) j = C j) : gNSh (gShU s t so sn C) I1 := fun q hq => by
  by_cases c : q = t
  · subst c
    show I1 237 q = (if q = q then so else s.1 q) ∧ I1 238 q = ((if q = q then sn else s.2.1 q : Nat) : Int) ∧ ∀ j, j < (if q = q then sn else s.2.1 q) → I1 (240 + q) j = (if q = q then C else s.2.2 q) j
    rw [if_pos rfl, if_pos rfl, if_pos rfl]
    exact ⟨h1, h2, h3⟩
  · show I1 237 q = (if q = t then so else s.1 q) ∧ I1 238 q = ((if q = t then sn else s.2.1 q : Nat) : Int) ∧ ∀ j, j < (if q = t then sn else s.2.1 q) → I1 (240 + q) j = (if q = t then C else s.2.2 q) j
    rw [if_neg c, if_neg c, if_neg c]
    exact ⟨(hI _ _ (by omega)).trans (h q hq).1, (hI _ _ (by omega)).trans (h q hq).2.1, fun j hj => (hI _ _ (by omega)).trans ((h q hq).2.2 j hj)⟩
theorem gShOk_up (h : gShOk s) (h1 : -1 ≤ so ∧ so ≤ 1) (h2 : sn ≤ 40) (h3 : ∀ j, j < sn → gRng (C j)) : gShOk (gShU s t so sn C) := fun q hq => by
  by_cases c : q = t
  · subst c
    show (-1 ≤ (if q = q then so else s.1 q) ∧ (if q = q then so else s.1 q) ≤ 1) ∧ (if q = q then sn else s.2.1 q) ≤ 40 ∧ ∀ j, j < (if q = q then sn else s.2.1 q) → gRng ((if q = q then C else s.2.2 q) j)
    rw [if_pos rfl, if_pos rfl, if_pos rfl]
    exact ⟨h1, h2, h3⟩
  · show (-1 ≤ (if q = t then so else s.1 q) ∧ (if q = t then so else s.1 q) ≤ 1) ∧ (if q = t then sn else s.2.1 q) ≤ 40 ∧ ∀ j, j < (if q = t then sn else s.2.1 q) → gRng ((if q = t then C else s.2.2 q) j)
    rw [if_neg c, if_neg c, if_neg c]
    exact h q hq
theorem gQR_up (h : gQR R I J) (hf : f < 12) (hI : ∀ p q, (41 ≤ p ∧ p < 137 ∧ (p - 41) % 8 < 4) ∧ p ≠ 41 + 8 * f ∧ p ≠ 41 + 8 * f + 1 ∧ p ≠ 41 + 8 * f + 3 → I1 p q = I p q) (hJ : ∀ p, (41 ≤ p ∧ p < 137 ∧ (p - 41) % 8 < 4) ∧ p ≠ 41 + 8 * f + 2 → J1 p = J p) (hr : gRA I1 J1 (41 + 8 * f) r) : gQR (gSr R f r) I1 J1 := fun g hg => by
  by_cases c : g = f
  · subst c
    rw [gSr_s]
    exact hr
  · rw [gSr_n c]
    exact gRA_fr (h g hg) (fun p q z => hI p q (by omega)) (hJ _ (by omega))
theorem gNR_up (h : gNR R I J) (hf : f < 12) (hI : ∀ p q, (p = 146 ∧ q ≠ f) ∨ (((148 ≤ p ∧ p < 160) ∨ (174 ≤ p ∧ p < 186)) ∧ p ≠ 148 + f ∧ p ≠ 174 + f) → I1 p q = I p q) (hJ : ∀ p, (161 ≤ p ∧ p < 173) ∧ p ≠ 161 + f → J1 p = J p) (hr : gRM I1 J1 f r) : gNR (gSr R f r) I1 J1 := fun g hg => by
  by_cases c : g = f
  · subst c
    rw [gSr_s]
    exact hr
  · rw [gSr_n c]
    exact gRM_fr (h g hg) (fun p q z => hI p q (by omega)) (hJ _ (by omega))
theorem gRW_up (h : ∀ f, f < 12 → gRW (R f)) (hr : gRW r) : ∀ g, g < 12 → gRW (gSr R f r g) := fun g hg => by
  by_cases c : g = f
  · subst c
    rw [gSr_s]
    exact hr
  · rw [gSr_n c]
    exact h g hg
end UP
section CH
variable {l : Launch} {Γ : gC} {ad : Nat → Nat} {I : Nat → Nat → Int} {J : Nat → Nat → Int64} {σ : gSgm}
/-! let -/
def gA_let (σ : gSgm) (i v : Int) : Int := if 0 ≤ i ∧ i ≤ 7 then σ.2.1 i.toNat else -2
def gU_let (σ : gSgm) (i v : Int) : gSgm := if 0 ≤ i ∧ i ≤ 7 then (σ.1, gup σ.2.1 i.toNat v, σ.2.2) else σ
theorem u_let {i v : Int} (hp : gPs σ) : gPs (gU_let σ i v) := by
  unfold gU_let
  split
  · exact hp
  · exact hp
theorem s9_let {i v : Int} (hi : gRng i) (hp : gPs σ) (hc : gCs σ I J) : gKi l Γ gm_X9_let 900 [.ref (gad (gSS ad) 0), .int (iv i), .int (iv v)] (gSS ad, I, J) (gPa ad (gU_let σ i v) I J (gA_let σ i v)) := by
  by_cases h : 0 ≤ i ∧ i ≤ 7
  · obtain ⟨q, rfl⟩ : ∃ q : Nat, i = (q : Int) := ⟨i.toNat, by omega⟩
    have hU : gU_let σ (q : Int) v = (σ.1, gup σ.2.1 q v, σ.2.2) := if_pos h
    have hA : gA_let σ (q : Int) v = σ.2.1 q := if_pos h
    refine gKi_mono (c_X9_let (q := q) (by omega) (by omega)) (fun e μ h => ?_)
    obtain ⟨rfl, rfl⟩ := h
    have hI : ∀ p, p ≠ 3 → gu I 3 q v p = I p := fun p hp => gu_other hp
    refine ⟨_, J, rfl, ?_, fun p z => ⟨hI p (by omega), rfl⟩, (hc.2.1 q (by omega)).trans hA.symm⟩
    rw [hU]
    refine ⟨gQR_fr hc.1 (fun p q z => congrFun (hI p (by omega)) q) (fun _ _ => rfl), fun a ha => ?_, gQT_fr hc.2.2.1 (fun p q z => congrFun (hI p (by omega)) q), gQK_fr hc.2.2.2.1 (fun p q z => congrFun (hI p (by omega)) q) (fun _ _ => rfl), gQS_fr hc.2.2.2.2 (fun p q z => congrFun (hI p (by omega)) q)⟩
    show (if 3 = 3 ∧ a = q then v else I 3 a) = (if a = q then v else σ.2.1 a)
    by_cases c : a = q
    · rw [if_pos ⟨rfl, c⟩, if_pos c]
    · rw [if_neg (fun z => c z.2), if_neg c]
      exact hc.2.1 a ha
  · have hU : gU_let σ i v = σ := if_neg h
    have hA : gA_let σ i v = -2 := if_neg h
    refine gKi_mono (c_X9_let_out hi h (by omega)) (fun e μ h => ?_)
    obtain ⟨rfl, rfl⟩ := h
    exact ⟨I, J, rfl, by rw [hU]; exact hc, gHi_rf, hA.symm⟩
theorem s10_let {i v : Int} (hi : gRng i) (hp : gPs σ) (hc : gMs σ I J) : gKi l Γ gm_X10_let 900 [.ref (gad (gSS ad) 145), .int (iv i), .int (iv v)] (gSS ad, I, J) (gPb ad (gU_let σ i v) I J (gA_let σ i v)) := by
  by_cases h : 0 ≤ i ∧ i ≤ 7
  · obtain ⟨q, rfl⟩ : ∃ q : Nat, i = (q : Int) := ⟨i.toNat, by omega⟩
    have hU : gU_let σ (q : Int) v = (σ.1, gup σ.2.1 q v, σ.2.2) := if_pos h
    have hA : gA_let σ (q : Int) v = σ.2.1 q := if_pos h
    refine gKi_mono (c_X10_let (q := q) (by omega) (by omega)) (fun e μ h => ?_)
    obtain ⟨rfl, rfl⟩ := h
    have hI : ∀ p, p ≠ 186 → gu I 186 q v p = I p := fun p hp => gu_other hp
    refine ⟨_, J, rfl, ?_, fun p z => ⟨hI p (by omega), rfl⟩, (hc.2.1 q (by omega)).trans hA.symm⟩
    rw [hU]
    refine ⟨gNR_fr hc.1 (fun p q z => congrFun (hI p (by omega)) q) (fun _ _ => rfl), fun a ha => ?_, gNT_fr hc.2.2.1 (fun p q z => congrFun (hI p (by omega)) q), gNK_fr hc.2.2.2.1 (fun p q z => congrFun (hI p (by omega)) q) (fun _ _ => rfl), gNS_fr hc.2.2.2.2 (fun p q z => congrFun (hI p (by omega)) q)⟩
    show (if 186 = 186 ∧ a = q then v else I 186 a) = (if a = q then v else σ.2.1 a)
    by_cases c : a = q
    · rw [if_pos ⟨rfl, c⟩, if_pos c]
    · rw [if_neg (fun z => c z.2), if_neg c]
      exact hc.2.1 a ha
  · have hU : gU_let σ i v = σ := if_neg h
    have hA : gA_let σ i v = -2 := if_neg h
    refine gKi_mono (c_X10_let_out hi h (by omega)) (fun e μ h => ?_)
    obtain ⟨rfl, rfl⟩ := h
    exact ⟨I, J, rfl, by rw [hU]; exact hc, gLo_rf, hA.symm⟩
/-! feed -/
def gFeC (n a b c e f : Int) : Prop := 1 ≤ n ∧ n ≤ 5 ∧ 0 ≤ a ∧ a ≤ 255 ∧ 0 ≤ b ∧ b ≤ 255 ∧ 0 ≤ c ∧ c ≤ 255 ∧ 0 ≤ e ∧ e ≤ 255 ∧ 0 ≤ f ∧ f ≤ 255
noncomputable def gA_feed (σ : gSgm) (n a b c e f : Int) : Int := @ite Int (gFeC n a b c e f) (Classical.propDecidable _) (if (σ.2.2.1.2 : Int) + n ≤ 120 then (σ.2.2.1.2 : Int) + n else -4) (-2)
noncomputable def gU_feed (σ : gSgm) (n a b c e f : Int) : gSgm := @ite gSgm (gFeC n a b c e f ∧ (σ.2.2.1.2 : Int) + n ≤ 120) (Classical.propDecidable _) (σ.1, σ.2.1, (fun j => if j < σ.2.2.1.2 then σ.2.2.1.1 j else gSel a b c e f (j - σ.2.2.1.2), σ.2.2.1.2 + n.toNat), σ.2.2.2) σ
theorem u_feed {n a b c e f : Int} (hp : gPs σ) : gPs (gU_feed σ n a b c e f) := by
  unfold gU_feed
  split
  · exact hp
  · exact hp
theorem gSel_rng {a b c e f : Int} {k : Nat} (ha : 0 ≤ a ∧ a ≤ 255) (hb : 0 ≤ b ∧ b ≤ 255) (hc : 0 ≤ c ∧ c ≤ 255) (he : 0 ≤ e ∧ e ≤ 255) (hf : 0 ≤ f ∧ f ≤ 255) : 0 ≤ gSel a b c e f k ∧ gSel a b c e f k ≤ 255 := by
  unfold gSel
  split
  · exact ha
  · split
    · exact hb
    · split
      · exact hc
      · split
        · exact he
        · exact hf
theorem s9_feed {n a b c e f : Int} (hn : gRng n) (ha : gRng a) (hb : gRng b) (hc0 : gRng c) (he : gRng e) (hf : gRng f) (hp : gPs σ) (hc : gCs σ I J) : gKi l Γ gm_X9_feed 900 [.ref (gad (gSS ad) 0), .int (iv n), .int (iv a), .int (iv b), .int (iv c), .int (iv e), .int (iv f)] (gSS ad, I, J) (gPa ad (gU_feed σ n a b c e f) I J (gA_feed σ n a b c e f)) := by
  by_cases h : gFeC n a b c e f
  · have h' := h
    obtain ⟨h1, h2, a1, a2, b1, b2, c1, c2, e1, e2, f1, f2⟩ := h'
    obtain ⟨n0, rfl⟩ : ∃ q : Nat, n = (q : Int) := ⟨n.toNat, by omega⟩
    obtain ⟨hm, ht, hT⟩ := hc.2.2.1
    have hA : gA_feed σ (n0 : Int) a b c e f = (if (σ.2.2.1.2 : Int) + n0 ≤ 120 then (σ.2.2.1.2 : Int) + n0 else -4) := if_pos h
    refine gKi_mono (c_X9_feed (n := n0) (t := σ.2.2.1.2) ⟨by omega, by omega⟩ ht hm ⟨a1, a2⟩ ⟨b1, b2⟩ ⟨c1, c2⟩ ⟨e1, e2⟩ ⟨f1, f2⟩ (by omega)) (fun e9 μ h9 => ?_)
    rcases h9 with ⟨hx, rfl, rfl⟩ | ⟨hx, I1, rfl, k1, k2, k3, k4, k5, rfl⟩
    · have hU : gU_feed σ (n0 : Int) a b c e f = σ := if_neg (fun z => hx (by have := z.2; omega))
      rw [if_neg (by omega)] at hA
      exact ⟨I, J, rfl, by rw [hU]; exact hc, gHi_rf, hA.symm⟩
    · have hU : gU_feed σ (n0 : Int) a b c e f = (σ.1, σ.2.1, (fun j => if j < σ.2.2.1.2 then σ.2.2.1.1 j else gSel a b c e f (j - σ.2.2.1.2), σ.2.2.1.2 + n0), σ.2.2.2) := if_pos ⟨h, by omega⟩
      rw [if_pos (by omega)] at hA
      refine ⟨I1, J, rfl, ?_, fun p z => ⟨k4 p (by omega) (by omega) (by omega), rfl⟩, hA.symm⟩
      rw [hU]
      refine ⟨gQR_fr hc.1 (fun p q z => congrFun (k4 p (by omega) (by omega) (by omega)) q) (fun _ _ => rfl), gQV_fr hc.2.1 (fun p q z => congrFun (k4 p (by omega) (by omega) (by omega)) q), ⟨by show σ.2.2.1.2 + n0 ≤ 120; omega, by show I1 20 2 = ((σ.2.2.1.2 + n0 : Nat) : Int); rw [k1]; omega, fun q hq => ?_⟩, gQK_fr hc.2.2.2.1 (fun p q z => congrFun (k4 p (by omega) (by omega) (by omega)) q) (fun _ _ => rfl), gQS_fr hc.2.2.2.2 (fun p q z => congrFun (k4 p (by omega) (by omega) (by omega)) q)⟩
      have hq : q < σ.2.2.1.2 + n0 := hq
      show I1 21 q = (if q < σ.2.2.1.2 then σ.2.2.1.1 q else gSel a b c e f (q - σ.2.2.1.2)) ∧ 0 ≤ (if q < σ.2.2.1.2 then σ.2.2.1.1 q else gSel a b c e f (q - σ.2.2.1.2)) ∧ (if q < σ.2.2.1.2 then σ.2.2.1.1 q else gSel a b c e f (q - σ.2.2.1.2)) ≤ 255
      by_cases z : q < σ.2.2.1.2
      · simp only [if_pos z]
        exact ⟨(k2 q z).trans (hT q z).1, (hT q z).2⟩
      · simp only [if_neg z]
        have hk := k3 (q - σ.2.2.1.2) (by omega)
        rw [show σ.2.2.1.2 + (q - σ.2.2.1.2) = q by omega] at hk
        exact ⟨hk, gSel_rng ⟨a1, a2⟩ ⟨b1, b2⟩ ⟨c1, c2⟩ ⟨e1, e2⟩ ⟨f1, f2⟩⟩
  · have hU : gU_feed σ n a b c e f = σ := if_neg (fun z => h z.1)
    have hA : gA_feed σ n a b c e f = -2 := if_neg h
    refine gKi_mono (c_X9_feed_out hn ha hb hc0 he hf h (by omega)) (fun e μ h => ?_)
    obtain ⟨rfl, rfl⟩ := h
    exact ⟨I, J, rfl, by rw [hU]; exact hc, gHi_rf, hA.symm⟩
theorem s10_feed {n a b c e f : Int} (hn : gRng n) (ha : gRng a) (hb : gRng b) (hc0 : gRng c) (he : gRng e) (hf : gRng f) (hp : gPs σ) (hc : gMs σ I J) : gKi l Γ gm_X10_feed 900 [.ref (gad (gSS ad) 145), .int (iv n), .int (iv a), .int (iv b), .int (iv c), .int (iv e), .int (iv f)] (gSS ad, I, J) (gPb ad (gU_feed σ n a b c e f) I J (gA_feed σ n a b c e f)) := by
  by_cases h : gFeC n a b c e f
  · have h' := h
    obtain ⟨h1, h2, a1, a2, b1, b2, c1, c2, e1, e2, f1, f2⟩ := h'
    obtain ⟨n0, rfl⟩ : ∃ q : Nat, n = (q : Int) := ⟨n.toNat, by omega⟩
    obtain ⟨hm, ht, hT⟩ := hc.2.2.1
    have hA : gA_feed σ (n0 : Int) a b c e f = (if (σ.2.2.1.2 : Int) + n0 ≤ 120 then (σ.2.2.1.2 : Int) + n0 else -4) := if_pos h
    refine gKi_mono (c_X10_feed (n := n0) (t := σ.2.2.1.2) ⟨by omega, by omega⟩ ht hm ⟨a1, a2⟩ ⟨b1, b2⟩ ⟨c1, c2⟩ ⟨e1, e2⟩ ⟨f1, f2⟩ (by omega)) (fun e9 μ h9 => ?_)
    rcases h9 with ⟨hx, rfl, rfl⟩ | ⟨hx, I1, rfl, k1, k2, k3, k4, k5, rfl⟩
    · have hU : gU_feed σ (n0 : Int) a b c e f = σ := if_neg (fun z => hx (by have := z.2; omega))
      rw [if_neg (by omega)] at hA
      exact ⟨I, J, rfl, by rw [hU]; exact hc, gLo_rf, hA.symm⟩
    · have hU : gU_feed σ (n0 : Int) a b c e f = (σ.1, σ.2.1, (fun j => if j < σ.2.2.1.2 then σ.2.2.1.1 j else gSel a b c e f (j - σ.2.2.1.2), σ.2.2.1.2 + n0), σ.2.2.2) := if_pos ⟨h, by omega⟩
      rw [if_pos (by omega)] at hA
      refine ⟨I1, J, rfl, ?_, fun p z => ⟨k4 p (by omega) (by omega), rfl⟩, hA.symm⟩
      rw [hU]
      refine ⟨gNR_fr hc.1 (fun p q z => congrFun (k4 p (by omega) (by omega)) q) (fun _ _ => rfl), gNV_fr hc.2.1 (fun p q z => congrFun (k4 p (by omega) (by omega)) q), ⟨by show σ.2.2.1.2 + n0 ≤ 120; omega, by show I1 145 10 = ((σ.2.2.1.2 + n0 : Nat) : Int); rw [k1]; omega, fun q hq => ?_⟩, gNK_fr hc.2.2.2.1 (fun p q z => by
        by_cases w : p = 145
        · subst w
          exact k5 q (by omega)
        · exact congrFun (k4 p w (by omega)) q) (fun _ _ => rfl), gNS_fr hc.2.2.2.2 (fun p q z => congrFun (k4 p (by omega) (by omega)) q)⟩
      have hq : q < σ.2.2.1.2 + n0 := hq
      show I1 189 q = (if q < σ.2.2.1.2 then σ.2.2.1.1 q else gSel a b c e f (q - σ.2.2.1.2)) ∧ 0 ≤ (if q < σ.2.2.1.2 then σ.2.2.1.1 q else gSel a b c e f (q - σ.2.2.1.2)) ∧ (if q < σ.2.2.1.2 then σ.2.2.1.1 q else gSel a b c e f (q - σ.2.2.1.2)) ≤ 255
      by_cases z : q < σ.2.2.1.2
      · simp only [if_pos z]
        exact ⟨(k2 q z).trans (hT q z).1, (hT q z).2⟩
      · simp only [if_neg z]
        have hk := k3 (q - σ.2.2.1.2) (by omega)
        rw [show σ.2.2.1.2 + (q - σ.2.2.1.2) = q by omega] at hk
        exact ⟨hk, gSel_rng ⟨a1, a2⟩ ⟨b1, b2⟩ ⟨c1, c2⟩ ⟨e1, e2⟩ ⟨f1, f2⟩⟩
  · have hU : gU_feed σ n a b c e f = σ := if_neg (fun z => h z.1)
    have hA : gA_feed σ n a b c e f = -2 := if_neg h
    refine gKi_mono (c_X10_feed_out hn ha hb hc0 he hf h (by omega)) (fun e μ h => ?_)
    obtain ⟨rfl, rfl⟩ := h
    exact ⟨I, J, rfl, by rw [hU]; exact hc, gLo_rf, hA.symm⟩
end CH
