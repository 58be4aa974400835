/-! WHAT BOTH SIDES HOLD, told once: rows, values, the tape, the kept image, the sheets.
 gCs says that the class's places hold it, gMs that the reference's do; gPs that it is sound. -/
abbrev gRow : Type := Nat × (Nat → Nat) × (Nat → Int64) × (Nat → Nat)
abbrev gShs : Type := (Nat → Int) × (Nat → Nat) × (Nat → Nat → Int)
abbrev gKps : Type := Int × (Nat → gRow) × (Nat → Int)
abbrev gSgm : Type := (Nat → gRow) × (Nat → Int) × ((Nat → Int) × Nat) × gKps × gShs
def gRng (x : Int) : Prop := -2147483648 ≤ x ∧ x ≤ 2147483647
def gRA (I : Nat → Nat → Int) (J : Nat → Nat → Int64) (a : Nat) (r : gRow) : Prop := gAt I J a r.1 r.2.1 r.2.2.1 r.2.2.2
def gRM (I : Nat → Nat → Int) (J : Nat → Nat → Int64) (f : Nat) (r : gRow) : Prop := gMt I J f r.1 r.2.1 r.2.2.1 r.2.2.2
def gRI (I : Nat → Nat → Int) (J : Nat → Nat → Int64) (f : Nat) (r : gRow) : Prop := gMi I J f r.1 r.2.1 r.2.2.1 r.2.2.2
def gRW (r : gRow) : Prop := gWf r.1 r.2.1 r.2.2.1 r.2.2.2
def gShOk (s : gShs) : Prop := ∀ t, t < 4 → (-1 ≤ s.1 t ∧ s.1 t ≤ 1) ∧ s.2.1 t ≤ 40 ∧ ∀ j, j < s.2.1 t → gRng (s.2.2 t j)
def gPs (σ : gSgm) : Prop := (∀ f, f < 12 → gRW (σ.1 f)) ∧ (σ.2.2.2.1.1 = 0 ∨ σ.2.2.2.1.1 = 1) ∧ (σ.2.2.2.1.1 = 1 → ∀ f, f < 12 → gRW (σ.2.2.2.1.2.1 f)) ∧ gShOk σ.2.2.2.2
def gQR (R : Nat → gRow) (I : Nat → Nat → Int) (J : Nat → Nat → Int64) : Prop := ∀ f, f < 12 → gRA I J (41 + 8 * f) (R f)
def gQV (v : Nat → Int) (I : Nat → Nat → Int) : Prop := ∀ q, q < 8 → I 3 q = v q
def gQT (t : (Nat → Int) × Nat) (I : Nat → Nat → Int) : Prop := gTp I t.1 t.2
def gQK (k : gKps) (I : Nat → Nat → Int) (J : Nat → Nat → Int64) : Prop := I 0 4 = k.1 ∧ (k.1 = 1 → (∀ f, f < 12 → gRA I J (45 + 8 * f) (k.2.1 f)) ∧ ∀ q, q < 8 → I 4 q = k.2.2 q)
def gQS (s : gShs) (I : Nat → Nat → Int) : Prop := ∀ t, t < 4 → I (137 + 2 * t) 1 = s.1 t ∧ I (137 + 2 * t) 2 = (s.2.1 t : Int) ∧ ∀ j, j < s.2.1 t → I (138 + 2 * t) j = s.2.2 t j
def gCs (σ : gSgm) (I : Nat → Nat → Int) (J : Nat → Nat → Int64) : Prop := gQR σ.1 I J ∧ gQV σ.2.1 I ∧ gQT σ.2.2.1 I ∧ gQK σ.2.2.2.1 I J ∧ gQS σ.2.2.2.2 I
def gNR (R : Nat → gRow) (I : Nat → Nat → Int) (J : Nat → Nat → Int64) : Prop := ∀ f, f < 12 → gRM I J f (R f)
def gNV (v : Nat → Int) (I : Nat → Nat → Int) : Prop := ∀ q, q < 8 → I 186 q = v q
def gNT (t : (Nat → Int) × Nat) (I : Nat → Nat → Int) : Prop := gTq I t.1 t.2
def gNK (k : gKps) (I : Nat → Nat → Int) (J : Nat → Nat → Int64) : Prop := I 145 27 = k.1 ∧ (k.1 = 1 → (∀ f, f < 12 → gRI I J f (k.2.1 f)) ∧ ∀ q, q < 8 → I 197 q = k.2.2 q)
def gNSh (s : gShs) (I : Nat → Nat → Int) : Prop := ∀ t, t < 4 → I 237 t = s.1 t ∧ I 238 t = (s.2.1 t : Int) ∧ ∀ j, j < s.2.1 t → I (240 + t) j = s.2.2 t j
def gMs (σ : gSgm) (I : Nat → Nat → Int) (J : Nat → Nat → Int64) : Prop := gNR σ.1 I J ∧ gNV σ.2.1 I ∧ gNT σ.2.2.1 I ∧ gNK σ.2.2.2.1 I J ∧ gNSh σ.2.2.2.2 I
def gHi (I I1 : Nat → Nat → Int) (J J1 : Nat → Nat → Int64) : Prop := ∀ p, 145 ≤ p → I1 p = I p ∧ J1 p = J p
def gLo (I I1 : Nat → Nat → Int) (J J1 : Nat → Nat → Int64) : Prop := ∀ p, p < 145 → I1 p = I p ∧ J1 p = J p
section JN
variable {I I1 : Nat → Nat → Int} {J J1 : Nat → Nat → Int64} {R : Nat → gRow} {v : Nat → Int} {t : (Nat → Int) × Nat} {k : gKps} {s : gShs} {σ : gSgm} {r : gRow} {a f : Nat}
theorem gRA_fr (h : gRA I J a r) (hI : ∀ p q, (p = a ∧ q = 3) ∨ p = a + 1 ∨ p = a + 3 → I1 p q = I p q) (hJ : J1 (a + 2) = J (a + 2)) : gRA I1 J1 a r := by
  refine ⟨(hI a 3 (by omega)).trans h.1, fun j hj => ?_⟩
  rw [hI (a + 1) j (by omega), hI (a + 3) j (by omega), hJ]
  exact h.2 j hj
theorem gRM_fr (h : gRM I J f r) (hI : ∀ p q, (p = 146 ∧ q = f) ∨ p = 148 + f ∨ p = 174 + f → I1 p q = I p q) (hJ : J1 (161 + f) = J (161 + f)) : gRM I1 J1 f r := by
  refine ⟨(hI 146 f (by omega)).trans h.1, fun j hj => ?_⟩
  rw [hI (148 + f) j (by omega), hI (174 + f) j (by omega), hJ]
  exact h.2 j hj
theorem gRI_fr (h : gRI I J f r) (hI : ∀ p q, (p = 196 ∧ q = f) ∨ p = 199 + f ∨ p = 212 + f → I1 p q = I p q) (hJ : J1 (225 + f) = J (225 + f)) : gRI I1 J1 f r := by
  refine ⟨(hI 196 f (by omega)).trans h.1, fun j hj => ?_⟩
  rw [hI (199 + f) j (by omega), hI (212 + f) j (by omega), hJ]
  exact h.2 j hj
theorem gQR_fr (h : gQR R I J) (hI : ∀ p q, 41 ≤ p ∧ p < 137 ∧ (p - 41) % 8 < 4 → I1 p q = I p q) (hJ : ∀ p, 41 ≤ p ∧ p < 137 ∧ (p - 41) % 8 < 4 → J1 p = J p) : gQR R I1 J1 := fun f hf =>
  gRA_fr (h f hf) (fun p q z => hI p q (by omega)) (hJ _ (by omega))
theorem gQV_fr (h : gQV v I) (hI : ∀ p q, p = 3 ∧ q < 8 → I1 p q = I p q) : gQV v I1 := fun q hq => (hI 3 q ⟨rfl, hq⟩).trans (h q hq)
theorem gQT_fr (h : gQT t I) (hI : ∀ p q, (p = 20 ∧ q = 2) ∨ p = 21 → I1 p q = I p q) : gQT t I1 :=
  ⟨h.1, (hI 20 2 (by omega)).trans h.2.1, fun q hq => by rw [hI 21 q (by omega)]; exact h.2.2 q hq⟩
theorem gQK_fr (h : gQK k I J) (hI : ∀ p q, (p = 0 ∧ q = 4) ∨ p = 4 ∨ (41 ≤ p ∧ p < 137 ∧ 4 ≤ (p - 41) % 8) → I1 p q = I p q) (hJ : ∀ p, 41 ≤ p ∧ p < 137 ∧ 4 ≤ (p - 41) % 8 → J1 p = J p) : gQK k I1 J1 :=
  ⟨(hI 0 4 (by omega)).trans h.1, fun hk => ⟨fun f hf => gRA_fr ((h.2 hk).1 f hf) (fun p q z => hI p q (by omega)) (hJ _ (by omega)), fun q hq => (hI 4 q (by omega)).trans ((h.2 hk).2 q hq)⟩⟩
theorem gQS_fr (h : gQS s I) (hI : ∀ p q, 137 ≤ p ∧ p < 145 → I1 p q = I p q) : gQS s I1 := fun t ht =>
  ⟨(hI _ _ (by omega)).trans (h t ht).1, (hI _ _ (by omega)).trans (h t ht).2.1, fun j hj => (hI _ _ (by omega)).trans ((h t ht).2.2 j hj)⟩
theorem gNR_fr (h : gNR R I J) (hI : ∀ p q, p = 146 ∨ (148 ≤ p ∧ p < 160) ∨ (174 ≤ p ∧ p < 186) → I1 p q = I p q) (hJ : ∀ p, 161 ≤ p ∧ p < 173 → J1 p = J p) : gNR R I1 J1 := fun f hf =>
  gRM_fr (h f hf) (fun p q z => hI p q (by omega)) (hJ _ (by omega))
theorem gNV_fr (h : gNV v I) (hI : ∀ p q, p = 186 ∧ q < 8 → I1 p q = I p q) : gNV v I1 := fun q hq => (hI 186 q ⟨rfl, hq⟩).trans (h q hq)
theorem gNT_fr (h : gNT t I) (hI : ∀ p q, (p = 145 ∧ q = 10) ∨ p = 189 → I1 p q = I p q) : gNT t I1 :=
  ⟨h.1, (hI 145 10 (by omega)).trans h.2.1, fun q hq => by rw [hI 189 q (by omega)]; exact h.2.2 q hq⟩
theorem gNK_fr (h : gNK k I J) (hI : ∀ p q, (p = 145 ∧ q = 27) ∨ p = 196 ∨ p = 197 ∨ (199 ≤ p ∧ p < 211) ∨ (212 ≤ p ∧ p < 224) → I1 p q = I p q) (hJ : ∀ p, 225 ≤ p ∧ p < 237 → J1 p = J p) : gNK k I1 J1 :=
  ⟨(hI 145 27 (by omega)).trans h.1, fun hk => ⟨fun f hf => gRI_fr ((h.2 hk).1 f hf) (fun p q z => hI p q (by omega)) (hJ _ (by omega)), fun q hq => (hI 197 q (by omega)).trans ((h.2 hk).2 q hq)⟩⟩
theorem gNS_fr (h : gNSh s I) (hI : ∀ p q, p = 237 ∨ p = 238 ∨ (240 ≤ p ∧ p < 244) → I1 p q = I p q) : gNSh s I1 := fun t ht =>
  ⟨(hI _ _ (by omega)).trans (h t ht).1, (hI _ _ (by omega)).trans (h t ht).2.1, fun j hj => (hI _ _ (by omega)).trans ((h t ht).2.2 j hj)⟩
def gSee (p q : Nat) : Prop := p = 3 ∨ p = 4 ∨ p = 21 ∨ (41 ≤ p ∧ p < 145) ∨ (p = 0 ∧ q = 4) ∨ (p = 20 ∧ q = 2)
def gSeM (p q : Nat) : Prop := (p = 145 ∧ (q = 10 ∨ q = 27)) ∨ p = 146 ∨ (148 ≤ p ∧ p < 160) ∨ (174 ≤ p ∧ p < 186) ∨ (p = 186 ∧ q < 8) ∨ p = 189 ∨ p = 196 ∨ p = 197 ∨ (199 ≤ p ∧ p < 211) ∨ (212 ≤ p ∧ p < 224) ∨ p = 237 ∨ p = 238 ∨ (240 ≤ p ∧ p < 244)
theorem gCs_fr (h : gCs σ I J) (hI : ∀ p q, gSee p q → I1 p q = I p q) (hJ : ∀ p, 41 ≤ p ∧ p < 145 → J1 p = J p) : gCs σ I1 J1 :=
  ⟨gQR_fr h.1 (fun p q z => hI p q (by unfold gSee; omega)) (fun p z => hJ p (by omega)), gQV_fr h.2.1 (fun p q z => hI p q (by unfold gSee; omega)), gQT_fr h.2.2.1 (fun p q z => hI p q (by unfold gSee; omega)), gQK_fr h.2.2.2.1 (fun p q z => hI p q (by unfold gSee; omega)) (fun p z => hJ p (by omega)), gQS_fr h.2.2.2.2 (fun p q z => hI p q (by unfold gSee; omega))⟩
theorem gMs_fr (h : gMs σ I J) (hI : ∀ p q, gSeM p q → I1 p q = I p q) (hJ : ∀ p, (161 ≤ p ∧ p < 173) ∨ (225 ≤ p ∧ p < 237) → J1 p = J p) : gMs σ I1 J1 :=
  ⟨gNR_fr h.1 (fun p q z => hI p q (by unfold gSeM; omega)) (fun p z => hJ p (by omega)), gNV_fr h.2.1 (fun p q z => hI p q (by unfold gSeM; omega)), gNT_fr h.2.2.1 (fun p q z => hI p q (by unfold gSeM; omega)), gNK_fr h.2.2.2.1 (fun p q z => hI p q (by unfold gSeM; omega)) (fun p z => hJ p (by omega)), gNS_fr h.2.2.2.2 (fun p q z => hI p q (by unfold gSeM; omega))⟩
theorem gCs_lo (h : gCs σ I J) (hl : gLo I I1 J J1) : gCs σ I1 J1 := gCs_fr h (fun p q z => congrFun (hl p (by unfold gSee at z; omega)).1 q) (fun p z => (hl p (by omega)).2)
theorem gMs_hi (h : gMs σ I J) (hl : gHi I I1 J J1) : gMs σ I1 J1 := gMs_fr h (fun p q z => congrFun (hl p (by unfold gSeM at z; omega)).1 q) (fun p z => (hl p (by omega)).2)
theorem gHi_rf : gHi I I J J := fun _ _ => ⟨rfl, rfl⟩
theorem gLo_rf : gLo I I J J := fun _ _ => ⟨rfl, rfl⟩
end JN
/-- one row another -/
def gSr (R : Nat → gRow) (f : Nat) (r : gRow) : Nat → gRow := fun g => if g = f then r else R g
theorem gSr_s {R : Nat → gRow} {f : Nat} {r : gRow} : gSr R f r f = r := if_pos rfl
theorem gSr_n {R : Nat → gRow} {f g : Nat} {r : gRow} (h : g ≠ f) : gSr R f r g = R g := if_neg h
/-- the class's answer, the reference's -/
abbrev gPa (ad : Nat → Nat) (σ : gSgm) (I : Nat → Nat → Int) (J : Nat → Nat → Int64) (a : Int) : Int → gM → Prop := fun e μ => ∃ I1 J1, μ = (gSS ad, I1, J1) ∧ gCs σ I1 J1 ∧ gHi I I1 J J1 ∧ e = a
abbrev gPal (ad : Nat → Nat) (σ : gSgm) (I : Nat → Nat → Int) (J : Nat → Nat → Int64) (a : Int64) : Int64 → gM → Prop := fun e μ => ∃ I1 J1, μ = (gSS ad, I1, J1) ∧ gCs σ I1 J1 ∧ gHi I I1 J J1 ∧ e = a
abbrev gPb (ad : Nat → Nat) (σ : gSgm) (I : Nat → Nat → Int) (J : Nat → Nat → Int64) (a : Int) : Int → gM → Prop := fun e μ => ∃ I1 J1, μ = (gSS ad, I1, J1) ∧ gMs σ I1 J1 ∧ gLo I I1 J J1 ∧ e = a
abbrev gPbl (ad : Nat → Nat) (σ : gSgm) (I : Nat → Nat → Int) (J : Nat → Nat → Int64) (a : Int64) : Int64 → gM → Prop := fun e μ => ∃ I1 J1, μ = (gSS ad, I1, J1) ∧ gMs σ I1 J1 ∧ gLo I I1 J J1 ∧ e = a
theorem gKi_mono {l : Launch} {Γ : gC} {mt : gY} {d : Nat} {av : List Value} {μ : gM} {P P' : Int → gM → Prop} (h : gKi l Γ mt d av μ P) (hP : ∀ e μ, P e μ → P' e μ) : gKi l Γ mt d av μ P' := gK_mono h (fun r μ ⟨e, h1, h2⟩ => ⟨e, h1, hP e μ h2⟩)
theorem gKl_mono {l : Launch} {Γ : gC} {mt : gY} {d : Nat} {av : List Value} {μ : gM} {P P' : Int64 → gM → Prop} (h : gKl l Γ mt d av μ P) (hP : ∀ e μ, P e μ → P' e μ) : gKl l Γ mt d av μ P' := gK_mono h (fun r μ ⟨e, h1, h2⟩ => ⟨e, h1, hP e μ h2⟩)
theorem gEps {P : Int → Prop} {e : Int} (h : P e) (hu : ∀ a b, P a → P b → a = b) : e = Classical.epsilon P := hu _ _ h (Classical.epsilon_spec ⟨e, h⟩)
