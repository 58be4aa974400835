/-! turn, text, image, back: rows change -/
/-- a row out of a list of nodes -/
noncomputable def gLr (L : gLn) : gRow := (L.length, gRk L, gRn L, gZl L)
noncomputable def gRes (r : gRow) (st : Prop) (L : gLn) : Int × gRow := @ite (Int × gRow) st (Classical.propDecidable st) (-3, r) (if 200 < L.length then (-4, r) else ((L.length : Int), gLr L))
noncomputable def gTn (σ : gSgm) (i w b : Int) : Int × gRow :=
  if w = 0 then (0, (0, (σ.1 i.toNat).2)) else if w = 1 then gRes (σ.1 i.toNat) ((σ.1 i.toNat).1 = 0) (gFd (σ.1 i.toNat).1 (σ.1 i.toNat).2.1 (σ.1 i.toNat).2.2.1 (σ.1 i.toNat).2.2.2 0)
  else if w = 30 then (if (σ.1 b.toNat).1 = 0 then (-3, σ.1 i.toNat) else ((σ.1 b.toNat).1, σ.1 b.toNat))
  else if w < 20 then gRes (σ.1 i.toNat) ((σ.1 i.toNat).1 = 0) (gDv0 (σ.1 i.toNat).1 (w - 10) (σ.1 i.toNat).2.1 (σ.1 i.toNat).2.2.1 (σ.1 i.toNat).2.2.2 0)
  else gRes (σ.1 i.toNat) ((σ.1 i.toNat).1 = 0 ∨ (σ.1 b.toNat).1 = 0) (gRp (σ.1 i.toNat).1 (w - 20) (gSt1 (σ.1 b.toNat).2.1 (σ.1 b.toNat).2.2.1 (σ.1 b.toNat).2.2.2 0) (σ.1 i.toNat).2.1 (σ.1 i.toNat).2.2.1 (σ.1 i.toNat).2.2.2 0)
def gTuC (i w b : Int) : Prop := (0 ≤ i ∧ i ≤ 11) ∧ (w = 0 ∨ w = 1 ∨ w = 30 ∨ (10 ≤ w ∧ w ≤ 17) ∨ (20 ≤ w ∧ w ≤ 27)) ∧ (20 ≤ w → 0 ≤ b ∧ b ≤ 11)
noncomputable def gA_turn (σ : gSgm) (i w b : Int) : Int := @ite Int (gTuC i w b) (Classical.propDecidable _) (gTn σ i w b).1 (-2)
noncomputable def gU_turn (σ : gSgm) (i w b : Int) : gSgm := @ite gSgm (gTuC i w b) (Classical.propDecidable _) (gSr σ.1 i.toNat (gTn σ i w b).2, σ.2) σ
section TN
variable {l : Launch} {Γ : gC} {ad : Nat → Nat} {I I1 : Nat → Nat → Int} {J J1 : Nat → Nat → Int64} {σ : gSgm} {r : gRow} {A f : Nat} {st : Prop} {L : gLn} {e : Int}
theorem gRes_A (h : gTres I1 J1 A r.1 r.2.1 r.2.2.1 r.2.2.2 st L e) : e = (gRes r st L).1 ∧ gRA I1 J1 A (gRes r st L).2 := by
  unfold gRes
  rcases h with ⟨h1, h2, h3⟩ | ⟨h1, h2, h3, h4⟩ | ⟨h1, h2, h3, h4⟩
  · rw [if_pos h1]
    exact ⟨h2, h3⟩
  · rw [if_neg h1, if_pos h2]
    exact ⟨h3, h4⟩
  · rw [if_neg h1, if_neg (by omega)]
    exact ⟨h3, h4⟩
theorem gRes_M (h : gTresM I1 J1 f r.1 r.2.1 r.2.2.1 r.2.2.2 st L e) : e = (gRes r st L).1 ∧ gRM I1 J1 f (gRes r st L).2 := by
  unfold gRes
  rcases h with ⟨h1, h2, h3⟩ | ⟨h1, h2, h3, h4⟩ | ⟨h1, h2, h3, h4⟩
  · rw [if_pos h1]
    exact ⟨h2, h3⟩
  · rw [if_neg h1, if_pos h2]
    exact ⟨h3, h4⟩
  · rw [if_neg h1, if_neg (by omega)]
    exact ⟨h3, h4⟩
theorem gRes_W (hr : gRW r) (h : ¬ st → L.length ≤ 200 → gRW (gLr L)) : gRW (gRes r st L).2 := by
  unfold gRes
  by_cases c : st
  · rw [if_pos c]
    exact hr
  · rw [if_neg c]
    by_cases c2 : 200 < L.length
    · rw [if_pos c2]
      exact hr
    · rw [if_neg c2]
      exact h c (by omega)
theorem gTn_W {i w b : Int} (hp : gPs σ) (h : gTuC i w b) : gRW (gTn σ i w b).2 := by
  have hr := hp.1 i.toNat (by have := h.1; omega)
  unfold gTn
  by_cases c0 : w = 0
  · rw [if_pos c0]
    exact ⟨by show 0 ≤ 200; omega, fun z => absurd z (Nat.lt_irrefl 0), fun j hj => absurd hj (Nat.not_lt_zero j)⟩
  rw [if_neg c0]
  by_cases c1 : w = 1
  · rw [if_pos c1]
    refine gRes_W hr (fun hn hl => ?_)
    have := gFd_ok hr 0 (by omega)
    exact gWf_of this.1 this.2.1 hl
  rw [if_neg c1]
  by_cases c2 : w = 30
  · rw [if_pos c2]
    have hb := hp.1 b.toNat (by have := h.2.2 (by omega); omega)
    by_cases c3 : (σ.1 b.toNat).1 = 0
    · rw [if_pos c3]
      exact hr
    · rw [if_neg c3]
      exact hb
  rw [if_neg c2]
  by_cases c3 : w < 20
  · rw [if_pos c3]
    refine gRes_W hr (fun hn hl => ?_)
    have := gDv0_ok (nm := w - 10) hr 0 (by omega)
    exact gWf_of this.1 this.2 hl
  · rw [if_neg c3]
    have hb := hp.1 b.toNat (by have := h.2.2 (by have := h.2.1; omega); omega)
    refine gRes_W hr (fun hn hl => ?_)
    have hn1 : ¬ (σ.1 i.toNat).1 = 0 := fun z => hn (Or.inl z)
    have hn2 : ¬ (σ.1 b.toNat).1 = 0 := fun z => hn (Or.inr z)
    have hB : gFo (gSt1 (σ.1 b.toNat).2.1 (σ.1 b.toNat).2.2.1 (σ.1 b.toNat).2.2.2 0) 1 ∧ gNvs (gSt1 (σ.1 b.toNat).2.1 (σ.1 b.toNat).2.2.1 (σ.1 b.toNat).2.2.2 0) := ⟨gSt1_fo hb 0 (by omega), gSt1_nv hb (by omega)⟩
    have := gRp_ok (nm := w - 20) hr hB.1 hB.2 0 (by omega)
    exact gWf_of this.1 this.2 hl
theorem u_turn {i w b : Int} (hp : gPs σ) : gPs (gU_turn σ i w b) := by
  unfold gU_turn
  by_cases h : gTuC i w b
  · rw [if_pos h]
    exact ⟨gRW_up hp.1 (gTn_W hp h), hp.2⟩
  · rw [if_neg h]
    exact hp
/-- the class's side, its answer known -/
theorem s9_turn_of {i w b : Int} {f : Nat} (hf : f < 12) (hi : i = (f : Int)) (h : gTuC i w b) (hc : gCs σ I J) (hI : ∀ p, p < 12 ∨ (20 ≤ p ∧ p ≤ 21) ∨ 25 ≤ p → p ≠ 41 + 8 * f → p ≠ 41 + 8 * f + 1 → p ≠ 41 + 8 * f + 3 → I1 p = I p) (hJ : ∀ p, p ≠ 14 → p ≠ 41 + 8 * f + 2 → J1 p = J p) (he : e = (gTn σ i w b).1) (hr : gRA I1 J1 (41 + 8 * f) (gTn σ i w b).2) : ∃ I2 J2, ((gSS ad, I1, J1) : gM) = (gSS ad, I2, J2) ∧ gCs (gU_turn σ i w b) I2 J2 ∧ gHi I I2 J J2 ∧ e = gA_turn σ i w b := by
  subst hi
  have hU : gU_turn σ (f : Int) w b = (gSr σ.1 f (gTn σ (f : Int) w b).2, σ.2) := if_pos h
  have hA : gA_turn σ (f : Int) w b = (gTn σ (f : Int) w b).1 := if_pos h
  refine ⟨I1, J1, rfl, ?_, fun p z => ⟨hI p (by omega) (by omega) (by omega) (by omega), hJ p (by omega) (by omega)⟩, he.trans hA.symm⟩
  rw [hU]
  exact ⟨gQR_up hc.1 hf (fun p q z => congrFun (hI p (by omega) (by omega) (by omega) (by omega)) q) (fun p z => hJ p (by omega) (by omega)) hr, gQV_fr hc.2.1 (fun p q z => congrFun (hI p (by omega) (by omega) (by omega) (by omega)) q), gQT_fr hc.2.2.1 (fun p q z => congrFun (hI p (by omega) (by omega) (by omega) (by omega)) q), gQK_fr hc.2.2.2.1 (fun p q z => congrFun (hI p (by omega) (by omega) (by omega) (by omega)) q) (fun p z => hJ p (by omega) (by omega)), gQS_fr hc.2.2.2.2 (fun p q z => congrFun (hI p (by omega) (by omega) (by omega) (by omega)) q)⟩
theorem s10_turn_of {i w b : Int} {f : Nat} (hf : f < 12) (hi : i = (f : Int)) (h : gTuC i w b) (hc : gMs σ I J) (hI : ∀ p, p ≠ 145 → p ≠ 187 → p ≠ 146 → p ≠ 148 + f → p ≠ 174 + f → I1 p = I p) (h5 : ∀ q, q ≠ 5 → q ≠ 6 → I1 145 q = I 145 q) (h6 : ∀ q, q ≠ f → I1 146 q = I 146 q) (hJ : ∀ p, p ≠ 188 → p ≠ 161 + f → J1 p = J p) (he : e = (gTn σ i w b).1) (hr : gRM I1 J1 f (gTn σ i w b).2) : ∃ I2 J2, ((gSS ad, I1, J1) : gM) = (gSS ad, I2, J2) ∧ gMs (gU_turn σ i w b) I2 J2 ∧ gLo I I2 J J2 ∧ e = gA_turn σ i w b := by
  subst hi
  have hU : gU_turn σ (f : Int) w b = (gSr σ.1 f (gTn σ (f : Int) w b).2, σ.2) := if_pos h
  have hA : gA_turn σ (f : Int) w b = (gTn σ (f : Int) w b).1 := if_pos h
  refine ⟨I1, J1, rfl, ?_, fun p z => ⟨hI p (by omega) (by omega) (by omega) (by omega) (by omega), hJ p (by omega) (by omega)⟩, he.trans hA.symm⟩
  rw [hU]
  refine ⟨gNR_up hc.1 hf (fun p q z => ?_) (fun p z => hJ p (by omega) (by omega)) hr, gNV_fr hc.2.1 (fun p q z => congrFun (hI p (by omega) (by omega) (by omega) (by omega) (by omega)) q), gNT_fr hc.2.2.1 (fun p q z => ?_), gNK_fr hc.2.2.2.1 (fun p q z => ?_) (fun p z => hJ p (by omega) (by omega)), gNS_fr hc.2.2.2.2 (fun p q z => congrFun (hI p (by omega) (by omega) (by omega) (by omega) (by omega)) q)⟩
  · by_cases c : p = 146
    · subst c
      exact h6 q (by omega)
    · exact congrFun (hI p (by omega) (by omega) c (by omega) (by omega)) q
  · by_cases c : p = 145
    · subst c
      exact h5 q (by omega) (by omega)
    · exact congrFun (hI p c (by omega) (by omega) (by omega) (by omega)) q
  · by_cases c : p = 145
    · subst c
      exact h5 q (by omega) (by omega)
    · exact congrFun (hI p c (by omega) (by omega) (by omega) (by omega)) q
theorem gTn_0 {i b : Int} : gTn σ i 0 b = (0, (0, (σ.1 i.toNat).2)) := if_pos rfl
theorem gTn_1 {i b : Int} : gTn σ i 1 b = gRes (σ.1 i.toNat) ((σ.1 i.toNat).1 = 0) (gFd (σ.1 i.toNat).1 (σ.1 i.toNat).2.1 (σ.1 i.toNat).2.2.1 (σ.1 i.toNat).2.2.2 0) := by
  unfold gTn
  rw [if_neg (by decide), if_pos rfl]
theorem gTn_30 {i b : Int} : gTn σ i 30 b = (if (σ.1 b.toNat).1 = 0 then ((-3 : Int), σ.1 i.toNat) else (((σ.1 b.toNat).1 : Int), σ.1 b.toNat)) := by
  unfold gTn
  rw [if_neg (by decide), if_neg (by decide), if_pos rfl]
theorem gTn_d {i b nm : Int} (h : 0 ≤ nm ∧ nm < 8) : gTn σ i (10 + nm) b = gRes (σ.1 i.toNat) ((σ.1 i.toNat).1 = 0) (gDv0 (σ.1 i.toNat).1 nm (σ.1 i.toNat).2.1 (σ.1 i.toNat).2.2.1 (σ.1 i.toNat).2.2.2 0) := by
  unfold gTn
  rw [if_neg (by omega), if_neg (by omega), if_neg (by omega), if_pos (by omega), show 10 + nm - 10 = nm by omega]
theorem gTn_r {i b nm : Int} (h : 0 ≤ nm ∧ nm < 8) : gTn σ i (20 + nm) b = gRes (σ.1 i.toNat) ((σ.1 i.toNat).1 = 0 ∨ (σ.1 b.toNat).1 = 0) (gRp (σ.1 i.toNat).1 nm (gSt1 (σ.1 b.toNat).2.1 (σ.1 b.toNat).2.2.1 (σ.1 b.toNat).2.2.2 0) (σ.1 i.toNat).2.1 (σ.1 i.toNat).2.2.1 (σ.1 i.toNat).2.2.2 0) := by
  unfold gTn
  rw [if_neg (by omega), if_neg (by omega), if_neg (by omega), if_neg (by omega), show 20 + nm - 20 = nm by omega]
theorem gRes_30A {r' : gRow} (hW : gRW r') (h : gTres I1 J1 A r.1 r.2.1 r.2.2.1 r.2.2.2 (r'.1 = 0) (gSl r'.2.1 r'.2.2.1 0 r'.1) e) : e = (if r'.1 = 0 then (-3, r) else ((r'.1 : Int), r')).1 ∧ gRA I1 J1 A (if r'.1 = 0 then ((-3 : Int), r) else ((r'.1 : Int), r')).2 := by
  have hl := gSl_len r'.2.1 r'.2.2.1 r'.1 0
  have h2 := hW.1
  rcases h with ⟨h1, h2, h3⟩ | ⟨h1, h2, h3, h4⟩ | ⟨h1, h2, h3, h4⟩
  · rw [if_pos h1]
    exact ⟨h2, h3⟩
  · omega
  · rw [if_neg h1]
    rw [hl] at h3 h4
    refine ⟨h3, h4.1, fun j hj => ?_⟩
    have g := gRow_list hW hj
    have k := h4.2 j hj
    rw [g.1, g.2.1, g.2.2] at k
    exact k
theorem gRes_30M {r' : gRow} (hW : gRW r') (h : gTresM I1 J1 f r.1 r.2.1 r.2.2.1 r.2.2.2 (r'.1 = 0) (gSl r'.2.1 r'.2.2.1 0 r'.1) e) : e = (if r'.1 = 0 then (-3, r) else ((r'.1 : Int), r')).1 ∧ gRM I1 J1 f (if r'.1 = 0 then ((-3 : Int), r) else ((r'.1 : Int), r')).2 := by
  have hl := gSl_len r'.2.1 r'.2.2.1 r'.1 0
  have h2 := hW.1
  rcases h with ⟨h1, h2, h3⟩ | ⟨h1, h2, h3, h4⟩ | ⟨h1, h2, h3, h4⟩
  · rw [if_pos h1]
    exact ⟨h2, h3⟩
  · omega
  · rw [if_neg h1]
    rw [hl] at h3 h4
    refine ⟨h3, h4.1, fun j hj => ?_⟩
    have g := gRow_list hW hj
    have k := h4.2 j hj
    rw [g.1, g.2.1, g.2.2] at k
    exact k
theorem s9_turn {i w b : Int} (hi : gRng i) (hw : gRng w) (hb : gRng b) (hp : gPs σ) (hc : gCs σ I J) : gKi l Γ gm_X9_turn 900 [.ref (gad (gSS ad) 0), .int (iv i), .int (iv w), .int (iv b)] (gSS ad, I, J) (gPa ad (gU_turn σ i w b) I J (gA_turn σ i w b)) := by
  by_cases h : gTuC i w b
  · have h' := h
    obtain ⟨hi1, hw1, hb1⟩ := h'
    obtain ⟨f, rfl⟩ : ∃ f : Nat, i = (f : Int) := ⟨i.toNat, by omega⟩
    have hf : f < 12 := by omega
    rcases hw1 with rfl | rfl | rfl | hw1 | hw1
    · refine gKi_mono (c_X9_turn_0 hf (hc.1 f hf) (hp.1 f hf) hb (by omega)) (fun e μ h9 => ?_)
      obtain ⟨I1, rfl, hI, hq, hg, rfl⟩ := h9
      exact s9_turn_of hf rfl h hc (fun p z a1 a2 a3 => hI p a1) (fun _ _ _ => rfl) (by rw [gTn_0]) (by rw [gTn_0]; exact hg)
    · refine gKi_mono (c_X9_turn_1 hf (hc.1 f hf) (hp.1 f hf) hb (by omega)) (fun e μ h9 => ?_)
      obtain ⟨I1, J1, rfl, hI, hq, hJ, ht⟩ := h9
      have k := gRes_A (r := σ.1 f) ht
      exact s9_turn_of hf rfl h hc hI hJ (by rw [gTn_1]; exact k.1) (by rw [gTn_1]; exact k.2)
    · obtain ⟨g, rfl⟩ : ∃ g : Nat, b = (g : Int) := ⟨b.toNat, by have := hb1 (by omega); omega⟩
      have hg : g < 12 := by have := hb1 (by omega); omega
      refine gKi_mono (c_X9_turn_30 hf (hc.1 f hf) (hp.1 f hf) hg (hc.1 g hg) (hp.1 g hg) (by omega)) (fun e μ h9 => ?_)
      obtain ⟨I1, J1, rfl, hI, hq, hJ, ht⟩ := h9
      have k := gRes_30A (r := σ.1 f) (r' := σ.1 g) (hp.1 g hg) ht
      exact s9_turn_of hf rfl h hc hI hJ (by rw [gTn_30]; exact k.1) (by rw [gTn_30]; exact k.2)
    · obtain ⟨nm, rfl⟩ : ∃ nm : Int, w = 10 + nm := ⟨w - 10, by omega⟩
      have hnm : 0 ≤ nm ∧ nm < 8 := by omega
      refine gKi_mono (c_X9_turn_d hf (hc.1 f hf) (hp.1 f hf) hnm hb (by omega)) (fun e μ h9 => ?_)
      obtain ⟨I1, J1, rfl, hI, hq, hJ, ht⟩ := h9
      have k := gRes_A (r := σ.1 f) ht
      exact s9_turn_of hf rfl h hc hI hJ (by rw [gTn_d hnm]; exact k.1) (by rw [gTn_d hnm]; exact k.2)
    · obtain ⟨nm, rfl⟩ : ∃ nm : Int, w = 20 + nm := ⟨w - 20, by omega⟩
      have hnm : 0 ≤ nm ∧ nm < 8 := by omega
      obtain ⟨g, rfl⟩ : ∃ g : Nat, b = (g : Int) := ⟨b.toNat, by have := hb1 (by omega); omega⟩
      have hg : g < 12 := by have := hb1 (by omega); omega
      refine gKi_mono (c_X9_turn_r hf (hc.1 f hf) (hp.1 f hf) hg (hc.1 g hg) (hp.1 g hg) hnm (by omega)) (fun e μ h9 => ?_)
      obtain ⟨I1, J1, rfl, hI, hq, hJ, ht⟩ := h9
      have k := gRes_A (r := σ.1 f) ht
      exact s9_turn_of hf rfl h hc hI hJ (by rw [gTn_r hnm]; exact k.1) (by rw [gTn_r hnm]; exact k.2)
  · have hU : gU_turn σ i w b = σ := if_neg h
    have hA : gA_turn σ i w b = -2 := if_neg h
    refine gKi_mono (c_X9_turn_out hi hw hb h (by omega)) (fun e μ h => ?_)
    obtain ⟨rfl, rfl⟩ := h
    exact ⟨I, J, rfl, by rw [hU]; exact hc, gHi_rf, hA.symm⟩
theorem s10_turn {i w b : Int} (hi : gRng i) (hw : gRng w) (hb : gRng b) (hp : gPs σ) (hc : gMs σ I J) : gKi l Γ gm_X10_turn 900 [.ref (gad (gSS ad) 145), .int (iv i), .int (iv w), .int (iv b)] (gSS ad, I, J) (gPb ad (gU_turn σ i w b) I J (gA_turn σ i w b)) := by
  by_cases h : gTuC i w b
  · have h' := h
    obtain ⟨hi1, hw1, hb1⟩ := h'
    obtain ⟨f, rfl⟩ : ∃ f : Nat, i = (f : Int) := ⟨i.toNat, by omega⟩
    have hf : f < 12 := by omega
    rcases hw1 with rfl | rfl | rfl | hw1 | hw1
    · refine gKi_mono (c_X10_turn_0 hf (hc.1 f hf) (hp.1 f hf) hb (by omega)) (fun e μ h9 => ?_)
      obtain ⟨I1, rfl, hI, h5, h6, hg, rfl⟩ := h9
      exact s10_turn_of hf rfl h hc (fun p a1 a2 a3 a4 a5 => hI p a1 a3) h5 h6 (fun _ _ _ => rfl) (by rw [gTn_0]) (by rw [gTn_0]; exact hg)
    · refine gKi_mono (c_X10_turn_1 hf (hc.1 f hf) (hp.1 f hf) hb (by have := (hp.1 f hf).1; omega)) (fun e μ h9 => ?_)
      obtain ⟨I1, J1, rfl, hI, h5, h6, hJ, ht⟩ := h9
      have k := gRes_M (r := σ.1 f) ht
      exact s10_turn_of hf rfl h hc hI h5 h6 hJ (by rw [gTn_1]; exact k.1) (by rw [gTn_1]; exact k.2)
    · obtain ⟨g, rfl⟩ : ∃ g : Nat, b = (g : Int) := ⟨b.toNat, by have := hb1 (by omega); omega⟩
      have hg : g < 12 := by have := hb1 (by omega); omega
      refine gKi_mono (c_X10_turn_30 hf (hc.1 f hf) (hp.1 f hf) hg (hc.1 g hg) (hp.1 g hg) (by omega)) (fun e μ h9 => ?_)
      obtain ⟨I1, J1, rfl, hI, h5, h6, hJ, ht⟩ := h9
      have k := gRes_30M (r := σ.1 f) (r' := σ.1 g) (hp.1 g hg) ht
      exact s10_turn_of hf rfl h hc hI h5 h6 hJ (by rw [gTn_30]; exact k.1) (by rw [gTn_30]; exact k.2)
    · obtain ⟨nm, rfl⟩ : ∃ nm : Int, w = 10 + nm := ⟨w - 10, by omega⟩
      have hnm : 0 ≤ nm ∧ nm < 8 := by omega
      refine gKi_mono (c_X10_turn_d hf (hc.1 f hf) (hp.1 f hf) hnm hb (by have := (hp.1 f hf).1; omega)) (fun e μ h9 => ?_)
      obtain ⟨I1, J1, rfl, hI, h5, h6, hJ, ht⟩ := h9
      have k := gRes_M (r := σ.1 f) ht
      exact s10_turn_of hf rfl h hc hI h5 h6 hJ (by rw [gTn_d hnm]; exact k.1) (by rw [gTn_d hnm]; exact k.2)
    · obtain ⟨nm, rfl⟩ : ∃ nm : Int, w = 20 + nm := ⟨w - 20, by omega⟩
      have hnm : 0 ≤ nm ∧ nm < 8 := by omega
      obtain ⟨g, rfl⟩ : ∃ g : Nat, b = (g : Int) := ⟨b.toNat, by have := hb1 (by omega); omega⟩
      have hg : g < 12 := by have := hb1 (by omega); omega
      refine gKi_mono (c_X10_turn_r hf (hc.1 f hf) (hp.1 f hf) hg (hc.1 g hg) (hp.1 g hg) hnm (by omega)) (fun e μ h9 => ?_)
      obtain ⟨I1, J1, rfl, hI, h5, h6, hJ, ht⟩ := h9
      have k := gRes_M (r := σ.1 f) ht
      exact s10_turn_of hf rfl h hc hI h5 h6 hJ (by rw [gTn_r hnm]; exact k.1) (by rw [gTn_r hnm]; exact k.2)
  · have hU : gU_turn σ i w b = σ := if_neg h
    have hA : gA_turn σ i w b = -2 := if_neg h
    refine gKi_mono (c_X10_turn_out hi hw hb h (by omega)) (fun e μ h => ?_)
    obtain ⟨rfl, rfl⟩ := h
    exact ⟨I, J, rfl, by rw [hU]; exact hc, gLo_rf, hA.symm⟩
end TN
/-! text -/
noncomputable def gA_text (σ : gSgm) (i : Int) : Int := if 0 ≤ i ∧ i ≤ 11 then (match gTxt σ.2.2.1.1 σ.2.2.1.2 with | .inl p => -100 - (p : Int) | .inr x => (x.1.length : Int)) else -2
noncomputable def gU_text (σ : gSgm) (i : Int) : gSgm := if 0 ≤ i ∧ i ≤ 11 then (match gTxt σ.2.2.1.1 σ.2.2.1.2 with | .inl _ => (σ.1, σ.2.1, (σ.2.2.1.1, 0), σ.2.2.2) | .inr x => (gSr σ.1 i.toNat (gLr x.1), σ.2.1, (σ.2.2.1.1, 0), σ.2.2.2)) else σ
section TX
variable {l : Launch} {Γ : gC} {ad : Nat → Nat} {I : Nat → Nat → Int} {J : Nat → Nat → Int64} {σ : gSgm}
theorem s9_text {i : Int} (hi : gRng i) (hp : gPs σ) (hc : gCs σ I J) : gKi l Γ gm_X9_text 900 [.ref (gad (gSS ad) 0), .int (iv i)] (gSS ad, I, J) (fun e μ => gPa ad (gU_text σ i) I J (gA_text σ i) e μ ∧ gPs (gU_text σ i) ∧ (0 ≤ i ∧ i ≤ 11 → ∀ t q, gTxt σ.2.2.1.1 σ.2.2.1.2 = .inr (t, q) → gFo t 1 ∧ gNvs t)) := by
  by_cases h : 0 ≤ i ∧ i ≤ 11
  · obtain ⟨f, rfl⟩ : ∃ f : Nat, i = (f : Int) := ⟨i.toNat, by omega⟩
    have hf : f < 12 := by omega
    have hU : gU_text σ (f : Int) = (match gTxt σ.2.2.1.1 σ.2.2.1.2 with | .inl _ => (σ.1, σ.2.1, (σ.2.2.1.1, 0), σ.2.2.2) | .inr x => (gSr σ.1 f (gLr x.1), σ.2.1, (σ.2.2.1.1, 0), σ.2.2.2)) := if_pos h
    have hA : gA_text σ (f : Int) = (match gTxt σ.2.2.1.1 σ.2.2.1.2 with | .inl p => -100 - (p : Int) | .inr x => (x.1.length : Int)) := if_pos h
    refine gKi_mono (c_X9_text hf (hc.1 f hf) (hp.1 f hf) hc.2.2.1 (by omega)) (fun e μ h9 => ?_)
    obtain ⟨I1, J1, rfl, hI, hq, hJ, h21, h20, h9⟩ := h9
    have hl : gHi I I1 J J1 := fun p z => ⟨hI p (by omega) (by omega) (by omega) (by omega), hJ p (by omega) (by omega)⟩
    have hT : gQT (σ.2.2.1.1, 0) I1 := ⟨by show 0 ≤ 120; omega, h20, fun q z => absurd z (Nat.not_lt_zero q)⟩
    have kV := gQV_fr hc.2.1 (I1 := I1) (fun p q z => congrFun (hI p (by omega) (by omega) (by omega) (by omega)) q)
    have kK := gQK_fr hc.2.2.2.1 (I1 := I1) (J1 := J1) (fun p q z => congrFun (hI p (by omega) (by omega) (by omega) (by omega)) q) (fun p z => hJ p (by omega) (by omega))
    have kS := gQS_fr hc.2.2.2.2 (I1 := I1) (fun p q z => congrFun (hI p (by omega) (by omega) (by omega) (by omega)) q)
    have kR : ∀ r, gRA I1 J1 (41 + 8 * f) r → gQR (gSr σ.1 f r) I1 J1 := fun r hr => gQR_up hc.1 hf (fun p q z => congrFun (hI p (by omega) (by omega) (by omega) (by omega)) q) (fun p z => hJ p (by omega) (by omega)) hr
    rcases h9 with ⟨p, hx, rfl, hg⟩ | ⟨t, q, hx, rfl, hg, hw, -, hfo, hnv⟩
    · rw [hx] at hU hA
      refine ⟨⟨I1, J1, rfl, ?_, hl, hA.symm⟩, ?_, fun _ t q z => by rw [hx] at z; cases z⟩
      · rw [hU]
        refine ⟨fun g hgg => ?_, kV, hT, kK, kS⟩
        have := kR (σ.1 f) hg g hgg
        by_cases c : g = f
        · subst c
          exact hg
        · rw [gSr_n c] at this
          exact this
      · rw [hU]
        exact hp
    · rw [hx] at hU hA
      refine ⟨⟨I1, J1, rfl, ?_, hl, hA.symm⟩, ?_, fun _ t' q' z => by rw [hx] at z; cases z; exact ⟨hfo, hnv⟩⟩
      · rw [hU]
        exact ⟨kR _ hg, kV, hT, kK, kS⟩
      · rw [hU]
        exact ⟨gRW_up hp.1 hw, hp.2⟩
  · have hU : gU_text σ i = σ := if_neg h
    have hA : gA_text σ i = -2 := if_neg h
    refine gKi_mono (c_X9_text_out hi h (by omega)) (fun e μ h9 => ?_)
    obtain ⟨rfl, rfl⟩ := h9
    exact ⟨⟨I, J, rfl, by rw [hU]; exact hc, gHi_rf, hA.symm⟩, by rw [hU]; exact hp, fun z => absurd z h⟩
theorem s10_text {i : Int} (hi : gRng i) (hp : gPs σ) (hc : gMs σ I J) (hg : 0 ≤ i ∧ i ≤ 11 → ∀ t q, gTxt σ.2.2.1.1 σ.2.2.1.2 = .inr (t, q) → gFo t 1 ∧ gNvs t) : gKi l Γ gm_X10_text 900 [.ref (gad (gSS ad) 145), .int (iv i)] (gSS ad, I, J) (gPb ad (gU_text σ i) I J (gA_text σ i)) := by
  by_cases h : 0 ≤ i ∧ i ≤ 11
  · obtain ⟨f, rfl⟩ : ∃ f : Nat, i = (f : Int) := ⟨i.toNat, by omega⟩
    have hf : f < 12 := by omega
    have hU : gU_text σ (f : Int) = (match gTxt σ.2.2.1.1 σ.2.2.1.2 with | .inl _ => (σ.1, σ.2.1, (σ.2.2.1.1, 0), σ.2.2.2) | .inr x => (gSr σ.1 f (gLr x.1), σ.2.1, (σ.2.2.1.1, 0), σ.2.2.2)) := if_pos h
    have hA : gA_text σ (f : Int) = (match gTxt σ.2.2.1.1 σ.2.2.1.2 with | .inl p => -100 - (p : Int) | .inr x => (x.1.length : Int)) := if_pos h
    refine gKi_mono (c_X10_text hf (hc.1 f hf) (hp.1 f hf) hc.2.2.1 (hg h) (by omega)) (fun e μ h9 => ?_)
    obtain ⟨I1, J1, rfl, hI, h6, h5, hJ, h10, h9⟩ := h9
    have hl : gLo I I1 J J1 := fun p z => ⟨hI p (by omega) (by omega) (by omega) (by omega) (by omega), hJ p (by omega) (by omega)⟩
    have hT : gNT (σ.2.2.1.1, 0) I1 := ⟨by show 0 ≤ 120; omega, h10, fun q z => absurd z (Nat.not_lt_zero q)⟩
    have kV := gNV_fr hc.2.1 (I1 := I1) (fun p q z => congrFun (hI p (by omega) (by omega) (by omega) (by omega) (by omega)) q)
    have kK := gNK_fr hc.2.2.2.1 (I1 := I1) (J1 := J1) (fun p q z => by
      by_cases c : p = 145
      · subst c
        exact h5 q (by omega)
      · exact congrFun (hI p c (by omega) (by omega) (by omega) (by omega)) q) (fun p z => hJ p (by omega) (by omega))
    have kS := gNS_fr hc.2.2.2.2 (I1 := I1) (fun p q z => congrFun (hI p (by omega) (by omega) (by omega) (by omega) (by omega)) q)
    have kR : ∀ r, gRM I1 J1 f r → gNR (gSr σ.1 f r) I1 J1 := fun r hr => gNR_up hc.1 hf (fun p q z => by
      by_cases c : p = 146
      · subst c
        exact h6 q (by omega)
      · exact congrFun (hI p (by omega) (by omega) c (by omega) (by omega)) q) (fun p z => hJ p (by omega) (by omega)) hr
    rcases h9 with ⟨p, hx, rfl, hg⟩ | ⟨t, q, hx, rfl, hg⟩
    · rw [hx] at hU hA
      refine ⟨I1, J1, rfl, ?_, hl, hA.symm⟩
      rw [hU]
      refine ⟨fun g hgg => ?_, kV, hT, kK, kS⟩
      have := kR (σ.1 f) hg g hgg
      by_cases c : g = f
      · subst c
        exact hg
      · rw [gSr_n c] at this
        exact this
    · rw [hx] at hU hA
      refine ⟨I1, J1, rfl, ?_, hl, hA.symm⟩
      rw [hU]
      exact ⟨kR _ hg, kV, hT, kK, kS⟩
  · have hU : gU_text σ i = σ := if_neg h
    have hA : gA_text σ i = -2 := if_neg h
    refine gKi_mono (c_X10_text_out hi h (by omega)) (fun e μ h9 => ?_)
    obtain ⟨rfl, rfl⟩ := h9
    exact ⟨I, J, rfl, by rw [hU]; exact hc, gLo_rf, hA.symm⟩
/-! image, back -/
def gA_image (σ : gSgm) : Int := (gNE (fun f => (σ.1 f).1) 12 : Int)
def gU_image (σ : gSgm) : gSgm := (σ.1, σ.2.1, σ.2.2.1, (1, σ.1, σ.2.1), σ.2.2.2.2)
def gA_back (σ : gSgm) : Int := if σ.2.2.2.1.1 = 1 then (gNE (fun f => (σ.2.2.2.1.2.1 f).1) 12 : Int) else -3
def gU_back (σ : gSgm) : gSgm := if σ.2.2.2.1.1 = 1 then (σ.2.2.2.1.2.1, σ.2.2.2.1.2.2, σ.2.2.1, σ.2.2.2) else σ
theorem u_image (hp : gPs σ) : gPs (gU_image σ) := ⟨hp.1, Or.inr rfl, fun _ => hp.1, hp.2.2.2⟩
theorem u_back (hp : gPs σ) : gPs (gU_back σ) := by
  unfold gU_back
  by_cases h : σ.2.2.2.1.1 = 1
  · rw [if_pos h]
    exact ⟨hp.2.2.1 h, hp.2⟩
  · rw [if_neg h]
    exact hp
theorem s9_image (hp : gPs σ) (hc : gCs σ I J) : gKi l Γ gm_X9_image 900 [.ref (gad (gSS ad) 0)] (gSS ad, I, J) (gPa ad (gU_image σ) I J (gA_image σ)) := by
  refine gKi_mono (c_X9_image (fun f hf => ⟨_, _, _, _, hp.1 f hf, hc.1 f hf⟩) (nf := fun f => (σ.1 f).1) (fun f hf => ⟨(hc.1 f hf).1, (hp.1 f hf).1⟩) (by omega)) (fun e μ h9 => ?_)
  obtain ⟨I1, J1, rfl, hR, hI, h0, hJ, h4, hV, rfl⟩ := h9
  exact ⟨I1, J1, rfl, ⟨gQR_fr hc.1 (fun p q z => congrFun (hI p (by unfold gKp; omega) (by omega) (by omega)) q) (fun p z => hJ p (by unfold gKp; omega)), gQV_fr hc.2.1 (fun p q z => congrFun (hI p (by unfold gKp; omega) (by omega) (by omega)) q), gQT_fr hc.2.2.1 (fun p q z => congrFun (hI p (by unfold gKp; omega) (by omega) (by omega)) q),
    ⟨h4, fun _ => ⟨fun f hf => hR f hf _ _ _ _ (hp.1 f hf) (hc.1 f hf), fun q hq => (hV q hq).trans (hc.2.1 q hq)⟩⟩, gQS_fr hc.2.2.2.2 (fun p q z => congrFun (hI p (by unfold gKp; omega) (by omega) (by omega)) q)⟩, fun p z => ⟨hI p (by unfold gKp; omega) (by omega) (by omega), hJ p (by unfold gKp; omega)⟩, rfl⟩
theorem s10_image (hp : gPs σ) (hc : gMs σ I J) : gKi l Γ gm_X10_image 900 [.ref (gad (gSS ad) 145)] (gSS ad, I, J) (gPb ad (gU_image σ) I J (gA_image σ)) := by
  refine gKi_mono (c_X10_image (nf := fun f => (σ.1 f).1) (fun f hf => ⟨(hc.1 f hf).1, (hp.1 f hf).1⟩) (by omega)) (fun e μ h9 => ?_)
  obtain ⟨I1, J1, rfl, hR, hV, hI, hJ, h4, h0, rfl⟩ := h9
  exact ⟨I1, J1, rfl, ⟨gNR_fr hc.1 (fun p q z => congrFun (hI p (by omega) (by omega) (by omega) (by omega) (by omega)) q) (fun p z => hJ p (by omega)), gNV_fr hc.2.1 (fun p q z => congrFun (hI p (by omega) (by omega) (by omega) (by omega) (by omega)) q), gNT_fr hc.2.2.1 (fun p q z => by
      by_cases c : p = 145
      · subst c
        exact h0 q (by omega)
      · exact congrFun (hI p (by omega) (by omega) c (by omega) (by omega)) q),
    ⟨h4, fun _ => ⟨fun f hf => hR f hf _ _ _ _ (hp.1 f hf) (hc.1 f hf), fun q hq => (hV q hq).trans (hc.2.1 q hq)⟩⟩, gNS_fr hc.2.2.2.2 (fun p q z => congrFun (hI p (by omega) (by omega) (by omega) (by omega) (by omega)) q)⟩, fun p z => ⟨hI p (by omega) (by omega) (by omega) (by omega) (by omega), hJ p (by omega)⟩, rfl⟩
theorem s9_back (hp : gPs σ) (hc : gCs σ I J) : gKi l Γ gm_X9_back 900 [.ref (gad (gSS ad) 0)] (gSS ad, I, J) (gPa ad (gU_back σ) I J (gA_back σ)) := by
  by_cases h : σ.2.2.2.1.1 = 1
  · have hU : gU_back σ = (σ.2.2.2.1.2.1, σ.2.2.2.1.2.2, σ.2.2.1, σ.2.2.2) := if_pos h
    have hA : gA_back σ = (gNE (fun f => (σ.2.2.2.1.2.1 f).1) 12 : Int) := if_pos h
    obtain ⟨kR, kV⟩ := hc.2.2.2.1.2 h
    have kW := hp.2.2.1 h
    refine gKi_mono (c_X9_back (fun f hf => ⟨_, _, _, _, kW f hf, kR f hf⟩) (nf := fun f => (σ.2.2.2.1.2.1 f).1) (fun f hf => ⟨(kR f hf).1, (kW f hf).1⟩) (hc.2.2.2.1.1.trans h) (by omega)) (fun e μ h9 => ?_)
    obtain ⟨I1, J1, rfl, hR, hI, h0, hJ, h4, hV, rfl⟩ := h9
    refine ⟨I1, J1, rfl, ?_, fun p z => ⟨hI p (by unfold gFp; omega) (by omega) (by omega), hJ p (by unfold gFp; omega)⟩, hA.symm⟩
    rw [hU]
    exact ⟨fun f hf => hR f hf _ _ _ _ (kW f hf) (kR f hf), fun q hq => (hV q hq).trans (kV q hq), gQT_fr hc.2.2.1 (fun p q z => congrFun (hI p (by unfold gFp; omega) (by omega) (by omega)) q), gQK_fr hc.2.2.2.1 (fun p q z => by
      by_cases c : p = 0
      · subst c
        have hq : q = 4 := by omega
        subst hq
        exact h4
      · exact congrFun (hI p (by unfold gFp; omega) (by omega) c) q) (fun p z => hJ p (by unfold gFp; omega)), gQS_fr hc.2.2.2.2 (fun p q z => congrFun (hI p (by unfold gFp; omega) (by omega) (by omega)) q)⟩
  · have hU : gU_back σ = σ := if_neg h
    have hA : gA_back σ = -3 := if_neg h
    refine gKi_mono (c_X9_back_0 (hc.2.2.2.1.1.trans (by have := hp.2.1; omega)) (by omega)) (fun e μ h9 => ?_)
    obtain ⟨rfl, rfl⟩ := h9
    exact ⟨I, J, rfl, by rw [hU]; exact hc, gHi_rf, hA.symm⟩
theorem s10_back (hp : gPs σ) (hc : gMs σ I J) : gKi l Γ gm_X10_back 900 [.ref (gad (gSS ad) 145)] (gSS ad, I, J) (gPb ad (gU_back σ) I J (gA_back σ)) := by
  by_cases h : σ.2.2.2.1.1 = 1
  · have hU : gU_back σ = (σ.2.2.2.1.2.1, σ.2.2.2.1.2.2, σ.2.2.1, σ.2.2.2) := if_pos h
    have hA : gA_back σ = (gNE (fun f => (σ.2.2.2.1.2.1 f).1) 12 : Int) := if_pos h
    obtain ⟨kR, kV⟩ := hc.2.2.2.1.2 h
    have kW := hp.2.2.1 h
    refine gKi_mono (c_X10_back (nf := fun f => (σ.2.2.2.1.2.1 f).1) (fun f hf => ⟨(kR f hf).1, (kW f hf).1⟩) (hc.2.2.2.1.1.trans h) (by omega)) (fun e μ h9 => ?_)
    obtain ⟨I1, J1, rfl, hR, hV, hI, hJ, h4, h0, rfl⟩ := h9
    refine ⟨I1, J1, rfl, ?_, fun p z => ⟨hI p (by omega) (by omega) (by omega) (by omega) (by omega), hJ p (by omega)⟩, hA.symm⟩
    rw [hU]
    have h5 : ∀ q, I1 145 q = I 145 q := fun q => by
      by_cases c : q = 27
      · subst c
        rw [h4, hc.2.2.2.1.1, h]
      · exact h0 q c
    exact ⟨fun f hf => hR f hf _ _ _ _ (kW f hf) (kR f hf), fun q hq => (hV q hq).trans (kV q hq), gNT_fr hc.2.2.1 (fun p q z => by
      by_cases c : p = 145
      · subst c
        exact h5 q
      · exact congrFun (hI p (by omega) (by omega) c (by omega) (by omega)) q), gNK_fr hc.2.2.2.1 (fun p q z => by
      by_cases c : p = 145
      · subst c
        exact h5 q
      · exact congrFun (hI p (by omega) (by omega) c (by omega) (by omega)) q) (fun p z => hJ p (by omega)), gNS_fr hc.2.2.2.2 (fun p q z => congrFun (hI p (by omega) (by omega) (by omega) (by omega) (by omega)) q)⟩
  · have hU : gU_back σ = σ := if_neg h
    have hA : gA_back σ = -3 := if_neg h
    refine gKi_mono (c_X10_back_0 (hc.2.2.2.1.1.trans (by have := hp.2.1; omega)) (by omega)) (fun e μ h9 => ?_)
    obtain ⟨rfl, rfl⟩ := h9
    exact ⟨I, J, rfl, by rw [hU]; exact hc, gLo_rf, hA.symm⟩
end TX
