/-! sheet, cell, copy, film: sheets change -/
noncomputable def gA_sheet (σ : gSgm) (i so n : Int) : Int := if 0 ≤ i ∧ i ≤ 3 ∧ -1 ≤ so ∧ so ≤ 1 ∧ (so < 0 ∨ n ≤ 40) then (if so < 0 then 1 else if n < 0 then -14 else 1) else -2
noncomputable def gU_sheet (σ : gSgm) (i so n : Int) : gSgm := if (0 ≤ i ∧ i ≤ 3 ∧ -1 ≤ so ∧ so ≤ 1 ∧ (so < 0 ∨ n ≤ 40)) ∧ (so < 0 ∨ 0 ≤ n) then (σ.1, σ.2.1, σ.2.2.1, σ.2.2.2.1, gShU σ.2.2.2.2 i.toNat so (if so < 0 then 0 else n.toNat) (fun _ => 0)) else σ
noncomputable def gA_cell (σ : gSgm) (i k v : Int) : Int := if 0 ≤ i ∧ i ≤ 3 then (if σ.2.2.2.2.1 i.toNat < 0 then -11 else if ¬ (0 ≤ k ∧ k < (σ.2.2.2.2.2.1 i.toNat : Int)) then -12 else 1) else -2
noncomputable def gU_cell (σ : gSgm) (i k v : Int) : gSgm := if (0 ≤ i ∧ i ≤ 3) ∧ ¬ σ.2.2.2.2.1 i.toNat < 0 ∧ (0 ≤ k ∧ k < (σ.2.2.2.2.2.1 i.toNat : Int)) then (σ.1, σ.2.1, σ.2.2.1, σ.2.2.2.1, gShU σ.2.2.2.2 i.toNat (σ.2.2.2.2.1 i.toNat) (σ.2.2.2.2.2.1 i.toNat) (gup (σ.2.2.2.2.2.2 i.toNat) k.toNat (if σ.2.2.2.2.1 i.toNat = 0 then gi2s v else v))) else σ
def gCpr (σ : gSgm) (a b i j n : Int) : Int := gCp (σ.2.2.2.2.1 a.toNat) (σ.2.2.2.2.2.1 a.toNat) (σ.2.2.2.2.1 b.toNat) (σ.2.2.2.2.2.1 b.toNat) i j n
noncomputable def gA_copy (σ : gSgm) (a i b j n : Int) : Int := if 0 ≤ a ∧ a ≤ 3 ∧ 0 ≤ b ∧ b ≤ 3 then (if gCpr σ a b i j n = 0 then n else gCpr σ a b i j n) else -2
noncomputable def gU_copy (σ : gSgm) (a i b j n : Int) : gSgm := if (0 ≤ a ∧ a ≤ 3 ∧ 0 ≤ b ∧ b ≤ 3) ∧ gCpr σ a b i j n = 0 then (σ.1, σ.2.1, σ.2.2.1, σ.2.2.2.1, gShU σ.2.2.2.2 b.toNat (σ.2.2.2.2.1 b.toNat) (σ.2.2.2.2.2.1 b.toNat) (va_cpy (σ.2.2.2.2.2.2 a.toNat) (σ.2.2.2.2.2.2 b.toNat) i.toNat j.toNat n.toNat)) else σ
def gFiC (s i nm m0 : Int) : Prop := 0 ≤ s ∧ s ≤ 3 ∧ 0 ≤ i ∧ i ≤ 11 ∧ 0 ≤ nm ∧ nm ≤ 7 ∧ 0 ≤ m0 ∧ m0 ≤ 20
noncomputable def gA_film (σ : gSgm) (s i nm m0 : Int) : Int := @ite Int (gFiC s i nm m0) (Classical.propDecidable _) (if (σ.1 i.toNat).1 = 0 then -3 else m0) (-2)
noncomputable def gU_film (σ : gSgm) (s i nm m0 : Int) : gSgm := @ite gSgm (gFiC s i nm m0 ∧ ¬ (σ.1 i.toNat).1 = 0) (Classical.propDecidable _) (σ.1, σ.2.1, σ.2.2.1, σ.2.2.2.1, gShU σ.2.2.2.2 s.toNat 1 m0.toNat (fun t => gl2i (gWo (σ.1 i.toNat).1 (σ.1 i.toNat).2.1 (σ.1 i.toNat).2.2.1 (σ.1 i.toNat).2.2.2 (gup σ.2.1 nm.toNat (t : Int))))) σ
theorem gi2s_rng (v : Int) : gRng (gi2s v) := by
  unfold gi2s
  exact ⟨Int32.le_toInt _, by have := Int32.toInt_lt ((iv v).toInt16.toInt32); omega⟩
section SH
variable {l : Launch} {Γ : gC} {ad : Nat → Nat} {I I1 : Nat → Nat → Int} {J J1 : Nat → Nat → Int64} {σ : gSgm} {t sn : Nat} {so : Int} {C : Nat → Int}
/-- a sheet of the class another -/
theorem gCs_sh (hc : gCs σ I J) (ht : t < 4) (hI : ∀ p, p ≠ 7 → p ≠ 137 + 2 * t → p ≠ 138 + 2 * t → I1 p = I p) (hJ : ∀ p, p ≠ 26 → J1 p = J p) (h1 : I1 (137 + 2 * t) 1 = so) (h2 : I1 (137 + 2 * t) 2 = (sn : Int)) (h3 : ∀ j, j < sn → I1 (138 + 2 * t) j = C j) : gCs (σ.1, σ.2.1, σ.2.2.1, σ.2.2.2.1, gShU σ.2.2.2.2 t so sn C) I1 J1 ∧ gHi I I1 J J1 :=
  ⟨⟨gQR_fr hc.1 (fun p q z => congrFun (hI p (by omega) (by omega) (by omega)) q) (fun p z => hJ p (by omega)), gQV_fr hc.2.1 (fun p q z => congrFun (hI p (by omega) (by omega) (by omega)) q), gQT_fr hc.2.2.1 (fun p q z => congrFun (hI p (by omega) (by omega) (by omega)) q), gQK_fr hc.2.2.2.1 (fun p q z => congrFun (hI p (by omega) (by omega) (by omega)) q) (fun p z => hJ p (by omega)), gQS_up hc.2.2.2.2 ht (fun p q z => congrFun (hI p (by omega) (by omega) (by omega)) q) h1 h2 h3⟩, fun p z => ⟨hI p (by omega) (by omega) (by omega), hJ p (by omega)⟩⟩
theorem gMs_sh (hc : gMs σ I J) (ht : t < 4) (hI : ∀ p, p ≠ 186 → p ≠ 190 → p ≠ 195 → p ≠ 237 → p ≠ 238 → p ≠ 244 → p ≠ 240 + t → I1 p = I p) (hV : ∀ q, q < 8 → I1 186 q = I 186 q) (h7 : ∀ q, q ≠ t → I1 237 q = I 237 q) (h8 : ∀ q, q ≠ t → I1 238 q = I 238 q) (hJ : ∀ p, J1 p = J p) (h1 : I1 237 t = so) (h2 : I1 238 t = (sn : Int)) (h3 : ∀ j, j < sn → I1 (240 + t) j = C j) : gMs (σ.1, σ.2.1, σ.2.2.1, σ.2.2.2.1, gShU σ.2.2.2.2 t so sn C) I1 J1 ∧ gLo I I1 J J1 := by
  have hf : ∀ p q, p ≠ 186 ∧ p ≠ 190 ∧ p ≠ 195 ∧ p ≠ 237 ∧ p ≠ 238 ∧ p ≠ 244 ∧ p ≠ 240 + t → I1 p q = I p q := fun p q z => congrFun (hI p z.1 z.2.1 z.2.2.1 z.2.2.2.1 z.2.2.2.2.1 z.2.2.2.2.2.1 z.2.2.2.2.2.2) q
  refine ⟨⟨gNR_fr hc.1 (fun p q z => hf p q (by omega)) (fun p z => hJ p), gNV_fr hc.2.1 (fun p q z => ?_), gNT_fr hc.2.2.1 (fun p q z => hf p q (by omega)), gNK_fr hc.2.2.2.1 (fun p q z => hf p q (by omega)) (fun p z => hJ p), gNS_up hc.2.2.2.2 ht (fun p q z => ?_) h1 h2 h3⟩, fun p z => ⟨hI p (by omega) (by omega) (by omega) (by omega) (by omega) (by omega) (by omega), hJ p⟩⟩
  · obtain ⟨rfl, hq⟩ := z
    exact hV q hq
  · by_cases c : p = 237
    · subst c
      exact h7 q (by omega)
    · by_cases c2 : p = 238
      · subst c2
        exact h8 q (by omega)
      · exact hf p q (by omega)
theorem gPs_sh (hp : gPs σ) (h1 : -1 ≤ so ∧ so ≤ 1) (h2 : sn ≤ 40) (h3 : ∀ j, j < sn → gRng (C j)) : gPs (σ.1, σ.2.1, σ.2.2.1, σ.2.2.2.1, gShU σ.2.2.2.2 t so sn C) := ⟨hp.1, hp.2.1, hp.2.2.1, gShOk_up hp.2.2.2 h1 h2 h3⟩
theorem u_sheet {i so n : Int} (hp : gPs σ) : gPs (gU_sheet σ i so n) := by
  unfold gU_sheet
  split
  · rename_i h
    refine gPs_sh hp ⟨h.1.2.2.1, h.1.2.2.2.1⟩ ?_ (fun _ _ => ⟨by show (-2147483648 : Int) ≤ 0; omega, by show (0 : Int) ≤ 2147483647; omega⟩)
    split <;> omega
  · exact hp
theorem u_cell {i k v : Int} (hv : gRng v) (hp : gPs σ) : gPs (gU_cell σ i k v) := by
  unfold gU_cell
  split
  · rename_i h
    have ho := hp.2.2.2 i.toNat (by omega)
    refine gPs_sh hp ho.1 ho.2.1 (fun j hj => ?_)
    unfold gup
    split
    · split
      · exact gi2s_rng v
      · exact hv
    · exact ho.2.2 j hj
  · exact hp
theorem gCp_0 {so : Int} {sn : Nat} {so' : Int} {sn' : Nat} {i j n : Int} (h : gCp so sn so' sn' i j n = 0) : 0 ≤ i ∧ 0 ≤ j ∧ 0 ≤ n ∧ i + n ≤ (sn : Int) ∧ j + n ≤ (sn' : Int) := by
  unfold gCp at h
  by_cases c1 : so < 0 ∨ so' < 0
  · rw [if_pos c1] at h
    omega
  · rw [if_neg c1] at h
    by_cases c2 : ¬ so = so'
    · rw [if_pos c2] at h
      omega
    · rw [if_neg c2] at h
      by_cases c3 : ¬ (0 ≤ i ∧ 0 ≤ j ∧ 0 ≤ n ∧ i + n ≤ (sn : Int) ∧ j + n ≤ (sn' : Int))
      · rw [if_pos c3] at h
        omega
      · omega
theorem u_copy {a i b j n : Int} (hp : gPs σ) : gPs (gU_copy σ a i b j n) := by
  unfold gU_copy
  split
  · rename_i h
    have ho := hp.2.2.2 b.toNat (by omega)
    have ha := hp.2.2.2 a.toNat (by omega)
    have hz := gCp_0 h.2
    refine gPs_sh hp ho.1 ho.2.1 (fun q hq => ?_)
    unfold va_cpy
    by_cases c : j.toNat ≤ q ∧ q < j.toNat + n.toNat
    · rw [if_pos c]
      exact ha.2.2 _ (by omega)
    · rw [if_neg c]
      exact ho.2.2 q hq
  · exact hp
theorem u_film {s i nm m0 : Int} (hp : gPs σ) : gPs (gU_film σ s i nm m0) := by
  unfold gU_film
  by_cases h : gFiC s i nm m0 ∧ ¬ (σ.1 i.toNat).1 = 0
  · rw [if_pos h]
    obtain ⟨⟨h1, h2, h3, h4, h5, h6, h7, h8⟩, h9⟩ := h
    exact gPs_sh hp (by omega) (by omega) (fun j hj => gl2i_rng _)
  · rw [if_neg h]
    exact hp
theorem s9_sheet {i so n : Int} (hi : gRng i) (hso : gRng so) (hn : gRng n) (hp : gPs σ) (hc : gCs σ I J) : gKi l Γ gm_X9_sheet 900 [.ref (gad (gSS ad) 0), .int (iv i), .int (iv so), .int (iv n)] (gSS ad, I, J) (gPa ad (gU_sheet σ i so n) I J (gA_sheet σ i so n)) := by
  by_cases h : 0 ≤ i ∧ i ≤ 3 ∧ -1 ≤ so ∧ so ≤ 1 ∧ (so < 0 ∨ n ≤ 40)
  · obtain ⟨t, rfl⟩ : ∃ t : Nat, i = (t : Int) := ⟨i.toNat, by omega⟩
    have ht : t < 4 := by omega
    have hA : gA_sheet σ (t : Int) so n = (if so < 0 then 1 else if n < 0 then -14 else 1) := if_pos h
    by_cases c : so < 0
    · have hso1 : so = -1 := by omega
      subst hso1
      have hU : gU_sheet σ (t : Int) (-1) n = (σ.1, σ.2.1, σ.2.2.1, σ.2.2.2.1, gShU σ.2.2.2.2 t (-1) 0 (fun _ => 0)) := if_pos ⟨h, Or.inl c⟩
      rw [if_pos c] at hA
      refine gKi_mono (c_X9_sheet_m ht (by omega)) (fun e μ h9 => ?_)
      obtain ⟨rfl, rfl⟩ := h9
      have k := gCs_sh (so := -1) (sn := 0) (C := fun _ => 0) (J1 := J) hc ht (I1 := gu (gu I (137 + 2 * t) 1 (-1)) (137 + 2 * t) 2 0) (fun p _ a _ => by rw [gu_other a, gu_other a]) (fun _ _ => rfl) (by rw [gu_n (by omega), gu_s]) (by rw [gu_s]; rfl) (fun j hj => absurd hj (Nat.not_lt_zero j))
      exact ⟨_, J, rfl, by rw [hU]; exact k.1, k.2, hA.symm⟩
    · rw [if_neg c] at hA
      by_cases c2 : n < 0
      · rw [if_pos c2] at hA
        have hU : gU_sheet σ (t : Int) so n = σ := if_neg (fun z => by have := z.2; omega)
        refine gKi_mono (c_X9_sheet_n ht (so := so) (n := n) ⟨by omega, by omega⟩ ⟨hn.1, c2⟩ (by omega)) (fun e μ h9 => ?_)
        obtain ⟨rfl, rfl⟩ := h9
        exact ⟨I, J, rfl, by rw [hU]; exact hc, gHi_rf, hA.symm⟩
      · rw [if_neg c2] at hA
        obtain ⟨n0, rfl⟩ : ∃ q : Nat, n = (q : Int) := ⟨n.toNat, by omega⟩
        have hU : gU_sheet σ (t : Int) so (n0 : Int) = (σ.1, σ.2.1, σ.2.2.1, σ.2.2.2.1, gShU σ.2.2.2.2 t so n0 (fun _ => 0)) := (if_pos ⟨h, Or.inr (by omega)⟩).trans (by rw [if_neg c]; rfl)
        refine gKi_mono (c_X9_sheet_b ht (so := so) (n := n0) ⟨by omega, by omega⟩ (by omega) (by omega)) (fun e μ h9 => ?_)
        obtain ⟨I1, rfl, hI, hz, rfl⟩ := h9
        have k := gCs_sh (so := so) (sn := n0) (C := fun _ => 0) (J1 := J) hc ht (I1 := I1) (fun p _ a b => by rw [hI p b, gu_other a, gu_other a]) (fun _ _ => rfl) (by rw [hI _ (by omega), gu_n (by omega), gu_s]) (by rw [hI _ (by omega), gu_s]) hz
        exact ⟨_, J, rfl, by rw [hU]; exact k.1, k.2, hA.symm⟩
  · have hU : gU_sheet σ i so n = σ := if_neg (fun z => h z.1)
    have hA : gA_sheet σ i so n = -2 := if_neg h
    refine gKi_mono (c_X9_sheet_out hi hso hn h (by omega)) (fun e μ h9 => ?_)
    obtain ⟨rfl, rfl⟩ := h9
    exact ⟨I, J, rfl, by rw [hU]; exact hc, gHi_rf, hA.symm⟩
theorem s10_sheet {i so n : Int} (hi : gRng i) (hso : gRng so) (hn : gRng n) (hp : gPs σ) (hc : gMs σ I J) : gKi l Γ gm_X10_sheet 900 [.ref (gad (gSS ad) 145), .int (iv i), .int (iv so), .int (iv n)] (gSS ad, I, J) (gPb ad (gU_sheet σ i so n) I J (gA_sheet σ i so n)) := by
  by_cases h : 0 ≤ i ∧ i ≤ 3 ∧ -1 ≤ so ∧ so ≤ 1 ∧ (so < 0 ∨ n ≤ 40)
  · obtain ⟨t, rfl⟩ : ∃ t : Nat, i = (t : Int) := ⟨i.toNat, by omega⟩
    have ht : t < 4 := by omega
    have hA : gA_sheet σ (t : Int) so n = (if so < 0 then 1 else if n < 0 then -14 else 1) := if_pos h
    by_cases c2 : ¬ so < 0 ∧ n < 0
    · rw [if_neg c2.1, if_pos c2.2] at hA
      have hU : gU_sheet σ (t : Int) so n = σ := if_neg (fun z => by have := z.2; omega)
      refine gKi_mono (c_X10_sheet_n ht (so := so) (n := n) ⟨by omega, by omega⟩ ⟨hn.1, c2.2⟩ (by omega)) (fun e μ h9 => ?_)
      obtain ⟨rfl, rfl⟩ := h9
      exact ⟨I, J, rfl, by rw [hU]; exact hc, gLo_rf, hA.symm⟩
    · have hA1 : gA_sheet σ (t : Int) so n = 1 := by
        rw [hA]
        by_cases c : so < 0
        · rw [if_pos c]
        · rw [if_neg c, if_neg (by omega)]
      have hU : gU_sheet σ (t : Int) so n = (σ.1, σ.2.1, σ.2.2.1, σ.2.2.2.1, gShU σ.2.2.2.2 t so (if so < 0 then 0 else n.toNat) (fun _ => 0)) := if_pos ⟨h, by omega⟩
      refine gKi_mono (c_X10_sheet ht (so := so) (n := n) ⟨by omega, by omega⟩ hn (by omega) (by omega)) (fun e μ h9 => ?_)
      obtain ⟨I1, rfl, hI, hz, rfl⟩ := h9
      have hs : ((if so < 0 then 0 else n.toNat : Nat) : Int) = (if so < 0 then 0 else n) := by
        by_cases c : so < 0
        · rw [if_pos c, if_pos c]; rfl
        · rw [if_neg c, if_neg c]; omega
      have hle : (if so < 0 then 0 else n.toNat : Nat) ≤ 40 := by split <;> omega
      have k := gMs_sh (so := so) (sn := if so < 0 then 0 else n.toNat) (C := fun _ => 0) (J1 := J) hc ht (I1 := I1) (fun p _ _ _ a b _ w => by rw [hI p w, gu_other b, gu_other a]) (fun q _ => by rw [hI _ (by omega), gu_other (by omega), gu_other (by omega)])
        (fun q hq => by rw [hI _ (by omega), gu_other (by omega), gu_n (by omega)]) (fun q hq => by rw [hI _ (by omega), gu_n (by omega), gu_other (by omega)]) (fun _ => rfl) (by rw [hI _ (by omega), gu_other (by omega), gu_s]) (by rw [hI _ (by omega), gu_s, hs]) (fun j hj => hz j (by omega))
      exact ⟨_, J, rfl, by rw [hU]; exact k.1, k.2, hA1.symm⟩
  · have hU : gU_sheet σ i so n = σ := if_neg (fun z => h z.1)
    have hA : gA_sheet σ i so n = -2 := if_neg h
    refine gKi_mono (c_X10_sheet_out hi hso hn h (by omega)) (fun e μ h9 => ?_)
    obtain ⟨rfl, rfl⟩ := h9
    exact ⟨I, J, rfl, by rw [hU]; exact hc, gLo_rf, hA.symm⟩
theorem s9_cell {i k v : Int} (hi : gRng i) (hk : gRng k) (hv : gRng v) (hp : gPs σ) (hc : gCs σ I J) : gKi l Γ gm_X9_cell 900 [.ref (gad (gSS ad) 0), .int (iv i), .int (iv k), .int (iv v)] (gSS ad, I, J) (gPa ad (gU_cell σ i k v) I J (gA_cell σ i k v)) := by
  by_cases h : 0 ≤ i ∧ i ≤ 3
  · obtain ⟨t, rfl⟩ : ∃ t : Nat, i = (t : Int) := ⟨i.toNat, by omega⟩
    have ht : t < 4 := by omega
    obtain ⟨q1, q2, q3⟩ := hc.2.2.2.2 t ht
    have ho := hp.2.2.2 t ht
    have hA : gA_cell σ (t : Int) k v = (if σ.2.2.2.2.1 t < 0 then -11 else if ¬ (0 ≤ k ∧ k < (σ.2.2.2.2.2.1 t : Int)) then -12 else 1) := if_pos h
    refine gKi_mono (c_X9_cell ht q1 q2 ho.1 ho.2.1 hk (v := v) (by omega)) (fun e μ h9 => ?_)
    rcases h9 with ⟨c, rfl, rfl⟩ | ⟨c, c2, rfl, rfl⟩ | ⟨c, c2, c3, rfl, rfl⟩
    · rw [if_pos c] at hA
      have hU : gU_cell σ (t : Int) k v = σ := if_neg (fun z => z.2.1 c)
      exact ⟨I, J, rfl, by rw [hU]; exact hc, gHi_rf, hA.symm⟩
    · rw [if_neg (by omega), if_pos c2] at hA
      have hU : gU_cell σ (t : Int) k v = σ := if_neg (fun z => c2 z.2.2)
      exact ⟨I, J, rfl, by rw [hU]; exact hc, gHi_rf, hA.symm⟩
    · rw [if_neg (by omega), if_neg (fun z => z ⟨c2, c3⟩)] at hA
      have hU : gU_cell σ (t : Int) k v = _ := if_pos ⟨h, by show ¬ σ.2.2.2.2.1 t < 0; omega, c2, c3⟩
      have kk := gCs_sh (so := σ.2.2.2.2.1 t) (sn := σ.2.2.2.2.2.1 t) (C := gup (σ.2.2.2.2.2.2 t) k.toNat (if σ.2.2.2.2.1 t = 0 then gi2s v else v)) (J1 := J) hc ht (I1 := gu I (138 + 2 * t) k.toNat (if σ.2.2.2.2.1 t = 0 then gi2s v else v)) (fun p _ _ b => gu_other b) (fun _ _ => rfl) (by rw [gu_other (by omega)]; exact q1) (by rw [gu_other (by omega)]; exact q2) (fun j hj => by
        unfold gu gup
        by_cases w : j = k.toNat
        · rw [if_pos ⟨rfl, w⟩, if_pos w]
        · rw [if_neg (fun z => w z.2), if_neg w]
          exact q3 j hj)
      exact ⟨_, J, rfl, by rw [hU]; exact kk.1, kk.2, hA.symm⟩
  · have hU : gU_cell σ i k v = σ := if_neg (fun z => h z.1)
    have hA : gA_cell σ i k v = -2 := if_neg h
    refine gKi_mono (c_X9_cell_out hi h (by omega)) (fun e μ h9 => ?_)
    obtain ⟨rfl, rfl⟩ := h9
    exact ⟨I, J, rfl, by rw [hU]; exact hc, gHi_rf, hA.symm⟩
theorem s10_cell {i k v : Int} (hi : gRng i) (hk : gRng k) (hv : gRng v) (hp : gPs σ) (hc : gMs σ I J) : gKi l Γ gm_X10_cell 900 [.ref (gad (gSS ad) 145), .int (iv i), .int (iv k), .int (iv v)] (gSS ad, I, J) (gPb ad (gU_cell σ i k v) I J (gA_cell σ i k v)) := by
  by_cases h : 0 ≤ i ∧ i ≤ 3
  · obtain ⟨t, rfl⟩ : ∃ t : Nat, i = (t : Int) := ⟨i.toNat, by omega⟩
    have ht : t < 4 := by omega
    obtain ⟨q1, q2, q3⟩ := hc.2.2.2.2 t ht
    have ho := hp.2.2.2 t ht
    have hA : gA_cell σ (t : Int) k v = (if σ.2.2.2.2.1 t < 0 then -11 else if ¬ (0 ≤ k ∧ k < (σ.2.2.2.2.2.1 t : Int)) then -12 else 1) := if_pos h
    refine gKi_mono (c_X10_cell ht q1 q2 ho.1 ho.2.1 hk (v := v) (by omega)) (fun e μ h9 => ?_)
    rcases h9 with ⟨c, rfl, rfl⟩ | ⟨c, c2, rfl, rfl⟩ | ⟨c, c2, c3, rfl, rfl⟩
    · rw [if_pos c] at hA
      have hU : gU_cell σ (t : Int) k v = σ := if_neg (fun z => z.2.1 c)
      exact ⟨I, J, rfl, by rw [hU]; exact hc, gLo_rf, hA.symm⟩
    · rw [if_neg (by omega), if_pos c2] at hA
      have hU : gU_cell σ (t : Int) k v = σ := if_neg (fun z => c2 z.2.2)
      exact ⟨I, J, rfl, by rw [hU]; exact hc, gLo_rf, hA.symm⟩
    · rw [if_neg (by omega), if_neg (fun z => z ⟨c2, c3⟩)] at hA
      have hU : gU_cell σ (t : Int) k v = _ := if_pos ⟨h, by show ¬ σ.2.2.2.2.1 t < 0; omega, c2, c3⟩
      have kk := gMs_sh (so := σ.2.2.2.2.1 t) (sn := σ.2.2.2.2.2.1 t) (C := gup (σ.2.2.2.2.2.2 t) k.toNat (if σ.2.2.2.2.1 t = 0 then gi2s v else v)) (J1 := J) hc ht (I1 := gu I (240 + t) k.toNat (if σ.2.2.2.2.1 t = 0 then gi2s v else v)) (fun p _ _ _ _ _ _ b => gu_other b) (fun q _ => by rw [gu_other (by omega)]) (fun q _ => by rw [gu_other (by omega)]) (fun q _ => by rw [gu_other (by omega)]) (fun _ => rfl) (by rw [gu_other (by omega)]; exact q1) (by rw [gu_other (by omega)]; exact q2) (fun j hj => by
        unfold gu gup
        by_cases w : j = k.toNat
        · rw [if_pos ⟨rfl, w⟩, if_pos w]
        · rw [if_neg (fun z => w z.2), if_neg w]
          exact q3 j hj)
      exact ⟨_, J, rfl, by rw [hU]; exact kk.1, kk.2, hA.symm⟩
  · have hU : gU_cell σ i k v = σ := if_neg (fun z => h z.1)
    have hA : gA_cell σ i k v = -2 := if_neg h
    refine gKi_mono (c_X10_cell_out hi h (by omega)) (fun e μ h9 => ?_)
    obtain ⟨rfl, rfl⟩ := h9
    exact ⟨I, J, rfl, by rw [hU]; exact hc, gLo_rf, hA.symm⟩
theorem gcv_cpy {F G F' G' : Nat → Int} {sn sn' i j n : Nat} (h1 : ∀ q, q < sn → F q = F' q) (h2 : ∀ q, q < sn' → G q = G' q) (hi : i + n ≤ sn) : ∀ q, q < sn' → va_cpy F G i j n q = va_cpy F' G' i j n q := fun q hq => by
  unfold va_cpy
  by_cases c : j ≤ q ∧ q < j + n
  · rw [if_pos c, if_pos c]
    exact h1 _ (by omega)
  · rw [if_neg c, if_neg c]
    exact h2 q hq
theorem s9_copy {a i b j n : Int} (ha : gRng a) (hi : gRng i) (hb : gRng b) (hj : gRng j) (hn : gRng n) (hp : gPs σ) (hc : gCs σ I J) : gKi l Γ gm_X9_copy 900 [.ref (gad (gSS ad) 0), .int (iv a), .int (iv i), .int (iv b), .int (iv j), .int (iv n)] (gSS ad, I, J) (gPa ad (gU_copy σ a i b j n) I J (gA_copy σ a i b j n)) := by
  by_cases h : 0 ≤ a ∧ a ≤ 3 ∧ 0 ≤ b ∧ b ≤ 3
  · obtain ⟨s, rfl⟩ : ∃ t : Nat, a = (t : Int) := ⟨a.toNat, by omega⟩
    obtain ⟨t, rfl⟩ : ∃ t : Nat, b = (t : Int) := ⟨b.toNat, by omega⟩
    have hs : s < 4 := by omega
    have ht : t < 4 := by omega
    obtain ⟨p1, p2, p3⟩ := hc.2.2.2.2 s hs
    obtain ⟨q1, q2, q3⟩ := hc.2.2.2.2 t ht
    have os := hp.2.2.2 s hs
    have ot := hp.2.2.2 t ht
    have hA : gA_copy σ (s : Int) i (t : Int) j n = (if gCpr σ (s : Int) (t : Int) i j n = 0 then n else gCpr σ (s : Int) (t : Int) i j n) := if_pos h
    refine gKi_mono (c_X9_copy hs ht p1 p2 os.1 os.2.1 q1 q2 ot.1 ot.2.1 hi hj hn (by omega)) (fun e μ h9 => ?_)
    rcases h9 with ⟨c, rfl, rfl⟩ | ⟨c, rfl, rfl⟩
    · have c : ¬ gCpr σ (s : Int) (t : Int) i j n = 0 := c
      rw [if_neg c] at hA
      have hU : gU_copy σ (s : Int) i (t : Int) j n = σ := if_neg (fun z => c z.2)
      exact ⟨I, J, rfl, by rw [hU]; exact hc, gHi_rf, hA.symm⟩
    · have c : gCpr σ (s : Int) (t : Int) i j e = 0 := c
      rw [if_pos c] at hA
      have hU : gU_copy σ (s : Int) i (t : Int) j _ = _ := if_pos ⟨h, c⟩
      have hz : 0 ≤ i ∧ 0 ≤ j ∧ 0 ≤ e ∧ i + e ≤ (σ.2.2.2.2.2.1 s : Int) ∧ j + e ≤ (σ.2.2.2.2.2.1 t : Int) := gCp_0 c
      have kk := gCs_sh (so := σ.2.2.2.2.1 t) (sn := σ.2.2.2.2.2.1 t) (C := va_cpy (σ.2.2.2.2.2.2 s) (σ.2.2.2.2.2.2 t) i.toNat j.toNat e.toNat) (J1 := J) hc ht (I1 := gur I (138 + 2 * t) (va_cpy (I (138 + 2 * s)) (I (138 + 2 * t)) i.toNat j.toNat e.toNat)) (fun p _ _ b => gur_other b) (fun _ _ => rfl) (by rw [gur_other (by omega)]; exact q1) (by rw [gur_other (by omega)]; exact q2) (fun q hq => by
        show (if 138 + 2 * t = 138 + 2 * t then va_cpy (I (138 + 2 * s)) (I (138 + 2 * t)) i.toNat j.toNat e.toNat q else _) = _
        rw [if_pos rfl]
        exact gcv_cpy p3 q3 (by omega) q hq)
      exact ⟨_, J, rfl, by rw [hU]; exact kk.1, kk.2, hA.symm⟩
  · have hU : gU_copy σ a i b j n = σ := if_neg (fun z => h z.1)
    have hA : gA_copy σ a i b j n = -2 := if_neg h
    refine gKi_mono (c_X9_copy_out ha hb h (by omega)) (fun e μ h9 => ?_)
    obtain ⟨rfl, rfl⟩ := h9
    exact ⟨I, J, rfl, by rw [hU]; exact hc, gHi_rf, hA.symm⟩
theorem s10_copy {a i b j n : Int} (ha : gRng a) (hi : gRng i) (hb : gRng b) (hj : gRng j) (hn : gRng n) (hp : gPs σ) (hc : gMs σ I J) : gKi l Γ gm_X10_copy 900 [.ref (gad (gSS ad) 145), .int (iv a), .int (iv i), .int (iv b), .int (iv j), .int (iv n)] (gSS ad, I, J) (gPb ad (gU_copy σ a i b j n) I J (gA_copy σ a i b j n)) := by
  by_cases h : 0 ≤ a ∧ a ≤ 3 ∧ 0 ≤ b ∧ b ≤ 3
  · obtain ⟨s, rfl⟩ : ∃ t : Nat, a = (t : Int) := ⟨a.toNat, by omega⟩
    obtain ⟨t, rfl⟩ : ∃ t : Nat, b = (t : Int) := ⟨b.toNat, by omega⟩
    have hs : s < 4 := by omega
    have ht : t < 4 := by omega
    obtain ⟨p1, p2, p3⟩ := hc.2.2.2.2 s hs
    obtain ⟨q1, q2, q3⟩ := hc.2.2.2.2 t ht
    have os := hp.2.2.2 s hs
    have ot := hp.2.2.2 t ht
    have hA : gA_copy σ (s : Int) i (t : Int) j n = (if gCpr σ (s : Int) (t : Int) i j n = 0 then n else gCpr σ (s : Int) (t : Int) i j n) := if_pos h
    refine gKi_mono (c_X10_copy hs ht p1 p2 os.1 os.2.1 q1 q2 ot.1 ot.2.1 hi hj hn (by omega)) (fun e μ h9 => ?_)
    rcases h9 with ⟨c, rfl, rfl⟩ | ⟨c, ⟨I1, rfl, hI, hC⟩, rfl⟩
    · have c : ¬ gCpr σ (s : Int) (t : Int) i j n = 0 := c
      rw [if_neg c] at hA
      have hU : gU_copy σ (s : Int) i (t : Int) j n = σ := if_neg (fun z => c z.2)
      exact ⟨I, J, rfl, by rw [hU]; exact hc, gLo_rf, hA.symm⟩
    · have c : gCpr σ (s : Int) (t : Int) i j e = 0 := c
      rw [if_pos c] at hA
      have hU : gU_copy σ (s : Int) i (t : Int) j _ = _ := if_pos ⟨h, c⟩
      have hz : 0 ≤ i ∧ 0 ≤ j ∧ 0 ≤ e ∧ i + e ≤ (σ.2.2.2.2.2.1 s : Int) ∧ j + e ≤ (σ.2.2.2.2.2.1 t : Int) := gCp_0 c
      have kk := gMs_sh (so := σ.2.2.2.2.1 t) (sn := σ.2.2.2.2.2.1 t) (C := va_cpy (σ.2.2.2.2.2.2 s) (σ.2.2.2.2.2.2 t) i.toNat j.toNat e.toNat) (J1 := J) hc ht (I1 := I1) (fun p _ _ _ _ _ a b => hI p a b) (fun q _ => congrFun (hI _ (by omega) (by omega)) q) (fun q _ => congrFun (hI _ (by omega) (by omega)) q) (fun q _ => congrFun (hI _ (by omega) (by omega)) q) (fun _ => rfl) ((congrFun (hI _ (by omega) (by omega)) t).trans q1) ((congrFun (hI _ (by omega) (by omega)) t).trans q2) (fun q hq => (hC q).trans (gcv_cpy p3 q3 (by omega) q hq))
      exact ⟨_, J, rfl, by rw [hU]; exact kk.1, kk.2, hA.symm⟩
  · have hU : gU_copy σ a i b j n = σ := if_neg (fun z => h z.1)
    have hA : gA_copy σ a i b j n = -2 := if_neg h
    refine gKi_mono (c_X10_copy_out ha hb h (by omega)) (fun e μ h9 => ?_)
    obtain ⟨rfl, rfl⟩ := h9
    exact ⟨I, J, rfl, by rw [hU]; exact hc, gLo_rf, hA.symm⟩
theorem s9_film {s i nm m0 : Int} (hs0 : gRng s) (hi : gRng i) (hnm : gRng nm) (hm0 : gRng m0) (hp : gPs σ) (hc : gCs σ I J) : gKi l Γ gm_X9_film 900 [.ref (gad (gSS ad) 0), .int (iv s), .int (iv i), .int (iv nm), .int (iv m0)] (gSS ad, I, J) (gPa ad (gU_film σ s i nm m0) I J (gA_film σ s i nm m0)) := by
  by_cases h : gFiC s i nm m0
  · obtain ⟨h1, h2, h3, h4, h5, h6, h7, h8⟩ := id h
    obtain ⟨t, rfl⟩ : ∃ t : Nat, s = (t : Int) := ⟨s.toNat, by omega⟩
    obtain ⟨f, rfl⟩ : ∃ t : Nat, i = (t : Int) := ⟨i.toNat, by omega⟩
    obtain ⟨q, rfl⟩ : ∃ t : Nat, nm = (t : Int) := ⟨nm.toNat, by omega⟩
    obtain ⟨m, rfl⟩ : ∃ t : Nat, m0 = (t : Int) := ⟨m0.toNat, by omega⟩
    have hf : f < 12 := by omega
    have ht : t < 4 := by omega
    have hA : gA_film σ (t : Int) (f : Int) (q : Int) (m : Int) = (if (σ.1 f).1 = 0 then -3 else (m : Int)) := if_pos h
    refine gKi_mono (c_X9_film hf (hc.1 f hf) (hp.1 f hf) (s := t) (nm := q) (m0 := m) ht (by omega) (by omega) (by omega)) (fun e μ h9 => ?_)
    rcases h9 with ⟨c, rfl, rfl⟩ | ⟨c, I1, J1, rfl, hI, hJ, k1, k2, k3, rfl⟩
    · rw [if_pos c] at hA
      have hU : gU_film σ (t : Int) (f : Int) (q : Int) (m : Int) = σ := if_neg (fun z => z.2 c)
      exact ⟨I, J, rfl, by rw [hU]; exact hc, gHi_rf, hA.symm⟩
    · rw [if_neg (by omega)] at hA
      have hU : gU_film σ (t : Int) (f : Int) (q : Int) (m : Int) = _ := if_pos ⟨h, by show ¬ (σ.1 f).1 = 0; omega⟩
      have kk := gCs_sh (so := 1) (sn := m) (C := fun x => gl2i (gWo (σ.1 f).1 (σ.1 f).2.1 (σ.1 f).2.2.1 (σ.1 f).2.2.2 (gup σ.2.1 q (x : Int)))) hc ht hI hJ k1 k2 (fun x hx => by
        rw [k3 x hx, gWo_v (hp.1 f hf) (v' := gup σ.2.1 q (x : Int)) (fun y hy => by simp only [gup]; rw [hc.2.1 y hy]) c])
      exact ⟨_, _, rfl, by rw [hU]; exact kk.1, kk.2, hA.symm⟩
  · have hU : gU_film σ s i nm m0 = σ := if_neg (fun z => h z.1)
    have hA : gA_film σ s i nm m0 = -2 := if_neg h
    refine gKi_mono (c_X9_film_out hi hs0 hnm hm0 h (by omega)) (fun e μ h9 => ?_)
    obtain ⟨rfl, rfl⟩ := h9
    exact ⟨I, J, rfl, by rw [hU]; exact hc, gHi_rf, hA.symm⟩
theorem s10_film {s i nm m0 : Int} (hs0 : gRng s) (hi : gRng i) (hnm : gRng nm) (hm0 : gRng m0) (hp : gPs σ) (hc : gMs σ I J) : gKi l Γ gm_X10_film 900 [.ref (gad (gSS ad) 145), .int (iv s), .int (iv i), .int (iv nm), .int (iv m0)] (gSS ad, I, J) (gPb ad (gU_film σ s i nm m0) I J (gA_film σ s i nm m0)) := by
  by_cases h : gFiC s i nm m0
  · obtain ⟨h1, h2, h3, h4, h5, h6, h7, h8⟩ := id h
    obtain ⟨t, rfl⟩ : ∃ t : Nat, s = (t : Int) := ⟨s.toNat, by omega⟩
    obtain ⟨f, rfl⟩ : ∃ t : Nat, i = (t : Int) := ⟨i.toNat, by omega⟩
    obtain ⟨q, rfl⟩ : ∃ t : Nat, nm = (t : Int) := ⟨nm.toNat, by omega⟩
    obtain ⟨m, rfl⟩ : ∃ t : Nat, m0 = (t : Int) := ⟨m0.toNat, by omega⟩
    have hf : f < 12 := by omega
    have ht : t < 4 := by omega
    have hA : gA_film σ (t : Int) (f : Int) (q : Int) (m : Int) = (if (σ.1 f).1 = 0 then -3 else (m : Int)) := if_pos h
    refine gKi_mono (c_X10_film hf (hc.1 f hf) (hp.1 f hf) (s := t) (nm := q) (m0 := m) ht (by omega) (by omega) (by have := (hp.1 f hf).1; omega)) (fun e μ h9 => ?_)
    rcases h9 with ⟨c, rfl, rfl⟩ | ⟨c, I1, rfl, hI, hV, h7', h8', k3, rfl⟩
    · rw [if_pos c] at hA
      have hU : gU_film σ (t : Int) (f : Int) (q : Int) (m : Int) = σ := if_neg (fun z => z.2 c)
      exact ⟨I, J, rfl, by rw [hU]; exact hc, gLo_rf, hA.symm⟩
    · rw [if_neg (by omega)] at hA
      have hU : gU_film σ (t : Int) (f : Int) (q : Int) (m : Int) = _ := if_pos ⟨h, by show ¬ (σ.1 f).1 = 0; omega⟩
      have kk := gMs_sh (so := 1) (sn := m) (C := fun x => gl2i (gWo (σ.1 f).1 (σ.1 f).2.1 (σ.1 f).2.2.1 (σ.1 f).2.2.2 (gup σ.2.1 q (x : Int)))) (J1 := J) hc ht (fun p a1 a2 a3 a4 a5 _ a7 => hI p a1 a2 a3 a4 a5 a7) hV (fun x hx => by rw [h7' x, if_neg hx]) (fun x hx => by rw [h8' x, if_neg hx]) (fun _ => rfl) (by rw [h7' t, if_pos rfl]) (by rw [h8' t, if_pos rfl]) (fun x hx => by
        rw [k3 x hx, gWo_v (hp.1 f hf) (v' := gup σ.2.1 q (x : Int)) (fun y hy => by simp only [gup]; rw [hc.2.1 y hy]) c])
      exact ⟨_, _, rfl, by rw [hU]; exact kk.1, kk.2, hA.symm⟩
  · have hU : gU_film σ s i nm m0 = σ := if_neg (fun z => h z.1)
    have hA : gA_film σ s i nm m0 = -2 := if_neg h
    refine gKi_mono (c_X10_film_out hi hs0 hnm hm0 h (by omega)) (fun e μ h9 => ?_)
    obtain ⟨rfl, rfl⟩ := h9
    exact ⟨I, J, rfl, by rw [hU]; exact hc, gLo_rf, hA.symm⟩
end SH
