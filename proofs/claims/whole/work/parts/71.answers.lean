/-! answers of methods that change nothing of what is held -/
theorem gcv_W {r : gRow} (h : gRW r) {V v : Nat → Int} (hv : ∀ q, q < 8 → V q = v q) {a : Int64} : (if r.1 = 0 then a else gWo r.1 r.2.1 r.2.2.1 r.2.2.2 V) = (if r.1 = 0 then a else gWo r.1 r.2.1 r.2.2.1 r.2.2.2 v) := by
  by_cases c : r.1 = 0
  · rw [if_pos c, if_pos c]
  · rw [if_neg c, if_neg c, gWo_v h hv (by omega)]
theorem gcv_M {r : gRow} (h : gRW r) {V v : Nat → Int} (hv : ∀ q, q < 8 → V q = v q) {a : Int} {q : Nat} : (if r.1 = 0 then a else (gMo r.1 r.2.1 r.2.2.1 r.2.2.2 V q : Int)) = (if r.1 = 0 then a else (gMo r.1 r.2.1 r.2.2.1 r.2.2.2 v q : Int)) := by
  by_cases c : r.1 = 0
  · rw [if_pos c, if_pos c]
  · rw [if_neg c, if_neg c, gMo_v h hv (by omega)]
theorem gcv_P {r : gRow} (h : gRW r) {V v : Nat → Int} (hv : ∀ q, q < 8 → V q = v q) {a b : Int64} {q : Int} : (if r.1 = 0 then a else if (gMo r.1 r.2.1 r.2.2.1 r.2.2.2 V 8 : Int) > q then b else gWo r.1 r.2.1 r.2.2.1 r.2.2.2 V) = (if r.1 = 0 then a else if (gMo r.1 r.2.1 r.2.2.1 r.2.2.2 v 8 : Int) > q then b else gWo r.1 r.2.1 r.2.2.1 r.2.2.2 v) := by
  by_cases c : r.1 = 0
  · rw [if_pos c, if_pos c]
  · rw [if_neg c, if_neg c, gMo_v h hv (by omega), gWo_v h hv (by omega)]
theorem gcv_R {r : gRow} {V v : Nat → Int} (hv : ∀ q, q < 8 → V q = v q) {a : Int64} : (if r.1 = 0 then a else gyW r.1 r.2.1 r.2.2.1 r.2.2.2 V) = (if r.1 = 0 then a else gyW r.1 r.2.1 r.2.2.1 r.2.2.2 v) := by rw [gyW_v hv]
theorem gcv_C {r : gRow} {V v : Nat → Int} (hv : ∀ q, q < 8 → V q = v q) {k : Int} : gCde r.1 r.2.1 r.2.2.1 r.2.2.2 V k = gCde r.1 r.2.1 r.2.2.1 r.2.2.2 v k := by
  unfold gCde
  rw [gyM_v hv, gyHi_v hv]
theorem gcv_S {r : gRow} (h : gRW r) {V v : Nat → Int} (hv : ∀ q, q < 8 → V q = v q) (hn : 0 < r.1) {nm : Nat} {low w : Int} : (fun k : Nat => gWo r.1 r.2.1 r.2.2.1 r.2.2.2 (gup V nm (low + k)) = gi2l w) = (fun k : Nat => gWo r.1 r.2.1 r.2.2.1 r.2.2.2 (gup v nm (low + k)) = gi2l w) := by
  funext k
  rw [gWo_v h (v' := gup v nm (low + k)) (fun q hq => by simp only [gup]; rw [hv q hq]) hn]
noncomputable def gA_node (σ : gSgm) (i k w : Int) : Int := if 0 ≤ i ∧ i ≤ 11 ∧ 0 ≤ w ∧ w ≤ 4 then gNd (σ.1 i.toNat).1 (σ.1 i.toNat).2.1 (σ.1 i.toNat).2.2.1 (σ.1 i.toNat).2.2.2 k w.toNat else -2
theorem s9_node {l : Launch} {Γ : gC} {ad : Nat → Nat} {I : Nat → Nat → Int} {J : Nat → Nat → Int64} {σ : gSgm} {i k w : Int} (hi : gRng i) (hk : gRng k) (hw : gRng w) (hp : gPs σ) (hc : gCs σ I J) : gKi l Γ gm_X9_node 900 [.ref (gad (gSS ad) 0), .int (iv i), .int (iv k), .int (iv w)] (gSS ad, I, J) (gPa ad σ I J (gA_node σ i k w)) := by
  by_cases hin : 0 ≤ i ∧ i ≤ 11 ∧ 0 ≤ w ∧ w ≤ 4
  · obtain ⟨f, rfl⟩ : ∃ f : Nat, i = (f : Int) := ⟨i.toNat, by omega⟩
    obtain ⟨w0, rfl⟩ : ∃ w0 : Nat, w = (w0 : Int) := ⟨w.toNat, by omega⟩
    have hf : f < 12 := by omega
    have hA : gA_node σ (f : Int) k (w0 : Int) = _ := if_pos hin
    refine gKi_mono (c_X9_node hf (hc.1 f hf) (hp.1 f hf) hk (w := w0) (by omega) (by omega)) (fun e μ h => ?_)
    obtain ⟨rfl, rfl⟩ := h
    exact ⟨I, J, rfl, hc, gHi_rf, (rfl : _ = _).trans hA.symm⟩
  · have hA : gA_node σ i k w = _ := if_neg hin
    refine gKi_mono (c_X9_node_out hi hw hin (by omega)) (fun e μ h => ?_)
    obtain ⟨rfl, rfl⟩ := h
    exact ⟨I, J, rfl, hc, gHi_rf, hA.symm⟩
theorem s10_node {l : Launch} {Γ : gC} {ad : Nat → Nat} {I : Nat → Nat → Int} {J : Nat → Nat → Int64} {σ : gSgm} {i k w : Int} (hi : gRng i) (hk : gRng k) (hw : gRng w) (hp : gPs σ) (hc : gMs σ I J) : gKi l Γ gm_X10_node 900 [.ref (gad (gSS ad) 145), .int (iv i), .int (iv k), .int (iv w)] (gSS ad, I, J) (gPb ad σ I J (gA_node σ i k w)) := by
  by_cases hin : 0 ≤ i ∧ i ≤ 11 ∧ 0 ≤ w ∧ w ≤ 4
  · obtain ⟨f, rfl⟩ : ∃ f : Nat, i = (f : Int) := ⟨i.toNat, by omega⟩
    obtain ⟨w0, rfl⟩ : ∃ w0 : Nat, w = (w0 : Int) := ⟨w.toNat, by omega⟩
    have hf : f < 12 := by omega
    have hA : gA_node σ (f : Int) k (w0 : Int) = _ := if_pos hin
    refine gKi_mono (c_X10_node hf (hc.1 f hf) (hp.1 f hf) hk (w := w0) (by omega) (by have := (hp.1 f hf).1; omega)) (fun e μ h => ?_)
    obtain ⟨rfl, rfl⟩ := h
    exact ⟨I, J, rfl, hc, gLo_rf, (rfl : _ = _).trans hA.symm⟩
  · have hA : gA_node σ i k w = _ := if_neg hin
    refine gKi_mono (c_X10_node_out hi hw hin (by omega)) (fun e μ h => ?_)
    obtain ⟨rfl, rfl⟩ := h
    exact ⟨I, J, rfl, hc, gLo_rf, hA.symm⟩
noncomputable def gA_taken (σ : gSgm) (i k q : Int) : Int := if 0 ≤ i ∧ i ≤ 11 ∧ 0 ≤ q ∧ q ≤ 7 then gTk (σ.1 i.toNat).1 (σ.1 i.toNat).2.1 (σ.1 i.toNat).2.2.2 k q.toNat else -2
theorem s9_taken {l : Launch} {Γ : gC} {ad : Nat → Nat} {I : Nat → Nat → Int} {J : Nat → Nat → Int64} {σ : gSgm} {i k q : Int} (hi : gRng i) (hk : gRng k) (hq : gRng q) (hp : gPs σ) (hc : gCs σ I J) : gKi l Γ gm_X9_taken 900 [.ref (gad (gSS ad) 0), .int (iv i), .int (iv k), .int (iv q)] (gSS ad, I, J) (gPa ad σ I J (gA_taken σ i k q)) := by
  by_cases hin : 0 ≤ i ∧ i ≤ 11 ∧ 0 ≤ q ∧ q ≤ 7
  · obtain ⟨f, rfl⟩ : ∃ f : Nat, i = (f : Int) := ⟨i.toNat, by omega⟩
    obtain ⟨q0, rfl⟩ : ∃ q0 : Nat, q = (q0 : Int) := ⟨q.toNat, by omega⟩
    have hf : f < 12 := by omega
    have hA : gA_taken σ (f : Int) k (q0 : Int) = _ := if_pos hin
    refine gKi_mono (c_X9_taken hf (hc.1 f hf) (hp.1 f hf) hk (q := q0) (by omega) (by omega)) (fun e μ h => ?_)
    obtain ⟨rfl, rfl⟩ := h
    exact ⟨I, J, rfl, hc, gHi_rf, (rfl : _ = _).trans hA.symm⟩
  · have hA : gA_taken σ i k q = _ := if_neg hin
    refine gKi_mono (c_X9_taken_out hi hq hin (by omega)) (fun e μ h => ?_)
    obtain ⟨rfl, rfl⟩ := h
    exact ⟨I, J, rfl, hc, gHi_rf, hA.symm⟩
theorem s10_taken {l : Launch} {Γ : gC} {ad : Nat → Nat} {I : Nat → Nat → Int} {J : Nat → Nat → Int64} {σ : gSgm} {i k q : Int} (hi : gRng i) (hk : gRng k) (hq : gRng q) (hp : gPs σ) (hc : gMs σ I J) : gKi l Γ gm_X10_taken 900 [.ref (gad (gSS ad) 145), .int (iv i), .int (iv k), .int (iv q)] (gSS ad, I, J) (gPb ad σ I J (gA_taken σ i k q)) := by
  by_cases hin : 0 ≤ i ∧ i ≤ 11 ∧ 0 ≤ q ∧ q ≤ 7
  · obtain ⟨f, rfl⟩ : ∃ f : Nat, i = (f : Int) := ⟨i.toNat, by omega⟩
    obtain ⟨q0, rfl⟩ : ∃ q0 : Nat, q = (q0 : Int) := ⟨q.toNat, by omega⟩
    have hf : f < 12 := by omega
    have hA : gA_taken σ (f : Int) k (q0 : Int) = _ := if_pos hin
    refine gKi_mono (c_X10_taken hf (hc.1 f hf) (hp.1 f hf) hk (q := q0) (by omega) (by have := (hp.1 f hf).1; omega)) (fun e μ h => ?_)
    obtain ⟨rfl, rfl⟩ := h
    exact ⟨I, J, rfl, hc, gLo_rf, (rfl : _ = _).trans hA.symm⟩
  · have hA : gA_taken σ i k q = _ := if_neg hin
    refine gKi_mono (c_X10_taken_out hi hq hin (by omega)) (fun e μ h => ?_)
    obtain ⟨rfl, rfl⟩ := h
    exact ⟨I, J, rfl, hc, gLo_rf, hA.symm⟩
noncomputable def gA_worth (σ : gSgm) (i : Int) : Int64 := if 0 ≤ i ∧ i ≤ 11 then if (σ.1 i.toNat).1 = 0 then -1000003 else gWo (σ.1 i.toNat).1 (σ.1 i.toNat).2.1 (σ.1 i.toNat).2.2.1 (σ.1 i.toNat).2.2.2 σ.2.1 else -1000002
theorem s9_worth {l : Launch} {Γ : gC} {ad : Nat → Nat} {I : Nat → Nat → Int} {J : Nat → Nat → Int64} {σ : gSgm} {i : Int} (hi : gRng i) (hp : gPs σ) (hc : gCs σ I J) : gKl l Γ gm_X9_worth 900 [.ref (gad (gSS ad) 0), .int (iv i)] (gSS ad, I, J) (gPal ad σ I J (gA_worth σ i)) := by
  by_cases hin : 0 ≤ i ∧ i ≤ 11
  · obtain ⟨f, rfl⟩ : ∃ f : Nat, i = (f : Int) := ⟨i.toNat, by omega⟩
    have hf : f < 12 := by omega
    have hA : gA_worth σ (f : Int) = _ := if_pos hin
    refine gKl_mono (c_X9_worth hf (hc.1 f hf) (hp.1 f hf)  (by omega)) (fun e μ h => ?_)
    obtain ⟨J1, rfl, hJ, rfl⟩ := h
    exact ⟨I, J1, rfl, gCs_fr hc (fun _ _ _ => rfl) (fun p z => hJ p (by omega)), fun p z => ⟨rfl, hJ p (by omega)⟩, (gcv_W (hp.1 f hf) hc.2.1).trans hA.symm⟩
  · have hA : gA_worth σ i = _ := if_neg hin
    refine gKl_mono (c_X9_worth_out hi hin (by omega)) (fun e μ h => ?_)
    obtain ⟨rfl, rfl⟩ := h
    exact ⟨I, J, rfl, hc, gHi_rf, hA.symm⟩
theorem s10_worth {l : Launch} {Γ : gC} {ad : Nat → Nat} {I : Nat → Nat → Int} {J : Nat → Nat → Int64} {σ : gSgm} {i : Int} (hi : gRng i) (hp : gPs σ) (hc : gMs σ I J) : gKl l Γ gm_X10_worth 900 [.ref (gad (gSS ad) 145), .int (iv i)] (gSS ad, I, J) (gPbl ad σ I J (gA_worth σ i)) := by
  by_cases hin : 0 ≤ i ∧ i ≤ 11
  · obtain ⟨f, rfl⟩ : ∃ f : Nat, i = (f : Int) := ⟨i.toNat, by omega⟩
    have hf : f < 12 := by omega
    have hA : gA_worth σ (f : Int) = _ := if_pos hin
    refine gKl_mono (c_X10_worth hf (hc.1 f hf) (hp.1 f hf)  (by have := (hp.1 f hf).1; omega)) (fun e μ h => ?_)
    obtain ⟨I1, rfl, hI, rfl⟩ := h
    exact ⟨I1, J, rfl, gMs_fr hc (fun p q z => congrFun (hI p (by unfold gSeM at z; omega)) q) (fun _ _ => rfl), fun p z => ⟨hI p (by omega), rfl⟩, (gcv_W (hp.1 f hf) hc.2.1).trans hA.symm⟩
  · have hA : gA_worth σ i = _ := if_neg hin
    refine gKl_mono (c_X10_worth_out hi hin (by omega)) (fun e μ h => ?_)
    obtain ⟨rfl, rfl⟩ := h
    exact ⟨I, J, rfl, hc, gLo_rf, hA.symm⟩
noncomputable def gA_met (σ : gSgm) (i q : Int) : Int := if 0 ≤ i ∧ i ≤ 11 ∧ 0 ≤ q ∧ q ≤ 8 then if (σ.1 i.toNat).1 = 0 then -3 else (gMo (σ.1 i.toNat).1 (σ.1 i.toNat).2.1 (σ.1 i.toNat).2.2.1 (σ.1 i.toNat).2.2.2 σ.2.1 q.toNat : Int) else -2
theorem s9_met {l : Launch} {Γ : gC} {ad : Nat → Nat} {I : Nat → Nat → Int} {J : Nat → Nat → Int64} {σ : gSgm} {i q : Int} (hi : gRng i) (hq : gRng q) (hp : gPs σ) (hc : gCs σ I J) : gKi l Γ gm_X9_met 900 [.ref (gad (gSS ad) 0), .int (iv i), .int (iv q)] (gSS ad, I, J) (gPa ad σ I J (gA_met σ i q)) := by
  by_cases hin : 0 ≤ i ∧ i ≤ 11 ∧ 0 ≤ q ∧ q ≤ 8
  · obtain ⟨f, rfl⟩ : ∃ f : Nat, i = (f : Int) := ⟨i.toNat, by omega⟩
    obtain ⟨q0, rfl⟩ : ∃ q0 : Nat, q = (q0 : Int) := ⟨q.toNat, by omega⟩
    have hf : f < 12 := by omega
    have hA : gA_met σ (f : Int) (q0 : Int) = _ := if_pos hin
    refine gKi_mono (c_X9_met hf (hc.1 f hf) (hp.1 f hf) (q := q0) (by omega) (by omega)) (fun e μ h => ?_)
    obtain ⟨I1, J1, rfl, hI, hJ, rfl⟩ := h
    exact ⟨I1, J1, rfl, gCs_fr hc (fun p q z => congrFun (hI p (by unfold gSee at z; omega)) q) (fun p z => hJ p (by omega)), fun p z => ⟨hI p (by omega), hJ p (by omega)⟩, (gcv_M (hp.1 f hf) hc.2.1).trans hA.symm⟩
  · have hA : gA_met σ i q = _ := if_neg hin
    refine gKi_mono (c_X9_met_out hi hq hin (by omega)) (fun e μ h => ?_)
    obtain ⟨rfl, rfl⟩ := h
    exact ⟨I, J, rfl, hc, gHi_rf, hA.symm⟩
theorem s10_met {l : Launch} {Γ : gC} {ad : Nat → Nat} {I : Nat → Nat → Int} {J : Nat → Nat → Int64} {σ : gSgm} {i q : Int} (hi : gRng i) (hq : gRng q) (hp : gPs σ) (hc : gMs σ I J) : gKi l Γ gm_X10_met 900 [.ref (gad (gSS ad) 145), .int (iv i), .int (iv q)] (gSS ad, I, J) (gPb ad σ I J (gA_met σ i q)) := by
  by_cases hin : 0 ≤ i ∧ i ≤ 11 ∧ 0 ≤ q ∧ q ≤ 8
  · obtain ⟨f, rfl⟩ : ∃ f : Nat, i = (f : Int) := ⟨i.toNat, by omega⟩
    obtain ⟨q0, rfl⟩ : ∃ q0 : Nat, q = (q0 : Int) := ⟨q.toNat, by omega⟩
    have hf : f < 12 := by omega
    have hA : gA_met σ (f : Int) (q0 : Int) = _ := if_pos hin
    refine gKi_mono (c_X10_met hf (hc.1 f hf) (hp.1 f hf) (q := q0) (by omega) (by have := (hp.1 f hf).1; omega)) (fun e μ h => ?_)
    obtain ⟨I1, rfl, hI, rfl⟩ := h
    exact ⟨I1, J, rfl, gMs_fr hc (fun p q z => congrFun (hI p (by unfold gSeM at z; omega)) q) (fun _ _ => rfl), fun p z => ⟨hI p (by omega), rfl⟩, (gcv_M (hp.1 f hf) hc.2.1).trans hA.symm⟩
  · have hA : gA_met σ i q = _ := if_neg hin
    refine gKi_mono (c_X10_met_out hi hq hin (by omega)) (fun e μ h => ?_)
    obtain ⟨rfl, rfl⟩ := h
    exact ⟨I, J, rfl, hc, gLo_rf, hA.symm⟩
noncomputable def gA_purse (σ : gSgm) (i q : Int) : Int64 := if 0 ≤ i ∧ i ≤ 11 ∧ 0 ≤ q ∧ q ≤ 9999 then if (σ.1 i.toNat).1 = 0 then -1000003 else if (gMo (σ.1 i.toNat).1 (σ.1 i.toNat).2.1 (σ.1 i.toNat).2.2.1 (σ.1 i.toNat).2.2.2 σ.2.1 8 : Int) > q then -1000006 else gWo (σ.1 i.toNat).1 (σ.1 i.toNat).2.1 (σ.1 i.toNat).2.2.1 (σ.1 i.toNat).2.2.2 σ.2.1 else -1000002
theorem s9_purse {l : Launch} {Γ : gC} {ad : Nat → Nat} {I : Nat → Nat → Int} {J : Nat → Nat → Int64} {σ : gSgm} {i q : Int} (hi : gRng i) (hq : gRng q) (hp : gPs σ) (hc : gCs σ I J) : gKl l Γ gm_X9_purse 900 [.ref (gad (gSS ad) 0), .int (iv i), .int (iv q)] (gSS ad, I, J) (gPal ad σ I J (gA_purse σ i q)) := by
  by_cases hin : 0 ≤ i ∧ i ≤ 11 ∧ 0 ≤ q ∧ q ≤ 9999
  · obtain ⟨f, rfl⟩ : ∃ f : Nat, i = (f : Int) := ⟨i.toNat, by omega⟩
    have hf : f < 12 := by omega
    have hA : gA_purse σ (f : Int) q = _ := if_pos hin
    refine gKl_mono (c_X9_purse hf (hc.1 f hf) (hp.1 f hf) (q := q) (by omega) (by omega)) (fun e μ h => ?_)
    obtain ⟨I1, J1, rfl, hI, hJ, rfl⟩ := h
    exact ⟨I1, J1, rfl, gCs_fr hc (fun p q z => congrFun (hI p (by unfold gSee at z; omega)) q) (fun p z => hJ p (by omega)), fun p z => ⟨hI p (by omega), hJ p (by omega)⟩, (gcv_P (hp.1 f hf) hc.2.1).trans hA.symm⟩
  · have hA : gA_purse σ i q = _ := if_neg hin
    refine gKl_mono (c_X9_purse_out hi hq hin (by omega)) (fun e μ h => ?_)
    obtain ⟨rfl, rfl⟩ := h
    exact ⟨I, J, rfl, hc, gHi_rf, hA.symm⟩
theorem s10_purse {l : Launch} {Γ : gC} {ad : Nat → Nat} {I : Nat → Nat → Int} {J : Nat → Nat → Int64} {σ : gSgm} {i q : Int} (hi : gRng i) (hq : gRng q) (hp : gPs σ) (hc : gMs σ I J) : gKl l Γ gm_X10_purse 900 [.ref (gad (gSS ad) 145), .int (iv i), .int (iv q)] (gSS ad, I, J) (gPbl ad σ I J (gA_purse σ i q)) := by
  by_cases hin : 0 ≤ i ∧ i ≤ 11 ∧ 0 ≤ q ∧ q ≤ 9999
  · obtain ⟨f, rfl⟩ : ∃ f : Nat, i = (f : Int) := ⟨i.toNat, by omega⟩
    have hf : f < 12 := by omega
    have hA : gA_purse σ (f : Int) q = _ := if_pos hin
    refine gKl_mono (c_X10_purse hf (hc.1 f hf) (hp.1 f hf) (q := q) (by omega) (by have := (hp.1 f hf).1; omega)) (fun e μ h => ?_)
    obtain ⟨I1, rfl, hI, rfl⟩ := h
    exact ⟨I1, J, rfl, gMs_fr hc (fun p q z => congrFun (hI p (by unfold gSeM at z; omega)) q) (fun _ _ => rfl), fun p z => ⟨hI p (by omega), rfl⟩, (gcv_P (hp.1 f hf) hc.2.1).trans hA.symm⟩
  · have hA : gA_purse σ i q = _ := if_neg hin
    refine gKl_mono (c_X10_purse_out hi hq hin (by omega)) (fun e μ h => ?_)
    obtain ⟨rfl, rfl⟩ := h
    exact ⟨I, J, rfl, hc, gLo_rf, hA.symm⟩
noncomputable def gA_print (σ : gSgm) (i k : Int) : Int := if 0 ≤ i ∧ i ≤ 11 then gPrt (σ.1 i.toNat).1 (σ.1 i.toNat).2.1 (σ.1 i.toNat).2.2.1 (σ.1 i.toNat).2.2.2 k else -2
theorem s9_print {l : Launch} {Γ : gC} {ad : Nat → Nat} {I : Nat → Nat → Int} {J : Nat → Nat → Int64} {σ : gSgm} {i k : Int} (hi : gRng i) (hk : gRng k) (hp : gPs σ) (hc : gCs σ I J) : gKi l Γ gm_X9_print 900 [.ref (gad (gSS ad) 0), .int (iv i), .int (iv k)] (gSS ad, I, J) (gPa ad σ I J (gA_print σ i k)) := by
  by_cases hin : 0 ≤ i ∧ i ≤ 11
  · obtain ⟨f, rfl⟩ : ∃ f : Nat, i = (f : Int) := ⟨i.toNat, by omega⟩
    have hf : f < 12 := by omega
    have hA : gA_print σ (f : Int) k = _ := if_pos hin
    refine gKi_mono (c_X9_print hf (hc.1 f hf) (hp.1 f hf) hk (by omega)) (fun e μ h => ?_)
    obtain ⟨I1, rfl, hI, rfl⟩ := h
    exact ⟨I1, J, rfl, gCs_fr hc (fun p q z => congrFun (hI p (by unfold gSee at z; omega) (by unfold gSee at z; omega) (by unfold gSee at z; omega) (by unfold gSee at z; omega)) q) (fun _ _ => rfl), fun p z => ⟨hI p (by omega) (by omega) (by omega) (by omega), rfl⟩, (rfl : _ = _).trans hA.symm⟩
  · have hA : gA_print σ i k = _ := if_neg hin
    refine gKi_mono (c_X9_print_out hi hin (by omega)) (fun e μ h => ?_)
    obtain ⟨rfl, rfl⟩ := h
    exact ⟨I, J, rfl, hc, gHi_rf, hA.symm⟩
theorem s10_print {l : Launch} {Γ : gC} {ad : Nat → Nat} {I : Nat → Nat → Int} {J : Nat → Nat → Int64} {σ : gSgm} {i k : Int} (hi : gRng i) (hk : gRng k) (hp : gPs σ) (hc : gMs σ I J) : gKi l Γ gm_X10_print 900 [.ref (gad (gSS ad) 145), .int (iv i), .int (iv k)] (gSS ad, I, J) (gPb ad σ I J (gA_print σ i k)) := by
  by_cases hin : 0 ≤ i ∧ i ≤ 11
  · obtain ⟨f, rfl⟩ : ∃ f : Nat, i = (f : Int) := ⟨i.toNat, by omega⟩
    have hf : f < 12 := by omega
    have hA : gA_print σ (f : Int) k = _ := if_pos hin
    refine gKi_mono (c_X10_print hf (hc.1 f hf) (hp.1 f hf) hk (by have := (hp.1 f hf).1; omega)) (fun e μ h => ?_)
    obtain ⟨I1, rfl, hI, hI2, rfl⟩ := h
    exact ⟨I1, J, rfl, gMs_fr hc (fun p q z => by
      by_cases c : p = 145
      · subst c
        exact hI2 q (by unfold gSeM at z; omega)
      · exact congrFun (hI p c (by unfold gSeM at z; omega)) q) (fun _ _ => rfl), fun p z => ⟨hI p (by omega) (by omega), rfl⟩, hA.symm⟩
  · have hA : gA_print σ i k = _ := if_neg hin
    refine gKi_mono (c_X10_print_out hi hin (by omega)) (fun e μ h => ?_)
    obtain ⟨rfl, rfl⟩ := h
    exact ⟨I, J, rfl, hc, gLo_rf, hA.symm⟩
noncomputable def gA_measure (σ : gSgm) (i q : Int) : Int := if 0 ≤ i ∧ i ≤ 11 ∧ 0 ≤ q ∧ q ≤ 5 then if (σ.1 i.toNat).1 = 0 then -3 else gDc (σ.1 i.toNat).1 q.toNat (σ.1 i.toNat).2.1 (σ.1 i.toNat).2.2.1 (σ.1 i.toNat).2.2.2 0 else -2
theorem s9_measure {l : Launch} {Γ : gC} {ad : Nat → Nat} {I : Nat → Nat → Int} {J : Nat → Nat → Int64} {σ : gSgm} {i q : Int} (hi : gRng i) (hq : gRng q) (hp : gPs σ) (hc : gCs σ I J) : gKi l Γ gm_X9_measure 900 [.ref (gad (gSS ad) 0), .int (iv i), .int (iv q)] (gSS ad, I, J) (gPa ad σ I J (gA_measure σ i q)) := by
  by_cases hin : 0 ≤ i ∧ i ≤ 11 ∧ 0 ≤ q ∧ q ≤ 5
  · obtain ⟨f, rfl⟩ : ∃ f : Nat, i = (f : Int) := ⟨i.toNat, by omega⟩
    obtain ⟨q0, rfl⟩ : ∃ q0 : Nat, q = (q0 : Int) := ⟨q.toNat, by omega⟩
    have hf : f < 12 := by omega
    have hA : gA_measure σ (f : Int) (q0 : Int) = _ := if_pos hin
    refine gKi_mono (c_X9_measure hf (hc.1 f hf) (hp.1 f hf) (q := q0) (by omega) (by omega)) (fun e μ h => ?_)
    obtain ⟨I1, rfl, hI, rfl⟩ := h
    exact ⟨I1, J, rfl, gCs_fr hc (fun p q z => congrFun (hI p (by unfold gSee at z; omega)) q) (fun _ _ => rfl), fun p z => ⟨hI p (by omega), rfl⟩, (rfl : _ = _).trans hA.symm⟩
  · have hA : gA_measure σ i q = _ := if_neg hin
    refine gKi_mono (c_X9_measure_out hi hq hin (by omega)) (fun e μ h => ?_)
    obtain ⟨rfl, rfl⟩ := h
    exact ⟨I, J, rfl, hc, gHi_rf, hA.symm⟩
theorem s10_measure {l : Launch} {Γ : gC} {ad : Nat → Nat} {I : Nat → Nat → Int} {J : Nat → Nat → Int64} {σ : gSgm} {i q : Int} (hi : gRng i) (hq : gRng q) (hp : gPs σ) (hc : gMs σ I J) : gKi l Γ gm_X10_measure 900 [.ref (gad (gSS ad) 145), .int (iv i), .int (iv q)] (gSS ad, I, J) (gPb ad σ I J (gA_measure σ i q)) := by
  by_cases hin : 0 ≤ i ∧ i ≤ 11 ∧ 0 ≤ q ∧ q ≤ 5
  · obtain ⟨f, rfl⟩ : ∃ f : Nat, i = (f : Int) := ⟨i.toNat, by omega⟩
    obtain ⟨q0, rfl⟩ : ∃ q0 : Nat, q = (q0 : Int) := ⟨q.toNat, by omega⟩
    have hf : f < 12 := by omega
    have hA : gA_measure σ (f : Int) (q0 : Int) = _ := if_pos hin
    refine gKi_mono (c_X10_measure hf (hc.1 f hf) (hp.1 f hf) (q := q0) (by omega) (by have := (hp.1 f hf).1; omega)) (fun e μ h => ?_)
    obtain ⟨rfl, rfl⟩ := h
    exact ⟨I, J, rfl, hc, gLo_rf, (rfl : _ = _).trans hA.symm⟩
  · have hA : gA_measure σ i q = _ := if_neg hin
    refine gKi_mono (c_X10_measure_out hi hq hin (by omega)) (fun e μ h => ?_)
    obtain ⟨rfl, rfl⟩ := h
    exact ⟨I, J, rfl, hc, gLo_rf, hA.symm⟩
noncomputable def gA_degree (σ : gSgm) (i nm : Int) : Int := if 0 ≤ i ∧ i ≤ 11 ∧ 0 ≤ nm ∧ nm ≤ 7 then if (σ.1 i.toNat).1 = 0 then -3 else gGc (σ.1 i.toNat).1 nm.toNat (σ.1 i.toNat).2.1 (σ.1 i.toNat).2.2.1 (σ.1 i.toNat).2.2.2 0 else -2
theorem s9_degree {l : Launch} {Γ : gC} {ad : Nat → Nat} {I : Nat → Nat → Int} {J : Nat → Nat → Int64} {σ : gSgm} {i nm : Int} (hi : gRng i) (hnm : gRng nm) (hp : gPs σ) (hc : gCs σ I J) : gKi l Γ gm_X9_degree 900 [.ref (gad (gSS ad) 0), .int (iv i), .int (iv nm)] (gSS ad, I, J) (gPa ad σ I J (gA_degree σ i nm)) := by
  by_cases hin : 0 ≤ i ∧ i ≤ 11 ∧ 0 ≤ nm ∧ nm ≤ 7
  · obtain ⟨f, rfl⟩ : ∃ f : Nat, i = (f : Int) := ⟨i.toNat, by omega⟩
    obtain ⟨n0, rfl⟩ : ∃ n0 : Nat, nm = (n0 : Int) := ⟨nm.toNat, by omega⟩
    have hf : f < 12 := by omega
    have hA : gA_degree σ (f : Int) (n0 : Int) = _ := if_pos hin
    refine gKi_mono (c_X9_degree hf (hc.1 f hf) (hp.1 f hf) (nm := n0) (by omega) (by omega)) (fun e μ h => ?_)
    obtain ⟨I1, rfl, hI, rfl⟩ := h
    exact ⟨I1, J, rfl, gCs_fr hc (fun p q z => congrFun (hI p (by unfold gSee at z; omega) (by unfold gSee at z; omega)) q) (fun _ _ => rfl), fun p z => ⟨hI p (by omega) (by omega), rfl⟩, (rfl : _ = _).trans hA.symm⟩
  · have hA : gA_degree σ i nm = _ := if_neg hin
    refine gKi_mono (c_X9_degree_out hi hnm hin (by omega)) (fun e μ h => ?_)
    obtain ⟨rfl, rfl⟩ := h
    exact ⟨I, J, rfl, hc, gHi_rf, hA.symm⟩
theorem s10_degree {l : Launch} {Γ : gC} {ad : Nat → Nat} {I : Nat → Nat → Int} {J : Nat → Nat → Int64} {σ : gSgm} {i nm : Int} (hi : gRng i) (hnm : gRng nm) (hp : gPs σ) (hc : gMs σ I J) : gKi l Γ gm_X10_degree 900 [.ref (gad (gSS ad) 145), .int (iv i), .int (iv nm)] (gSS ad, I, J) (gPb ad σ I J (gA_degree σ i nm)) := by
  by_cases hin : 0 ≤ i ∧ i ≤ 11 ∧ 0 ≤ nm ∧ nm ≤ 7
  · obtain ⟨f, rfl⟩ : ∃ f : Nat, i = (f : Int) := ⟨i.toNat, by omega⟩
    obtain ⟨n0, rfl⟩ : ∃ n0 : Nat, nm = (n0 : Int) := ⟨nm.toNat, by omega⟩
    have hf : f < 12 := by omega
    have hA : gA_degree σ (f : Int) (n0 : Int) = _ := if_pos hin
    refine gKi_mono (c_X10_degree hf (hc.1 f hf) (hp.1 f hf) (nm := n0) (by omega) (by have := (hp.1 f hf).1; omega)) (fun e μ h => ?_)
    obtain ⟨rfl, rfl⟩ := h
    exact ⟨I, J, rfl, hc, gLo_rf, (rfl : _ = _).trans hA.symm⟩
  · have hA : gA_degree σ i nm = _ := if_neg hin
    refine gKi_mono (c_X10_degree_out hi hnm hin (by omega)) (fun e μ h => ?_)
    obtain ⟨rfl, rfl⟩ := h
    exact ⟨I, J, rfl, hc, gLo_rf, hA.symm⟩
noncomputable def gA_run (σ : gSgm) (i : Int) : Int64 := if 0 ≤ i ∧ i ≤ 11 then if (σ.1 i.toNat).1 = 0 then -1000003 else gyW (σ.1 i.toNat).1 (σ.1 i.toNat).2.1 (σ.1 i.toNat).2.2.1 (σ.1 i.toNat).2.2.2 σ.2.1 else -1000002
theorem s9_run {l : Launch} {Γ : gC} {ad : Nat → Nat} {I : Nat → Nat → Int} {J : Nat → Nat → Int64} {σ : gSgm} {i : Int} (hi : gRng i) (hp : gPs σ) (hc : gCs σ I J) : gKl l Γ gm_X9_run 900 [.ref (gad (gSS ad) 0), .int (iv i)] (gSS ad, I, J) (gPal ad σ I J (gA_run σ i)) := by
  by_cases hin : 0 ≤ i ∧ i ≤ 11
  · obtain ⟨f, rfl⟩ : ∃ f : Nat, i = (f : Int) := ⟨i.toNat, by omega⟩
    have hf : f < 12 := by omega
    have hA : gA_run σ (f : Int) = _ := if_pos hin
    refine gKl_mono (c_X9_run hf (hc.1 f hf) (hp.1 f hf)  (by omega)) (fun e μ h => ?_)
    obtain ⟨I1, J1, rfl, hI, hJ, rfl⟩ := h
    exact ⟨I1, J1, rfl, gCs_fr hc (fun p q z => congrFun (hI p (by unfold gSee at z; omega) (by unfold gSee at z; omega) (by unfold gSee at z; omega) (by unfold gSee at z; omega)) q) (fun p z => hJ p (by omega) (by omega)), fun p z => ⟨hI p (by omega) (by omega) (by omega) (by omega), hJ p (by omega) (by omega)⟩, (gcv_R hc.2.1).trans hA.symm⟩
  · have hA : gA_run σ i = _ := if_neg hin
    refine gKl_mono (c_X9_run_out hi hin (by omega)) (fun e μ h => ?_)
    obtain ⟨rfl, rfl⟩ := h
    exact ⟨I, J, rfl, hc, gHi_rf, hA.symm⟩
theorem s10_run {l : Launch} {Γ : gC} {ad : Nat → Nat} {I : Nat → Nat → Int} {J : Nat → Nat → Int64} {σ : gSgm} {i : Int} (hi : gRng i) (hp : gPs σ) (hc : gMs σ I J) : gKl l Γ gm_X10_run 900 [.ref (gad (gSS ad) 145), .int (iv i)] (gSS ad, I, J) (gPbl ad σ I J (gA_run σ i)) := by
  by_cases hin : 0 ≤ i ∧ i ≤ 11
  · obtain ⟨f, rfl⟩ : ∃ f : Nat, i = (f : Int) := ⟨i.toNat, by omega⟩
    have hf : f < 12 := by omega
    have hA : gA_run σ (f : Int) = _ := if_pos hin
    refine gKl_mono (c_X10_run hf (hc.1 f hf) (hp.1 f hf)  (by have := (hp.1 f hf).1; omega)) (fun e μ h => ?_)
    obtain ⟨I1, J1, rfl, hI, hI2, hJ, rfl⟩ := h
    exact ⟨I1, J1, rfl, gMs_fr hc (fun p q z => by
      by_cases c : p = 145
      · subst c
        exact hI2 q (by unfold gSeM at z; omega) (by unfold gSeM at z; omega) (by unfold gSeM at z; omega)
      · exact congrFun (hI p c (by unfold gSeM at z; omega)) q) (fun p z => hJ p (by omega) (by omega)), fun p z => ⟨hI p (by omega) (by omega), hJ p (by omega) (by omega)⟩, (gcv_R hc.2.1).trans hA.symm⟩
  · have hA : gA_run σ i = _ := if_neg hin
    refine gKl_mono (c_X10_run_out hi hin (by omega)) (fun e μ h => ?_)
    obtain ⟨rfl, rfl⟩ := h
    exact ⟨I, J, rfl, hc, gLo_rf, hA.symm⟩
noncomputable def gA_code (σ : gSgm) (i k : Int) : Int := if 0 ≤ i ∧ i ≤ 11 ∧ -3 ≤ k then gCde (σ.1 i.toNat).1 (σ.1 i.toNat).2.1 (σ.1 i.toNat).2.2.1 (σ.1 i.toNat).2.2.2 σ.2.1 k else -2
theorem s9_code {l : Launch} {Γ : gC} {ad : Nat → Nat} {I : Nat → Nat → Int} {J : Nat → Nat → Int64} {σ : gSgm} {i k : Int} (hi : gRng i) (hk : gRng k) (hp : gPs σ) (hc : gCs σ I J) : gKi l Γ gm_X9_code 900 [.ref (gad (gSS ad) 0), .int (iv i), .int (iv k)] (gSS ad, I, J) (gPa ad σ I J (gA_code σ i k)) := by
  by_cases hin : 0 ≤ i ∧ i ≤ 11 ∧ -3 ≤ k
  · obtain ⟨f, rfl⟩ : ∃ f : Nat, i = (f : Int) := ⟨i.toNat, by omega⟩
    have hf : f < 12 := by omega
    have hA : gA_code σ (f : Int) k = _ := if_pos hin
    refine gKi_mono (c_X9_code hf (hc.1 f hf) (hp.1 f hf) (k := k) ⟨by omega, hk.2⟩ (by omega)) (fun e μ h => ?_)
    obtain ⟨I1, J1, rfl, hI, hJ, rfl⟩ := h
    exact ⟨I1, J1, rfl, gCs_fr hc (fun p q z => congrFun (hI p (by unfold gSee at z; omega) (by unfold gSee at z; omega) (by unfold gSee at z; omega) (by unfold gSee at z; omega)) q) (fun p z => hJ p (by omega) (by omega)), fun p z => ⟨hI p (by omega) (by omega) (by omega) (by omega), hJ p (by omega) (by omega)⟩, (gcv_C hc.2.1).trans hA.symm⟩
  · have hA : gA_code σ i k = _ := if_neg hin
    refine gKi_mono (c_X9_code_out hi hk hin (by omega)) (fun e μ h => ?_)
    obtain ⟨rfl, rfl⟩ := h
    exact ⟨I, J, rfl, hc, gHi_rf, hA.symm⟩
theorem s10_code {l : Launch} {Γ : gC} {ad : Nat → Nat} {I : Nat → Nat → Int} {J : Nat → Nat → Int64} {σ : gSgm} {i k : Int} (hi : gRng i) (hk : gRng k) (hp : gPs σ) (hc : gMs σ I J) : gKi l Γ gm_X10_code 900 [.ref (gad (gSS ad) 145), .int (iv i), .int (iv k)] (gSS ad, I, J) (gPb ad σ I J (gA_code σ i k)) := by
  by_cases hin : 0 ≤ i ∧ i ≤ 11 ∧ -3 ≤ k
  · obtain ⟨f, rfl⟩ : ∃ f : Nat, i = (f : Int) := ⟨i.toNat, by omega⟩
    have hf : f < 12 := by omega
    have hA : gA_code σ (f : Int) k = _ := if_pos hin
    refine gKi_mono (c_X10_code hf (hc.1 f hf) (hp.1 f hf) (k := k) ⟨by omega, hk.2⟩ (by have := (hp.1 f hf).1; omega)) (fun e μ h => ?_)
    obtain ⟨I1, J1, rfl, hI, hI2, hJ, rfl⟩ := h
    exact ⟨I1, J1, rfl, gMs_fr hc (fun p q z => by
      by_cases c : p = 145
      · subst c
        exact hI2 q (by unfold gSeM at z; omega) (by unfold gSeM at z; omega) (by unfold gSeM at z; omega)
      · exact congrFun (hI p c (by unfold gSeM at z; omega)) q) (fun p z => hJ p (by omega) (by omega)), fun p z => ⟨hI p (by omega) (by omega), hJ p (by omega) (by omega)⟩, (gcv_C hc.2.1).trans hA.symm⟩
  · have hA : gA_code σ i k = _ := if_neg hin
    refine gKi_mono (c_X10_code_out hi hk hin (by omega)) (fun e μ h => ?_)
    obtain ⟨rfl, rfl⟩ := h
    exact ⟨I, J, rfl, hc, gLo_rf, hA.symm⟩
noncomputable def gA_alike (σ : gSgm) (i k w : Int) : Int := if 0 ≤ i ∧ i ≤ 11 ∧ 0 ≤ k ∧ k ≤ 11 ∧ 0 ≤ w ∧ w ≤ 2 then Classical.epsilon (gAk (σ.1 i.toNat).1 (σ.1 k.toNat).1 (σ.1 i.toNat).2.1 (σ.1 i.toNat).2.2.1 (σ.1 i.toNat).2.2.2 (σ.1 k.toNat).2.1 (σ.1 k.toNat).2.2.1 (σ.1 k.toNat).2.2.2 w.toNat) else -2
theorem s9_alike {l : Launch} {Γ : gC} {ad : Nat → Nat} {I : Nat → Nat → Int} {J : Nat → Nat → Int64} {σ : gSgm} {i k w : Int} (hi : gRng i) (hk : gRng k) (hw : gRng w) (hp : gPs σ) (hc : gCs σ I J) : gKi l Γ gm_X9_alike 900 [.ref (gad (gSS ad) 0), .int (iv i), .int (iv k), .int (iv w)] (gSS ad, I, J) (gPa ad σ I J (gA_alike σ i k w)) := by
  by_cases hin : 0 ≤ i ∧ i ≤ 11 ∧ 0 ≤ k ∧ k ≤ 11 ∧ 0 ≤ w ∧ w ≤ 2
  · obtain ⟨f, rfl⟩ : ∃ f : Nat, i = (f : Int) := ⟨i.toNat, by omega⟩
    obtain ⟨g, rfl⟩ : ∃ g : Nat, k = (g : Int) := ⟨k.toNat, by omega⟩
    obtain ⟨w0, rfl⟩ : ∃ w0 : Nat, w = (w0 : Int) := ⟨w.toNat, by omega⟩
    have hf : f < 12 := by omega
    have hg : g < 12 := by omega
    have hA : gA_alike σ (f : Int) (g : Int) (w0 : Int) = _ := if_pos hin
    refine gKi_mono (c_X9_alike hf (hc.1 f hf) (hp.1 f hf) hg (hc.1 g hg) (hp.1 g hg) (w := w0) (by omega) (by omega)) (fun e μ h => ?_)
    obtain ⟨rfl, h⟩ := h
    exact ⟨I, J, rfl, hc, gHi_rf, (gEps h (fun a b => gAk_uni)).trans hA.symm⟩
  · have hA : gA_alike σ i k w = _ := if_neg hin
    refine gKi_mono (c_X9_alike_out hi hk hw hin (by omega)) (fun e μ h => ?_)
    obtain ⟨rfl, rfl⟩ := h
    exact ⟨I, J, rfl, hc, gHi_rf, hA.symm⟩
theorem s10_alike {l : Launch} {Γ : gC} {ad : Nat → Nat} {I : Nat → Nat → Int} {J : Nat → Nat → Int64} {σ : gSgm} {i k w : Int} (hi : gRng i) (hk : gRng k) (hw : gRng w) (hp : gPs σ) (hc : gMs σ I J) : gKi l Γ gm_X10_alike 900 [.ref (gad (gSS ad) 145), .int (iv i), .int (iv k), .int (iv w)] (gSS ad, I, J) (gPb ad σ I J (gA_alike σ i k w)) := by
  by_cases hin : 0 ≤ i ∧ i ≤ 11 ∧ 0 ≤ k ∧ k ≤ 11 ∧ 0 ≤ w ∧ w ≤ 2
  · obtain ⟨f, rfl⟩ : ∃ f : Nat, i = (f : Int) := ⟨i.toNat, by omega⟩
    obtain ⟨g, rfl⟩ : ∃ g : Nat, k = (g : Int) := ⟨k.toNat, by omega⟩
    obtain ⟨w0, rfl⟩ : ∃ w0 : Nat, w = (w0 : Int) := ⟨w.toNat, by omega⟩
    have hf : f < 12 := by omega
    have hg : g < 12 := by omega
    have hA : gA_alike σ (f : Int) (g : Int) (w0 : Int) = _ := if_pos hin
    refine gKi_mono (c_X10_alike hf (hc.1 f hf) (hp.1 f hf) hg (hc.1 g hg) (hp.1 g hg) (w := w0) (by omega) (by omega)) (fun e μ h => ?_)
    obtain ⟨rfl, h⟩ := h
    exact ⟨I, J, rfl, hc, gLo_rf, (gEps h (fun a b => gAk_uni)).trans hA.symm⟩
  · have hA : gA_alike σ i k w = _ := if_neg hin
    refine gKi_mono (c_X10_alike_out hi hk hw hin (by omega)) (fun e μ h => ?_)
    obtain ⟨rfl, rfl⟩ := h
    exact ⟨I, J, rfl, hc, gLo_rf, hA.symm⟩
noncomputable def gA_drawn (σ : gSgm) (i z : Int) : Int64 := if 0 ≤ i ∧ i ≤ 11 then if (σ.1 i.toNat).1 = 0 then -1000003 else gWo (σ.1 i.toNat).1 (σ.1 i.toNat).2.1 (σ.1 i.toNat).2.2.1 (σ.1 i.toNat).2.2.2 (gdr z) else -1000002
theorem s9_drawn {l : Launch} {Γ : gC} {ad : Nat → Nat} {I : Nat → Nat → Int} {J : Nat → Nat → Int64} {σ : gSgm} {i z : Int} (hi : gRng i) (hz : gRng z) (hp : gPs σ) (hc : gCs σ I J) : gKl l Γ gm_X9_drawn 900 [.ref (gad (gSS ad) 0), .int (iv i), .int (iv z)] (gSS ad, I, J) (gPal ad σ I J (gA_drawn σ i z)) := by
  by_cases hin : 0 ≤ i ∧ i ≤ 11
  · obtain ⟨f, rfl⟩ : ∃ f : Nat, i = (f : Int) := ⟨i.toNat, by omega⟩
    have hf : f < 12 := by omega
    have hA : gA_drawn σ (f : Int) z = _ := if_pos hin
    refine gKl_mono (c_X9_drawn hf (hc.1 f hf) (hp.1 f hf) (z := z) (by omega)) (fun e μ h => ?_)
    obtain ⟨I1, J1, rfl, hI, hJ, rfl⟩ := h
    exact ⟨I1, J1, rfl, gCs_fr hc (fun p q z => congrFun (hI p (by unfold gSee at z; omega)) q) (fun p z => hJ p (by omega)), fun p z => ⟨hI p (by omega), hJ p (by omega)⟩, (rfl : _ = _).trans hA.symm⟩
  · have hA : gA_drawn σ i z = _ := if_neg hin
    refine gKl_mono (c_X9_drawn_out hi hin (by omega)) (fun e μ h => ?_)
    obtain ⟨rfl, rfl⟩ := h
    exact ⟨I, J, rfl, hc, gHi_rf, hA.symm⟩
theorem s10_drawn {l : Launch} {Γ : gC} {ad : Nat → Nat} {I : Nat → Nat → Int} {J : Nat → Nat → Int64} {σ : gSgm} {i z : Int} (hi : gRng i) (hz : gRng z) (hp : gPs σ) (hc : gMs σ I J) : gKl l Γ gm_X10_drawn 900 [.ref (gad (gSS ad) 145), .int (iv i), .int (iv z)] (gSS ad, I, J) (gPbl ad σ I J (gA_drawn σ i z)) := by
  by_cases hin : 0 ≤ i ∧ i ≤ 11
  · obtain ⟨f, rfl⟩ : ∃ f : Nat, i = (f : Int) := ⟨i.toNat, by omega⟩
    have hf : f < 12 := by omega
    have hA : gA_drawn σ (f : Int) z = _ := if_pos hin
    refine gKl_mono (c_X10_drawn hf (hc.1 f hf) (hp.1 f hf) (z := z) (by have := (hp.1 f hf).1; omega)) (fun e μ h => ?_)
    obtain ⟨I1, rfl, hI, hI2, rfl⟩ := h
    exact ⟨I1, J, rfl, gMs_fr hc (fun p q z => by
      by_cases c : p = 186
      · subst c
        exact hI2 q (by unfold gSeM at z; omega)
      · exact congrFun (hI p c (by unfold gSeM at z; omega) (by unfold gSeM at z; omega)) q) (fun _ _ => rfl), fun p z => ⟨hI p (by omega) (by omega) (by omega), rfl⟩, hA.symm⟩
  · have hA : gA_drawn σ i z = _ := if_neg hin
    refine gKl_mono (c_X10_drawn_out hi hin (by omega)) (fun e μ h => ?_)
    obtain ⟨rfl, rfl⟩ := h
    exact ⟨I, J, rfl, hc, gLo_rf, hA.symm⟩
noncomputable def gA_sought (σ : gSgm) (i nm low m0 w what : Int) : Int := if 0 ≤ i ∧ i ≤ 11 ∧ 0 ≤ nm ∧ nm ≤ 7 ∧ 1 ≤ m0 ∧ m0 ≤ 100 ∧ 0 ≤ what ∧ what ≤ 1 then if (σ.1 i.toNat).1 = 0 then -3 else (if what = 0 then (gCo (fun k : Nat => gWo (σ.1 i.toNat).1 (σ.1 i.toNat).2.1 (σ.1 i.toNat).2.2.1 (σ.1 i.toNat).2.2.2 (gup σ.2.1 nm.toNat (low + k)) = gi2l w) m0.toNat : Int) else if gFi (fun k : Nat => gWo (σ.1 i.toNat).1 (σ.1 i.toNat).2.1 (σ.1 i.toNat).2.2.1 (σ.1 i.toNat).2.2.2 (gup σ.2.1 nm.toNat (low + k)) = gi2l w) m0.toNat = -1 then 0 else low + gFi (fun k : Nat => gWo (σ.1 i.toNat).1 (σ.1 i.toNat).2.1 (σ.1 i.toNat).2.2.1 (σ.1 i.toNat).2.2.2 (gup σ.2.1 nm.toNat (low + k)) = gi2l w) m0.toNat) else -2
theorem s9_sought {l : Launch} {Γ : gC} {ad : Nat → Nat} {I : Nat → Nat → Int} {J : Nat → Nat → Int64} {σ : gSgm} {i nm low m0 w what : Int} (hi : gRng i) (hnm : gRng nm) (hlow : gRng low) (hm0 : gRng m0) (hw : gRng w) (hwhat : gRng what) (hp : gPs σ) (hc : gCs σ I J) : gKi l Γ gm_X9_sought 900 [.ref (gad (gSS ad) 0), .int (iv i), .int (iv nm), .int (iv low), .int (iv m0), .int (iv w), .int (iv what)] (gSS ad, I, J) (gPa ad σ I J (gA_sought σ i nm low m0 w what)) := by
  by_cases hin : 0 ≤ i ∧ i ≤ 11 ∧ 0 ≤ nm ∧ nm ≤ 7 ∧ 1 ≤ m0 ∧ m0 ≤ 100 ∧ 0 ≤ what ∧ what ≤ 1
  · obtain ⟨f, rfl⟩ : ∃ f : Nat, i = (f : Int) := ⟨i.toNat, by omega⟩
    obtain ⟨n0, rfl⟩ : ∃ n0 : Nat, nm = (n0 : Int) := ⟨nm.toNat, by omega⟩
    obtain ⟨m1, rfl⟩ : ∃ m1 : Nat, m0 = (m1 : Int) := ⟨m0.toNat, by omega⟩
    have hf : f < 12 := by omega
    have hA : gA_sought σ (f : Int) (n0 : Int) low (m1 : Int) w what = _ := if_pos hin
    refine gKi_mono (c_X9_sought hf (hc.1 f hf) (hp.1 f hf) (nm := n0) (m0 := m1) (low := low) (w := w) (what := what) (by omega) (by omega) (by omega) (by omega) (by omega)) (fun e μ h => ?_)
    rcases h with ⟨h0, rfl, rfl⟩ | ⟨hn0, I1, J1, rfl, hI, hJ, rfl⟩
    · exact ⟨I, J, rfl, hc, gHi_rf, (if_pos h0).symm.trans hA.symm⟩
    · refine ⟨I1, J1, rfl, gCs_fr hc (fun p q z => congrFun (hI p (by unfold gSee at z; omega)) q) (fun p z => hJ p (by omega)), fun p z => ⟨hI p (by omega), hJ p (by omega)⟩, by
      rw [show (fun k : Nat => gWo (σ.1 f).1 (σ.1 f).2.1 (σ.1 f).2.2.1 (σ.1 f).2.2.2 (gup (I 3) n0 (low + k)) = gi2l w) = _ from gcv_S (hp.1 f hf) hc.2.1 hn0]
      exact (if_neg (by show ¬ (σ.1 f).1 = 0; omega)).symm.trans hA.symm⟩
  · have hA : gA_sought σ i nm low m0 w what = _ := if_neg hin
    refine gKi_mono (c_X9_sought_out hi hnm hm0 hwhat hin (by omega)) (fun e μ h => ?_)
    obtain ⟨rfl, rfl⟩ := h
    exact ⟨I, J, rfl, hc, gHi_rf, hA.symm⟩
theorem s10_sought {l : Launch} {Γ : gC} {ad : Nat → Nat} {I : Nat → Nat → Int} {J : Nat → Nat → Int64} {σ : gSgm} {i nm low m0 w what : Int} (hi : gRng i) (hnm : gRng nm) (hlow : gRng low) (hm0 : gRng m0) (hw : gRng w) (hwhat : gRng what) (hp : gPs σ) (hc : gMs σ I J) : gKi l Γ gm_X10_sought 900 [.ref (gad (gSS ad) 145), .int (iv i), .int (iv nm), .int (iv low), .int (iv m0), .int (iv w), .int (iv what)] (gSS ad, I, J) (gPb ad σ I J (gA_sought σ i nm low m0 w what)) := by
  by_cases hin : 0 ≤ i ∧ i ≤ 11 ∧ 0 ≤ nm ∧ nm ≤ 7 ∧ 1 ≤ m0 ∧ m0 ≤ 100 ∧ 0 ≤ what ∧ what ≤ 1
  · obtain ⟨f, rfl⟩ : ∃ f : Nat, i = (f : Int) := ⟨i.toNat, by omega⟩
    obtain ⟨n0, rfl⟩ : ∃ n0 : Nat, nm = (n0 : Int) := ⟨nm.toNat, by omega⟩
    obtain ⟨m1, rfl⟩ : ∃ m1 : Nat, m0 = (m1 : Int) := ⟨m0.toNat, by omega⟩
    have hf : f < 12 := by omega
    have hA : gA_sought σ (f : Int) (n0 : Int) low (m1 : Int) w what = _ := if_pos hin
    refine gKi_mono (c_X10_sought hf (hc.1 f hf) (hp.1 f hf) (nm := n0) (m0 := m1) (low := low) (w := w) (what := what) (by omega) (by omega) (by omega) (by omega) (by have := (hp.1 f hf).1; omega)) (fun e μ h => ?_)
    rcases h with ⟨h0, rfl, rfl⟩ | ⟨hn0, I1, rfl, hI, hI2, rfl⟩
    · exact ⟨I, J, rfl, hc, gLo_rf, (if_pos h0).symm.trans hA.symm⟩
    · refine ⟨I1, J, rfl, gMs_fr hc (fun p q z => by
        by_cases c : p = 186
        · subst c
          exact hI2 q (by unfold gSeM at z; omega)
        · exact congrFun (hI p c (by unfold gSeM at z; omega) (by unfold gSeM at z; omega)) q) (fun _ _ => rfl), fun p z => ⟨hI p (by omega) (by omega) (by omega), rfl⟩, by
      rw [show (fun k : Nat => gWo (σ.1 f).1 (σ.1 f).2.1 (σ.1 f).2.2.1 (σ.1 f).2.2.2 (gup (I 186) n0 (low + k)) = gi2l w) = _ from gcv_S (hp.1 f hf) hc.2.1 hn0]
      exact (if_neg (by show ¬ (σ.1 f).1 = 0; omega)).symm.trans hA.symm⟩
  · have hA : gA_sought σ i nm low m0 w what = _ := if_neg hin
    refine gKi_mono (c_X10_sought_out hi hnm hm0 hwhat hin (by omega)) (fun e μ h => ?_)
    obtain ⟨rfl, rfl⟩ := h
    exact ⟨I, J, rfl, hc, gLo_rf, hA.symm⟩
noncomputable def gA_chance (σ : gSgm) (i z m0 w pt : Int) : Int := if 0 ≤ i ∧ i ≤ 11 ∧ 1 ≤ m0 ∧ m0 ≤ 20 ∧ 0 ≤ pt ∧ pt ≤ 1 then if (σ.1 i.toNat).1 = 0 then -3 else (if pt = 0 then (((gCo (fun k : Nat => gWo (σ.1 i.toNat).1 (σ.1 i.toNat).2.1 (σ.1 i.toNat).2.2.1 (σ.1 i.toNat).2.2.2 (gdr (z + (k : Int))) ≤ gi2l w) m0.toNat) / Nat.gcd (gCo (fun k : Nat => gWo (σ.1 i.toNat).1 (σ.1 i.toNat).2.1 (σ.1 i.toNat).2.2.1 (σ.1 i.toNat).2.2.2 (gdr (z + (k : Int))) ≤ gi2l w) m0.toNat) m0.toNat : Nat) : Int) else ((m0.toNat / Nat.gcd (gCo (fun k : Nat => gWo (σ.1 i.toNat).1 (σ.1 i.toNat).2.1 (σ.1 i.toNat).2.2.1 (σ.1 i.toNat).2.2.2 (gdr (z + (k : Int))) ≤ gi2l w) m0.toNat) m0.toNat : Nat) : Int)) else -2
theorem s9_chance {l : Launch} {Γ : gC} {ad : Nat → Nat} {I : Nat → Nat → Int} {J : Nat → Nat → Int64} {σ : gSgm} {i z m0 w pt : Int} (hi : gRng i) (hz : gRng z) (hm0 : gRng m0) (hw : gRng w) (hpt : gRng pt) (hp : gPs σ) (hc : gCs σ I J) : gKi l Γ gm_X9_chance 900 [.ref (gad (gSS ad) 0), .int (iv i), .int (iv z), .int (iv m0), .int (iv w), .int (iv pt)] (gSS ad, I, J) (gPa ad σ I J (gA_chance σ i z m0 w pt)) := by
  by_cases hin : 0 ≤ i ∧ i ≤ 11 ∧ 1 ≤ m0 ∧ m0 ≤ 20 ∧ 0 ≤ pt ∧ pt ≤ 1
  · obtain ⟨f, rfl⟩ : ∃ f : Nat, i = (f : Int) := ⟨i.toNat, by omega⟩
    obtain ⟨m1, rfl⟩ : ∃ m1 : Nat, m0 = (m1 : Int) := ⟨m0.toNat, by omega⟩
    have hf : f < 12 := by omega
    have hA : gA_chance σ (f : Int) z (m1 : Int) w pt = _ := if_pos hin
    refine gKi_mono (c_X9_chance hf (hc.1 f hf) (hp.1 f hf) (m0 := m1) (z := z) (w := w) (pt := pt) (by omega) (by omega) (by omega) (by omega)) (fun e μ h => ?_)
    rcases h with ⟨h0, rfl, rfl⟩ | ⟨hn0, I1, J1, rfl, hI, hJ, rfl⟩
    · exact ⟨I, J, rfl, hc, gHi_rf, (if_pos h0).symm.trans hA.symm⟩
    · exact ⟨I1, J1, rfl, gCs_fr hc (fun p q z => congrFun (hI p (by unfold gSee at z; omega)) q) (fun p z => hJ p (by omega)), fun p z => ⟨hI p (by omega), hJ p (by omega)⟩, (if_neg (by show ¬ (σ.1 f).1 = 0; omega)).symm.trans hA.symm⟩
  · have hA : gA_chance σ i z m0 w pt = _ := if_neg hin
    refine gKi_mono (c_X9_chance_out hi hm0 hpt hin (by omega)) (fun e μ h => ?_)
    obtain ⟨rfl, rfl⟩ := h
    exact ⟨I, J, rfl, hc, gHi_rf, hA.symm⟩
theorem s10_chance {l : Launch} {Γ : gC} {ad : Nat → Nat} {I : Nat → Nat → Int} {J : Nat → Nat → Int64} {σ : gSgm} {i z m0 w pt : Int} (hi : gRng i) (hz : gRng z) (hm0 : gRng m0) (hw : gRng w) (hpt : gRng pt) (hp : gPs σ) (hc : gMs σ I J) : gKi l Γ gm_X10_chance 900 [.ref (gad (gSS ad) 145), .int (iv i), .int (iv z), .int (iv m0), .int (iv w), .int (iv pt)] (gSS ad, I, J) (gPb ad σ I J (gA_chance σ i z m0 w pt)) := by
  by_cases hin : 0 ≤ i ∧ i ≤ 11 ∧ 1 ≤ m0 ∧ m0 ≤ 20 ∧ 0 ≤ pt ∧ pt ≤ 1
  · obtain ⟨f, rfl⟩ : ∃ f : Nat, i = (f : Int) := ⟨i.toNat, by omega⟩
    obtain ⟨m1, rfl⟩ : ∃ m1 : Nat, m0 = (m1 : Int) := ⟨m0.toNat, by omega⟩
    have hf : f < 12 := by omega
    have hA : gA_chance σ (f : Int) z (m1 : Int) w pt = _ := if_pos hin
    refine gKi_mono (c_X10_chance hf (hc.1 f hf) (hp.1 f hf) (m0 := m1) (z := z) (w := w) (pt := pt) (by omega) (by omega) (by omega) (by have := (hp.1 f hf).1; omega)) (fun e μ h => ?_)
    rcases h with ⟨h0, rfl, rfl⟩ | ⟨hn0, I1, rfl, hI, hI2, rfl⟩
    · exact ⟨I, J, rfl, hc, gLo_rf, (if_pos h0).symm.trans hA.symm⟩
    · exact ⟨I1, J, rfl, gMs_fr hc (fun p q z => by
        by_cases c : p = 186
        · subst c
          exact hI2 q (by unfold gSeM at z; omega)
        · exact congrFun (hI p c (by unfold gSeM at z; omega) (by unfold gSeM at z; omega)) q) (fun _ _ => rfl), fun p z => ⟨hI p (by omega) (by omega) (by omega), rfl⟩, (if_neg (by show ¬ (σ.1 f).1 = 0; omega)).symm.trans hA.symm⟩
  · have hA : gA_chance σ i z m0 w pt = _ := if_neg hin
    refine gKi_mono (c_X10_chance_out hi hm0 hpt hin (by omega)) (fun e μ h => ?_)
    obtain ⟨rfl, rfl⟩ := h
    exact ⟨I, J, rfl, hc, gLo_rf, hA.symm⟩
noncomputable def gPn (σ : gSgm) (f : Nat) (wh : Int) : Int := if wh < 10 then 0 else Classical.epsilon (gPno (σ.1 f).2.1 (σ.1 f).1 (if wh < 100 then wh - 10 else wh - 100))
theorem gPn_is {σ : gSgm} {f : Nat} {wh pl : Int} (h1 : wh < 10 → pl = 0) (h2 : 10 ≤ wh → gPno (σ.1 f).2.1 (σ.1 f).1 (if wh < 100 then wh - 10 else wh - 100) pl) : pl = gPn σ f wh := by
  unfold gPn
  by_cases c : wh < 10
  · rw [if_pos c]
    exact h1 c
  · rw [if_neg c]
    exact gEps (h2 (by omega)) (fun a b => gPno_uni)
noncomputable def gA_tells (σ : gSgm) (s0 i nm wh : Int) : Int := if 0 ≤ s0 ∧ s0 ≤ 3 ∧ 0 ≤ i ∧ i ≤ 11 ∧ 0 ≤ nm ∧ nm ≤ 7 ∧ ((0 ≤ wh ∧ wh ≤ 2) ∨ (10 ≤ wh ∧ wh ≤ 50) ∨ (100 ≤ wh ∧ wh ≤ 140)) then gTs (fun f => (σ.1 f).1) (fun f => (σ.1 f).2.1) (fun f => (σ.1 f).2.2.1) (fun f => (σ.1 f).2.2.2) i.toNat nm.toNat wh (gPn σ i.toNat wh) (σ.2.2.2.2.1 s0.toNat) (σ.2.2.2.2.2.1 s0.toNat) σ.2.1 (σ.2.2.2.2.2.2 s0.toNat) else -2
theorem s9_tells {l : Launch} {Γ : gC} {ad : Nat → Nat} {I : Nat → Nat → Int} {J : Nat → Nat → Int64} {σ : gSgm} {s0 i nm wh : Int} (hs0 : gRng s0) (hi : gRng i) (hnm : gRng nm) (hwh : gRng wh) (hp : gPs σ) (hc : gCs σ I J) : gKi l Γ gm_X9_tells 900 [.ref (gad (gSS ad) 0), .int (iv s0), .int (iv i), .int (iv nm), .int (iv wh)] (gSS ad, I, J) (gPa ad σ I J (gA_tells σ s0 i nm wh)) := by
  by_cases hin : 0 ≤ s0 ∧ s0 ≤ 3 ∧ 0 ≤ i ∧ i ≤ 11 ∧ 0 ≤ nm ∧ nm ≤ 7 ∧ ((0 ≤ wh ∧ wh ≤ 2) ∨ (10 ≤ wh ∧ wh ≤ 50) ∨ (100 ≤ wh ∧ wh ≤ 140))
  · obtain ⟨s, rfl⟩ : ∃ s : Nat, s0 = (s : Int) := ⟨s0.toNat, by omega⟩
    obtain ⟨f, rfl⟩ : ∃ f : Nat, i = (f : Int) := ⟨i.toNat, by omega⟩
    obtain ⟨n0, rfl⟩ : ∃ n0 : Nat, nm = (n0 : Int) := ⟨nm.toNat, by omega⟩
    have hf : f < 12 := by omega
    have hs : s < 4 := by omega
    have hA : gA_tells σ (s : Int) (f : Int) (n0 : Int) wh = _ := if_pos hin
    refine gKi_mono (c_X9_tells (nf := fun f => (σ.1 f).1) (Kf := fun f => (σ.1 f).2.1) (Nf := fun f => (σ.1 f).2.2.1) (Zf := fun f => (σ.1 f).2.2.2) hc.1 hp.1 (s := s) (f := f) (nm := n0) hs hf (by omega) (hc.2.2.2.2 s hs).1 (hc.2.2.2.2 s hs).2.1 (hp.2.2.2 s hs).1 (hp.2.2.2 s hs).2.1 (fun j hj => by rw [(hc.2.2.2.2 s hs).2.2 j hj]; exact (hp.2.2.2 s hs).2.2 j hj) rfl rfl (wh := wh) (by omega) (by omega)) (fun e μ h => ?_)
    obtain ⟨pl, h1, h2, I1, J1, rfl, hI, hJ, rfl⟩ := h
    have hpl := gPn_is h1 h2
    refine ⟨I1, J1, rfl, gCs_fr hc (fun p q z => congrFun (hI p (by unfold gSee at z; omega) (by unfold gSee at z; omega) (by unfold gSee at z; omega) (by unfold gSee at z; omega)) q) (fun p z => hJ p (by omega) (by omega)), fun p z => ⟨hI p (by omega) (by omega) (by omega) (by omega), hJ p (by omega) (by omega)⟩, Eq.trans ?_ hA.symm⟩
    rw [← show pl = gPn σ (f : Int).toNat wh from hpl]
    exact gTs_congr hf hp.1 (fun z => (gPno_rng (h2 z)).2.2) hc.2.1 (hc.2.2.2.2 s hs).2.2 (by omega)
  · have hA : gA_tells σ s0 i nm wh = _ := if_neg hin
    refine gKi_mono (c_X9_tells_out hs0 hi hnm hwh hin (by omega)) (fun e μ h => ?_)
    obtain ⟨rfl, rfl⟩ := h
    exact ⟨I, J, rfl, hc, gHi_rf, hA.symm⟩
theorem s10_tells {l : Launch} {Γ : gC} {ad : Nat → Nat} {I : Nat → Nat → Int} {J : Nat → Nat → Int64} {σ : gSgm} {s0 i nm wh : Int} (hs0 : gRng s0) (hi : gRng i) (hnm : gRng nm) (hwh : gRng wh) (hp : gPs σ) (hc : gMs σ I J) : gKi l Γ gm_X10_tells 900 [.ref (gad (gSS ad) 145), .int (iv s0), .int (iv i), .int (iv nm), .int (iv wh)] (gSS ad, I, J) (gPb ad σ I J (gA_tells σ s0 i nm wh)) := by
  by_cases hin : 0 ≤ s0 ∧ s0 ≤ 3 ∧ 0 ≤ i ∧ i ≤ 11 ∧ 0 ≤ nm ∧ nm ≤ 7 ∧ ((0 ≤ wh ∧ wh ≤ 2) ∨ (10 ≤ wh ∧ wh ≤ 50) ∨ (100 ≤ wh ∧ wh ≤ 140))
  · obtain ⟨s, rfl⟩ : ∃ s : Nat, s0 = (s : Int) := ⟨s0.toNat, by omega⟩
    obtain ⟨f, rfl⟩ : ∃ f : Nat, i = (f : Int) := ⟨i.toNat, by omega⟩
    obtain ⟨n0, rfl⟩ : ∃ n0 : Nat, nm = (n0 : Int) := ⟨nm.toNat, by omega⟩
    have hf : f < 12 := by omega
    have hs : s < 4 := by omega
    have hA : gA_tells σ (s : Int) (f : Int) (n0 : Int) wh = _ := if_pos hin
    refine gKi_mono (c_X10_tells (nf := fun f => (σ.1 f).1) (Kf := fun f => (σ.1 f).2.1) (Nf := fun f => (σ.1 f).2.2.1) (Zf := fun f => (σ.1 f).2.2.2) hc.1 hp.1 (s := s) (f := f) (nm := n0) hs hf (by omega) (hc.2.2.2.2 s hs).1 (hc.2.2.2.2 s hs).2.1 (hp.2.2.2 s hs).1 (hp.2.2.2 s hs).2.1 (fun j hj => by rw [(hc.2.2.2.2 s hs).2.2 j hj]; exact (hp.2.2.2 s hs).2.2 j hj) rfl rfl (wh := wh) (by omega) (by omega)) (fun e μ h => ?_)
    obtain ⟨pl, h1, h2, I1, J1, rfl, hI, hJ, rfl⟩ := h
    have hpl := gPn_is h1 h2
    refine ⟨I1, J1, rfl, gMs_fr hc (fun p q z => congrFun (hI p (by unfold gSeM at z; omega)) q) (fun p z => hJ p), fun p z => ⟨hI p (by omega), hJ p⟩, Eq.trans ?_ hA.symm⟩
    rw [← show pl = gPn σ (f : Int).toNat wh from hpl]
    exact gTs_congr hf hp.1 (fun z => (gPno_rng (h2 z)).2.2) hc.2.1 (hc.2.2.2.2 s hs).2.2 (by omega)
  · have hA : gA_tells σ s0 i nm wh = _ := if_neg hin
    refine gKi_mono (c_X10_tells_out hs0 hi hnm hwh hin (by omega)) (fun e μ h => ?_)
    obtain ⟨rfl, rfl⟩ := h
    exact ⟨I, J, rfl, hc, gLo_rf, hA.symm⟩
def gA_count (σ : gSgm) (w : Int) : Int := if w = 0 then (gNE (fun f => (σ.1 f).1) 12 : Int) else if w = 1 then (σ.2.2.1.2 : Int) else if w = 2 then (gNS (fun f => (σ.1 f).1) 12 : Int) else if 10 ≤ w ∧ w ≤ 17 then σ.2.1 (w - 10).toNat else -2
theorem gcv_N {σ : gSgm} {w : Int} {V : Nat → Int} (hv : ∀ q, q < 8 → V q = σ.2.1 q) : (if w = 0 then (gNE (fun f => (σ.1 f).1) 12 : Int) else if w = 1 then (σ.2.2.1.2 : Int) else if w = 2 then (gNS (fun f => (σ.1 f).1) 12 : Int) else if 10 ≤ w ∧ w ≤ 17 then V (w - 10).toNat else -2) = gA_count σ w := by
  unfold gA_count
  by_cases c : 10 ≤ w ∧ w ≤ 17
  · rw [if_pos c, if_pos c, hv _ (by omega)]
  · rw [if_neg c, if_neg c]
theorem s9_count {l : Launch} {Γ : gC} {ad : Nat → Nat} {I : Nat → Nat → Int} {J : Nat → Nat → Int64} {σ : gSgm} {w : Int} (hw : gRng w) (hp : gPs σ) (hc : gCs σ I J) : gKi l Γ gm_X9_count 900 [.ref (gad (gSS ad) 0), .int (iv w)] (gSS ad, I, J) (gPa ad σ I J (gA_count σ w)) := by
  refine gKi_mono (c_X9_count (nf := fun f => (σ.1 f).1) (fun f hf => ⟨(hc.1 f hf).1, (hp.1 f hf).1⟩) hw hc.2.2.1.2.1 (by omega)) (fun e μ h => ?_)
  obtain ⟨rfl, rfl⟩ := h
  exact ⟨I, J, rfl, hc, gHi_rf, gcv_N hc.2.1⟩
theorem s10_count {l : Launch} {Γ : gC} {ad : Nat → Nat} {I : Nat → Nat → Int} {J : Nat → Nat → Int64} {σ : gSgm} {w : Int} (hw : gRng w) (hp : gPs σ) (hc : gMs σ I J) : gKi l Γ gm_X10_count 900 [.ref (gad (gSS ad) 145), .int (iv w)] (gSS ad, I, J) (gPb ad σ I J (gA_count σ w)) := by
  refine gKi_mono (c_X10_count (nf := fun f => (σ.1 f).1) (fun f hf => ⟨(hc.1 f hf).1, (hp.1 f hf).1⟩) hw hc.2.2.1.2.1 (by omega)) (fun e μ h => ?_)
  obtain ⟨rfl, rfl⟩ := h
  exact ⟨I, J, rfl, hc, gLo_rf, gcv_N hc.2.1⟩
