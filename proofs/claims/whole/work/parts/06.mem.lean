/-! the heap's instructions over gG -/
def gFit (ty : FieldType) (a : Int) : Prop := narrow ty (.int (iv a)) = .int (iv a) ∧ fits ty (.int (iv a)) = true
theorem gfit_i (a : Int) : gFit .int a := ⟨vp_nar_int _, rfl⟩
theorem gfit_0 : gFit .boolean 0 := by unfold gFit; decide
theorem gfit_1 : gFit .boolean 1 := by unfold gFit; decide
theorem gObj_at {S : gS} {ci n j : Nat} {r : Nat → Option Nat} {f : Nat → Int} (hj : j < n) : (gObj S ci n r f)[j]? = some (if gRef ci j = true then va_rf ((r j).map (gad S)) else .int (iv (f j))) := by simp [gObj, hj]
theorem gObj_set {S : gS} {ci n j : Nat} {r : Nat → Option Nat} {f : Nat → Int} {a : Int} (hr : gRef ci j = false) : (gObj S ci n r f).set j (.int (iv a)) = gObj S ci n r (fun b => if b = j then a else f b) := by
  apply List.ext_getElem?
  intro i
  rw [List.getElem?_set]
  by_cases h : j = i
  · subst h
    by_cases hj : j < n
    · rw [gObj_at hj]
      simp [gObj, hj, hr]
    · simp [gObj, hj]
  · rw [if_neg h]
    by_cases hi : i < n
    · rw [gObj_at hi, gObj_at hi]
      simp [Ne.symm h]
    · simp [gObj, hi]
section GM
variable {l : Launch} {Γ : gC} {mt : gY} {B : gB} {pc : Nat} {ls : List (Nat × Value)} {st : List Value} {S : gS} {I : Nat → Nat → Int} {J : Nat → Nat → Int64} {Q : Option Value → gM → Prop} {a b : Int} {x : Int64} {i : Int} {j n k k' ci idx : Nat} {own : String}
theorem gg_getI (ho : mt.1.cls = own) (f : gFL own idx ci j) (d : decode mt.2.1 pc = .ok (.getfield idx, 3)) (hs : S.2.1 k = (ci, n)) (hk : k < S.1) (hr : gRef ci j = false) (hn : j < n) (kk : gG l Γ mt B (pc + 3) ls (.int (iv (I k j)) :: st) (S, I, J) Q) : gG l Γ mt B pc ls (.ref (gad S k) :: st) (S, I, J) Q := fun p e R s m args below meth c Zf H locs lr X hR hW hS hl =>
  va_get (C := (gcl ci).1) (T := (gcl ci).2.1) (N := (gcl ci).2.2) (ci := ci) (v := .int (iv (I k j))) X.1 X.2.1 X.2.2.2.2.1 (gin ci f.1) (own := own) (by rw [← ho]; exact X.2.2.2.1) hW.1 hW.2.1 k ((gWl_at (μ := (S, I, J)) hk).trans (by rw [gE_obj hs (by have := f.1; omega)])) (gcl_ok ci f.1) j f.2.1 (X.2.2.2.2.1 _ f.2.2) (fun _ h => h) ((gObj_at hn).trans (by rw [hr]; rfl)) d (kk p e R s m args below meth c Zf H locs lr X hR hW hS hl)
theorem gg_getR (ho : mt.1.cls = own) (f : gFL own idx ci j) (d : decode mt.2.1 pc = .ok (.getfield idx, 3)) (hs : S.2.1 k = (ci, n)) (hk : k < S.1) (hr : gRef ci j = true) (hn : j < n) (hq : S.2.2.1 k j = some k') (kk : gG l Γ mt B (pc + 3) ls (.ref (gad S k') :: st) (S, I, J) Q) : gG l Γ mt B pc ls (.ref (gad S k) :: st) (S, I, J) Q := fun p e R s m args below meth c Zf H locs lr X hR hW hS hl =>
  va_get (C := (gcl ci).1) (T := (gcl ci).2.1) (N := (gcl ci).2.2) (ci := ci) (v := .ref (gad S k')) X.1 X.2.1 X.2.2.2.2.1 (gin ci f.1) (own := own) (by rw [← ho]; exact X.2.2.2.1) hW.1 hW.2.1 k ((gWl_at (μ := (S, I, J)) hk).trans (by rw [gE_obj hs (by have := f.1; omega)])) (gcl_ok ci f.1) j f.2.1 (X.2.2.2.2.1 _ f.2.2) (fun _ h => h) ((gObj_at hn).trans (by rw [hr, hq]; rfl)) d (kk p e R s m args below meth c Zf H locs lr X hR hW hS hl)
theorem gg_putI (ho : mt.1.cls = own) (f : gFL own idx ci j) (d : decode mt.2.1 pc = .ok (.putfield idx, 3)) (hs : S.2.1 k = (ci, n)) (hk : k < S.1) (hr : gRef ci j = false) (hn : j < n) (hfin : ((gcl ci).2.1 j).2.2.2 = false) (hf : gFit (gty ci j) a) (kk : gG l Γ mt B (pc + 3) ls st (S, gu I k j a, J) Q) : gG l Γ mt B pc ls (.int (iv a) :: .ref (gad S k) :: st) (S, I, J) Q := fun p e R s m args below meth c Zf H locs lr X hR hW hS hl =>
  va_put (C := (gcl ci).1) (T := (gcl ci).2.1) (N := (gcl ci).2.2) (ci := ci) X.1 X.2.1 X.2.2.2.2.1 (gin ci f.1) (gty ci) (gtyok ci f.1) (gnm ci f.1) (own := own) (by rw [← ho]; exact X.2.2.2.1) hW.1 hW.2.1 hW.2.2 hS k ((gWl_at (μ := (S, I, J)) hk).trans (by rw [gE_obj hs (by have := f.1; omega)])) (gcl_ok ci f.1) j f.2.1 (X.2.2.2.2.1 _ f.2.2) (fun _ h => h) hfin (gtyok ci f.1 j f.2.1) hf.1 hf.2 (by simp [gObj, hn]) d
    (fun H1 locs1 hP1 hD1 hS1 => by
      have hset : (gWl Γ (S, I, J)).set k (gad S k, .inr (ci, (gObj S ci n (S.2.2.1 k) (I k)).set j (.int (iv a)))) = gWl Γ (S, gu I k j a, J) := by
        rw [gObj_set hr]
        refine Eq.trans ?_ (gWl_set (I' := gu I k j a) (J' := J) (k := k) (fun b hb => gE_other (gu_other hb) rfl))
        rw [gE_obj hs (by have := f.1; omega)]
        congr 5
        funext b
        simp [gu]
      rw [hset] at hP1 hD1
      exact kk p e R s m args below meth c Zf H1 locs1 lr X hR ⟨hW.1, hP1, hD1⟩ hS1 hl)
theorem gTy_at {Γ : gC} {t : Nat} {ty : FieldType} (h : (gTys Γ)[t]? = some (Γ.2.2.1 t, ty)) : (gTys Γ)[t]? = some (Γ.2.2.1 t, ty) := h
theorem gg_iald (d : decode mt.2.1 pc = .ok (.iaload, 1)) (hs : S.2.1 k = (100, n)) (hk : k < S.1) (hn : n < 2147483648) (h : 0 ≤ i ∧ i < n) (kk : gG l Γ mt B (pc + 1) ls (.int (iv (I k i.toNat)) :: st) (S, I, J) Q) : gG l Γ mt B pc ls (.int (iv i) :: .ref (gad S k) :: st) (S, I, J) Q := fun p e R s m args below meth c Zf H locs lr X hR hW hS hl =>
  va_iald X.1 X.2.1 hW.1 hW.2.1 k 0 ((gWl_at (μ := (S, I, J)) hk).trans (by rw [gE_int (t := 0) hs (Or.inl rfl)])) rfl (iv_at h hn) d (by rw [iv_cl (by omega)]; exact kk p e R s m args below meth c Zf H locs lr X hR hW hS hl)
theorem gg_zald (d : decode mt.2.1 pc = .ok (.baload, 1)) (hs : S.2.1 k = (102, n)) (hk : k < S.1) (hn : n < 2147483648) (h : 0 ≤ i ∧ i < n) (kk : gG l Γ mt B (pc + 1) ls (.int (iv (I k i.toNat)) :: st) (S, I, J) Q) : gG l Γ mt B pc ls (.int (iv i) :: .ref (gad S k) :: st) (S, I, J) Q := fun p e R s m args below meth c Zf H locs lr X hR hW hS hl =>
  va_zald X.1 X.2.1 hW.1 hW.2.1 k 2 ((gWl_at (μ := (S, I, J)) hk).trans (by rw [gE_int (t := 2) hs (Or.inr (Or.inl rfl))])) rfl (iv_at h hn) d (by rw [iv_cl (by omega)]; exact kk p e R s m args below meth c Zf H locs lr X hR hW hS hl)
theorem gg_bald (d : decode mt.2.1 pc = .ok (.baload, 1)) (hs : S.2.1 k = (103, n)) (hk : k < S.1) (hn : n < 2147483648) (h : 0 ≤ i ∧ i < n) (kk : gG l Γ mt B (pc + 1) ls (.int (iv (I k i.toNat)) :: st) (S, I, J) Q) : gG l Γ mt B pc ls (.int (iv i) :: .ref (gad S k) :: st) (S, I, J) Q := fun p e R s m args below meth c Zf H locs lr X hR hW hS hl =>
  va_bald X.1 X.2.1 hW.1 hW.2.1 k 3 ((gWl_at (μ := (S, I, J)) hk).trans (by rw [gE_int (t := 3) hs (Or.inr (Or.inr rfl))])) rfl (iv_at h hn) d (by rw [iv_cl (by omega)]; exact kk p e R s m args below meth c Zf H locs lr X hR hW hS hl)
theorem gg_lald (d : decode mt.2.1 pc = .ok (.laload, 1)) (hs : S.2.1 k = (101, n)) (hk : k < S.1) (hn : n < 2147483648) (h : 0 ≤ i ∧ i < n) (kk : gG l Γ mt B (pc + 1) ls (.long (J k i.toNat) :: st) (S, I, J) Q) : gG l Γ mt B pc ls (.int (iv i) :: .ref (gad S k) :: st) (S, I, J) Q := fun p e R s m args below meth c Zf H locs lr X hR hW hS hl =>
  va_lald X.1 X.2.1 hW.1 hW.2.1 k 1 ((gWl_at (μ := (S, I, J)) hk).trans (by rw [gE_long hs])) rfl (iv_at h hn) d (by rw [iv_cl (by omega)]; exact kk p e R s m args below meth c Zf H locs lr X hR hW hS hl)
theorem gg_aald {t : Nat} (d : decode mt.2.1 pc = .ok (.aaload, 1)) (hs : S.2.1 k = (100 + t, n)) (ht : 4 ≤ t ∧ t < 8) (hk : k < S.1) (hn : n < 2147483648) (h : 0 ≤ i ∧ i < n) (hq : S.2.2.1 k i.toNat = some k') (kk : gG l Γ mt B (pc + 1) ls (.ref (gad S k') :: st) (S, I, J) Q) : gG l Γ mt B pc ls (.int (iv i) :: .ref (gad S k) :: st) (S, I, J) Q := fun p e R s m args below meth c Zf H locs lr X hR hW hS hl => by
  have hc : H[gad S k]? = some (vp_cell (Γ.2.2.1 t) (n, .inr (.inr (.inr (.inr (fun j => (S.2.2.1 k j).map (gad S))))))) := hW.2.1 k (gad S k, .inl (Γ.2.2.1 t, n, .inr (.inr (.inr (.inr (fun j => (S.2.2.1 k j).map (gad S))))))) ((gWl_at (μ := (S, I, J)) hk).trans (by rw [gE_refs hs ht.1]))
  rw [vp_cell_q] at hc
  have hlt : (iv i).toNatClampNeg < n := by rw [iv_cl (by omega)]; omega
  obtain ⟨ty, hty, hre⟩ : ∃ ty, (gTys Γ)[t]? = some (Γ.2.2.1 t, ty) ∧ ty.isReference = true := by
    obtain ⟨h4, h8⟩ := ht
    match t, h4, h8 with
    | 4, _, _ => exact ⟨_, rfl, rfl⟩
    | 5, _, _ => exact ⟨_, rfl, rfl⟩
    | 6, _, _ => exact ⟨_, rfl, rfl⟩
    | 7, _, _ => exact ⟨_, rfl, rfl⟩
  exact W.aald (v := .ref (gad S k')) (ty := ty) X.1 X.2.1 hc ((hW.1.2 t _ hty).1 n _) hre (fun q => by cases q) (by rw [arrV_size]; exact iv_at h hn) (by rw [arrV_read _ _ hlt, iv_cl (by omega), hq]; rfl) rfl rfl d (kk p e R s m args below meth c Zf H locs lr X hR hW hS hl)
theorem gg_iast (d : decode mt.2.1 pc = .ok (.iastore, 1)) (hs : S.2.1 k = (100, n)) (hk : k < S.1) (hn : n < 2147483648) (h : 0 ≤ i ∧ i < n) (kk : gG l Γ mt B (pc + 1) ls st (S, gu I k i.toNat a, J) Q) : gG l Γ mt B pc ls (.int (iv a) :: .int (iv i) :: .ref (gad S k) :: st) (S, I, J) Q := fun p e R s m args below meth c Zf H locs lr X hR hW hS hl => by
  refine va_iast X.1 X.2.1 hW.1 hW.2.1 hW.2.2 hS k 0 ((gWl_at (μ := (S, I, J)) hk).trans (by rw [gE_int (t := 0) hs (Or.inl rfl)])) rfl (iv_at h hn) d (fun H1 locs1 hP1 hD1 hS1 => ?_)
  have hset : ∀ f : Nat → Int32, f = (fun b => iv (gu I k i.toNat a k b)) → (gWl Γ (S, I, J)).set k (gad S k, .inl (Γ.2.2.1 0, n, .inl f)) = gWl Γ (S, gu I k i.toNat a, J) := by
    intro f hf
    refine Eq.trans ?_ (gWl_set (I' := gu I k i.toNat a) (J' := J) (k := k) (fun b hb => gE_other (gu_other hb) rfl))
    rw [gE_int (t := 0) hs (Or.inl rfl), hf]
  rw [hset _ (by funext b; rw [iv_cl (by omega)]; by_cases hb : b = i.toNat <;> simp [upd, gu, hb, vp_nar_int])] at hP1 hD1
  exact kk p e R s m args below meth c Zf H1 locs1 lr X hR ⟨hW.1, hP1, hD1⟩ hS1 hl
theorem gg_last (d : decode mt.2.1 pc = .ok (.lastore, 1)) (hs : S.2.1 k = (101, n)) (hk : k < S.1) (hn : n < 2147483648) (h : 0 ≤ i ∧ i < n) (kk : gG l Γ mt B (pc + 1) ls st (S, I, gv J k i.toNat x) Q) : gG l Γ mt B pc ls (.long x :: .int (iv i) :: .ref (gad S k) :: st) (S, I, J) Q := fun p e R s m args below meth c Zf H locs lr X hR hW hS hl => by
  refine va_last X.1 X.2.1 hW.1 hW.2.1 hW.2.2 hS k 1 ((gWl_at (μ := (S, I, J)) hk).trans (by rw [gE_long hs])) rfl (iv_at h hn) d (fun H1 locs1 hP1 hD1 hS1 => ?_)
  have hset : ∀ f : Nat → Int64, f = gv J k i.toNat x k → (gWl Γ (S, I, J)).set k (gad S k, .inl (Γ.2.2.1 1, n, .inr (.inl f))) = gWl Γ (S, I, gv J k i.toNat x) := by
    intro f hf
    refine Eq.trans ?_ (gWl_set (I' := I) (J' := gv J k i.toNat x) (k := k) (fun b hb => gE_other rfl (gv_other hb)))
    rw [gE_long hs, hf]
  rw [hset _ (by funext b; rw [iv_cl (by omega)]; by_cases hb : b = i.toNat <;> simp [vp_updL, gv, hb])] at hP1 hD1
  exact kk p e R s m args below meth c Zf H1 locs1 lr X hR ⟨hW.1, hP1, hD1⟩ hS1 hl
theorem gg_alen {t : Nat} (d : decode mt.2.1 pc = .ok (.arraylength, 1)) (hs : S.2.1 k = (100 + t, n)) (ht : t < 8) (hk : k < S.1) (kk : gG l Γ mt B (pc + 1) ls (.int (iv (n : Int)) :: st) (S, I, J) Q) : gG l Γ mt B pc ls (.ref (gad S k) :: st) (S, I, J) Q := fun p e R s m args below meth c Zf H locs lr X hR hW hS hl => by
  obtain ⟨ty, hty⟩ : ∃ ty, (gTys Γ)[t]? = some (Γ.2.2.1 t, ty) := by
    match t, ht with
    | 0, _ => exact ⟨_, rfl⟩
    | 1, _ => exact ⟨_, rfl⟩
    | 2, _ => exact ⟨_, rfl⟩
    | 3, _ => exact ⟨_, rfl⟩
    | 4, _ => exact ⟨_, rfl⟩
    | 5, _ => exact ⟨_, rfl⟩
    | 6, _ => exact ⟨_, rfl⟩
    | 7, _ => exact ⟨_, rfl⟩
  obtain ⟨z, hz⟩ : ∃ z, gE Γ (S, I, J) k = .inl (Γ.2.2.1 t, n, z) := by
    unfold gE
    rw [if_neg (by rw [hs]; show ¬ 100 + t < 50; omega), hs]
    exact ⟨_, by show Sum.inl (Γ.2.2.1 (100 + t - 100), _) = _; rw [show 100 + t - 100 = t by omega]⟩
  exact va_alen (v := iv (n : Int)) X.1 X.2.1 hW.1 hW.2.1 k t ((gWl_at (μ := (S, I, J)) hk).trans (by rw [hz])) hty (by show Int32.ofNat n = _; unfold iv; rfl) d (kk p e R s m args below meth c Zf H locs lr X hR hW hS hl)
theorem gg_zast (d : decode mt.2.1 pc = .ok (.bastore, 1)) (hs : S.2.1 k = (102, n)) (hk : k < S.1) (hn : n < 2147483648) (h : 0 ≤ i ∧ i < n) (ha : a = 0 ∨ a = 1) (kk : gG l Γ mt B (pc + 1) ls st (S, gu I k i.toNat a, J) Q) : gG l Γ mt B pc ls (.int (iv a) :: .int (iv i) :: .ref (gad S k) :: st) (S, I, J) Q := fun p e R s m args below meth c Zf H locs lr X hR hW hS hl => by
  refine va_zast X.1 X.2.1 hW.1 hW.2.1 hW.2.2 hS k 2 ((gWl_at (μ := (S, I, J)) hk).trans (by rw [gE_int (t := 2) hs (Or.inr (Or.inl rfl))])) rfl (iv_at h hn) d (fun H1 locs1 hP1 hD1 hS1 => ?_)
  have hset : ∀ f : Nat → Int32, f = (fun b => iv (gu I k i.toNat a k b)) → (gWl Γ (S, I, J)).set k (gad S k, .inl (Γ.2.2.1 2, n, .inl f)) = gWl Γ (S, gu I k i.toNat a, J) := by
    intro f hf
    refine Eq.trans ?_ (gWl_set (I' := gu I k i.toNat a) (J' := J) (k := k) (fun b hb => gE_other (gu_other hb) rfl))
    rw [gE_int (t := 2) hs (Or.inr (Or.inl rfl)), hf]
  have hna : vp_nar .boolean (iv a) = iv a := by rcases ha with rfl | rfl <;> decide
  rw [hset _ (by funext b; rw [iv_cl (by omega), hna]; by_cases hb : b = i.toNat <;> simp [upd, gu, hb])] at hP1 hD1
  exact kk p e R s m args below meth c Zf H1 locs1 lr X hR ⟨hW.1, hP1, hD1⟩ hS1 hl
theorem gbyte {a : Int} (ha : -128 ≤ a ∧ a ≤ 127) : vp_nar .byte (iv a) = iv a := by
  rw [vp_nar_byte, ← Int32.toInt_inj, Int8.toInt_toInt32, Int32.toInt_toInt8, iv_toInt (by omega)]
  apply Int.bmod_eq_of_le <;> omega
theorem gg_bast (d : decode mt.2.1 pc = .ok (.bastore, 1)) (hs : S.2.1 k = (103, n)) (hk : k < S.1) (hn : n < 2147483648) (h : 0 ≤ i ∧ i < n) (ha : -128 ≤ a ∧ a ≤ 127) (kk : gG l Γ mt B (pc + 1) ls st (S, gu I k i.toNat a, J) Q) : gG l Γ mt B pc ls (.int (iv a) :: .int (iv i) :: .ref (gad S k) :: st) (S, I, J) Q := fun p e R s m args below meth c Zf H locs lr X hR hW hS hl => by
  refine va_bast X.1 X.2.1 hW.1 hW.2.1 hW.2.2 hS k 3 ((gWl_at (μ := (S, I, J)) hk).trans (by rw [gE_int (t := 3) hs (Or.inr (Or.inr rfl))])) rfl (iv_at h hn) d (fun H1 locs1 hP1 hD1 hS1 => ?_)
  have hset : ∀ f : Nat → Int32, f = (fun b => iv (gu I k i.toNat a k b)) → (gWl Γ (S, I, J)).set k (gad S k, .inl (Γ.2.2.1 3, n, .inl f)) = gWl Γ (S, gu I k i.toNat a, J) := by
    intro f hf
    refine Eq.trans ?_ (gWl_set (I' := gu I k i.toNat a) (J' := J) (k := k) (fun b hb => gE_other (gu_other hb) rfl))
    rw [gE_int (t := 3) hs (Or.inr (Or.inr rfl)), hf]
  rw [hset _ (by funext b; rw [iv_cl (by omega), gbyte ha]; by_cases hb : b = i.toNat <;> simp [upd, gu, hb])] at hP1 hD1
  exact kk p e R s m args below meth c Zf H1 locs1 lr X hR ⟨hW.1, hP1, hD1⟩ hS1 hl
/-- the static tables -/
theorem gg_parts (ho : mt.1.cls = RX1) (d : decode mt.2.1 pc = .ok (.getstatic 37, 3)) (kk : gG l Γ mt B (pc + 3) ls (.ref Γ.2.2.2.1.1 :: st) (S, I, J) Q) : gG l Γ mt B pc ls st (S, I, J) Q := fun p e R s m args below meth c Zf H locs lr X hR hW hS hl =>
  va_getsN X.1 X.2.1 X.2.2.2.2.2.2.1.1 hS (own := RX1) (ref := RX9) (by rw [← ho]; exact X.2.2.2.1) (va_Nw.use rfl X.2.2.2.2.2.2.1.2.2.2.2.2.2.2.2.2.1) (fun _ h => h) d (kk p e R s m args below meth c Zf H locs lr X hR hW hS hl)
theorem gg_parts_at (d : decode mt.2.1 pc = .ok (.iaload, 1)) (h : 0 ≤ i ∧ i < 8) (kk : gG l Γ mt B (pc + 1) ls (.int (iv (gParts i.toNat)) :: st) (S, I, J) Q) : gG l Γ mt B pc ls (.int (iv i) :: .ref Γ.2.2.2.1.1 :: st) (S, I, J) Q := fun p e R s m args below meth c Zf H locs lr X hR hW hS hl =>
  va_ti X.1 X.2.1 X.2.2.2.2.2.2.1.2.1 hS (iv_at (n := 8) (by omega) (by omega)) rfl d (by rw [iv_cl (by omega)]; exact kk p e R s m args below meth c Zf H locs lr X hR hW hS hl)
theorem gg_stands (hf : Cond.fieldLink RX4 54 RX4 "STANDS" "[I" ∈ WT) (ho : mt.1.cls = RX4) (d : decode mt.2.1 pc = .ok (.getstatic 54, 3)) (kk : gG l Γ mt B (pc + 3) ls (.ref Γ.2.2.2.1.2.1 :: st) (S, I, J) Q) : gG l Γ mt B pc ls st (S, I, J) Q := fun p e R s m args below meth c Zf H locs lr X hR hW hS hl =>
  va_gets X.1 X.2.1 X.2.2.2.2.2.2.1.2.2.1 hS (own := RX4) (ref := RX4) (by rw [← ho]; exact X.2.2.2.1) (X.2.2.2.2.1 _ hf) (fun _ h => h) d (kk p e R s m args below meth c Zf H locs lr X hR hW hS hl)
theorem gg_stands_at (d : decode mt.2.1 pc = .ok (.iaload, 1)) (h : 0 ≤ i ∧ i < 8) (kk : gG l Γ mt B (pc + 1) ls (.int (iv (gStands i.toNat)) :: st) (S, I, J) Q) : gG l Γ mt B pc ls (.int (iv i) :: .ref Γ.2.2.2.1.2.1 :: st) (S, I, J) Q := fun p e R s m args below meth c Zf H locs lr X hR hW hS hl =>
  va_ti X.1 X.2.1 X.2.2.2.2.2.2.1.2.2.2.1 hS (iv_at (n := 8) (by omega) (by omega)) rfl d (by rw [iv_cl (by omega)]; exact kk p e R s m args below meth c Zf H locs lr X hR hW hS hl)
/-- the script -/
theorem gg_slen (d : decode mt.2.1 pc = .ok (.arraylength, 1)) (kk : gG l Γ mt B (pc + 1) ls (.int (iv (Γ.2.2.2.2.2.1 : Int)) :: st) (S, I, J) Q) : gG l Γ mt B pc ls (.ref Γ.2.2.2.2.1 :: st) (S, I, J) Q := fun p e R s m args below meth c Zf H locs lr X hR hW hS hl => by
  obtain ⟨-, -, -, -, -, -, -, h8, -, -, h11, h12, -⟩ := X.2.2.2.2.2.2.1
  have hb : Γ.2.2.2.2.1 < s.heap.size := by obtain ⟨scr, g1, -⟩ := h8; exact (Array.getElem?_eq_some_iff.mp g1).1
  exact va_slen X.1 X.2.1 h8 hb (by intro z; have : Γ.1 ≤ Γ.2.2.2.2.1 := z; omega) hS d (kk p e R s m args below meth c Zf H locs lr X hR hW hS hl)
theorem gg_sld (d : decode mt.2.1 pc = .ok (.iaload, 1)) (h : 0 ≤ i ∧ i < Γ.2.2.2.2.2.1) (kk : gG l Γ mt B (pc + 1) ls (.int (Γ.2.2.2.2.2.2 i.toNat) :: st) (S, I, J) Q) : gG l Γ mt B pc ls (.int (iv i) :: .ref Γ.2.2.2.2.1 :: st) (S, I, J) Q := fun p e R s m args below meth c Zf H locs lr X hR hW hS hl => by
  obtain ⟨-, -, -, -, -, -, -, h8, -, -, h11, h12, -⟩ := X.2.2.2.2.2.2.1
  have hb : Γ.2.2.2.2.1 < s.heap.size := by obtain ⟨scr, g1, -⟩ := h8; exact (Array.getElem?_eq_some_iff.mp g1).1
  exact va_sld X.1 X.2.1 h8 hb (by intro z; have : Γ.1 ≤ Γ.2.2.2.2.1 := z; omega) hS (iv_at h h12) d (by rw [iv_cl (by omega)]; exact kk p e R s m args below meth c Zf H locs lr X hR hW hS hl)
end GM
