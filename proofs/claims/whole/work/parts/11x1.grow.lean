/-! a world that grows: places are made, references written (in constructors alone) -/
def gnr (rf : Nat → Nat → Option Nat) (k j v : Nat) : Nat → Nat → Option Nat := fun a b => if a = k ∧ b = j then some v else rf a b
/-- n places stand: whom they name is among them; behind them nothing is written yet -/
def gNew (n : Nat) (rf : Nat → Nat → Option Nat) (I : Nat → Nat → Int) (J : Nat → Nat → Int64) : Prop := (∀ k j v, rf k j = some v → v < n ∧ j < 40) ∧ ∀ k, n ≤ k → ∀ j, rf k j = none ∧ I k j = 0 ∧ J k j = 0
theorem gNew_up {n n' : Nat} {rf : Nat → Nat → Option Nat} {I : Nat → Nat → Int} {J : Nat → Nat → Int64} (h : gNew n rf I J) (hn : n ≤ n') : gNew n' rf I J :=
  ⟨fun k j v e => ⟨Nat.lt_of_lt_of_le (h.1 k j v e).1 hn, (h.1 k j v e).2⟩, fun k hk => h.2 k (Nat.le_trans hn hk)⟩
theorem gNew_ref {n k j v : Nat} {rf : Nat → Nat → Option Nat} {I : Nat → Nat → Int} {J : Nat → Nat → Int64} (h : gNew n rf I J) (hk : k < n) (hv : v < n) (hj : j < 40) : gNew n (gnr rf k j v) I J := by
  refine ⟨fun a b w e => ?_, fun a ha b => ?_⟩
  · unfold gnr at e
    by_cases c : a = k ∧ b = j
    · rw [if_pos c] at e
      cases e
      exact ⟨hv, by omega⟩
    · rw [if_neg c] at e
      exact h.1 a b w e
  · have c : ¬ (a = k ∧ b = j) := by omega
    refine ⟨?_, (h.2 a ha b).2⟩
    show (if a = k ∧ b = j then some v else rf a b) = none
    rw [if_neg c]
    exact (h.2 a ha b).1
theorem gNew_int {n k j : Nat} {x : Int} {rf : Nat → Nat → Option Nat} {I : Nat → Nat → Int} {J : Nat → Nat → Int64} (h : gNew n rf I J) (hk : k < n) : gNew n rf (gu I k j x) J := by
  refine ⟨h.1, fun a ha b => ⟨(h.2 a ha b).1, ?_, (h.2 a ha b).2.2⟩⟩
  show (if a = k ∧ b = j then x else I a b) = 0
  rw [if_neg (by omega)]
  exact (h.2 a ha b).2.1
theorem gE_ad {Γ : gC} {n n' : Nat} {sh : Nat → Nat × Nat} {rf : Nat → Nat → Option Nat} {ad ad' : Nat → Nat} {I : Nat → Nat → Int} {J : Nat → Nat → Int64} {k : Nat} (h : ∀ j v, rf k j = some v → ad' v = ad v) :
    gE Γ ((n', sh, rf, ad'), I, J) k = gE Γ ((n, sh, rf, ad), I, J) k := by
  have e : (fun j => (rf k j).map ad') = (fun j => (rf k j).map ad) := by
    funext j
    cases c : rf k j with
    | none => rfl
    | some v => exact congrArg some (h j v c)
  have e2 : ∀ j, (rf k j).map ad' = (rf k j).map ad := fun j => congrFun e j
  unfold gE gObj gad
  dsimp only
  simp only [e2]
theorem gWl_new {Γ : gC} {n : Nat} {sh : Nat → Nat × Nat} {rf : Nat → Nat → Option Nat} {ad ad' : Nat → Nat} {I : Nat → Nat → Int} {J : Nat → Nat → Int64} (hg : gNew n rf I J) (ha : ∀ k, k < n → ad' k = ad k) :
    gWl Γ ((n + 1, sh, rf, ad'), I, J) = gWl Γ ((n, sh, rf, ad), I, J) ++ [(ad' n, gE Γ ((n + 1, sh, rf, ad'), I, J) n)] := by
  unfold gWl
  show (List.range (n + 1)).map _ = _
  rw [List.range_succ, List.map_append]
  congr 1
  apply List.map_congr_left
  intro k hk
  have hk := List.mem_range.mp hk
  have e1 : gad (n + 1, sh, rf, ad') k = gad (n, sh, rf, ad) k := ha k hk
  show (gad (n + 1, sh, rf, ad') k, _) = (gad (n, sh, rf, ad) k, _)
  rw [e1, gE_ad (n := n) (ad := ad) (fun j v e => ha v (hg.1 k j v e).1)]
theorem va_RA_eq {s : State} {a b : ClassId} {ty : FieldType} (h1 : va_RA s a ty) (h2 : va_RA s b ty) : a = b := by
  cases ty with
  | object C =>
    obtain ⟨_, _, -, -, -, e1⟩ := h1
    obtain ⟨_, _, -, -, -, e2⟩ := h2
    exact Option.some.inj (e1.symm.trans e2)
  | _ => exact Option.some.inj (Eq.trans (Eq.symm h1) h2)
theorem va_S_trans {A : Nat → Prop} {H0 H H1 : Heap} {locs locs1 : List Loc} (h : va_S A H0 H locs) (h1 : va_S A H H1 locs1) : va_S A H0 H1 locs1 :=
  ⟨Nat.le_trans h.1 h1.1, fun q a b => (h1.2.1 q (Nat.lt_of_lt_of_le a h.1) b).trans (h.2.1 q a b), h1.2.2⟩
theorem gA_new {Γ : gC} {μ : gM} {s : State} {H : Heap} (hW : gW Γ μ s H) (hn : 0 < μ.1.1) : ∀ q, H.size ≤ q → gA Γ q := fun q hq => by
  have h0 := gWl_at (Γ := Γ) hn
  have h1 := (hW.2.1 0 _ h0).lt
  have h2 := hW.2.2.2 0 _ h0
  have h3 : Γ.1 ≤ gad μ.1 0 := h2
  have h4 : gad μ.1 0 < H.size := h1
  show Γ.1 ≤ q
  omega
theorem gnat {n : Nat} (h : n < 2147483648) : ¬ iv (n : Int) < 0 ∧ (iv (n : Int)).toNatClampNeg = n := by
  refine ⟨fun z => ?_, ?_⟩
  · have := (iv_lt (a := (n : Int)) (b := 0) (by omega)).mp z
    omega
  · rw [iv_cl (by omega)]
    omega
theorem gfits_ref {ty : FieldType} {a : Nat} (h : ty.isReference = true) : fits ty (.ref a) = true ∧ narrow ty (.ref a) = .ref a := by
  cases ty <;> first | (simp [FieldType.isReference] at h; done) | exact ⟨rfl, rfl⟩
theorem gdef_ref {ty : FieldType} (h : ty.isReference = true) : defaultValue ty = .null := by
  cases ty <;> first | (simp [FieldType.isReference] at h; done) | rfl
theorem gObj_ref {S : gS} {rf : Nat → Nat → Option Nat} {ci n j k v : Nat} {f : Nat → Int} (hr : gRef ci j = true) : (gObj S ci n (rf k) f).set j (.ref (gad S v)) = gObj S ci n (gnr rf k j v k) f := by
  apply List.ext_getElem?
  intro i
  rw [List.getElem?_set]
  by_cases h : j = i
  · subst h
    by_cases hj : j < n
    · rw [gObj_at hj]
      simp [gObj, hj, hr, gnr, va_rf]
    · simp [gObj, hj]
  · rw [if_neg h]
    by_cases hi : i < n
    · rw [gObj_at hi, gObj_at hi]
      simp [Ne.symm h, gnr]
    · simp [gObj, hi]
theorem gnr_other {rf : Nat → Nat → Option Nat} {k j v a : Nat} (h : a ≠ k) : gnr rf k j v a = rf a := by
  funext b
  simp [gnr, h]
theorem gE_rf {Γ : gC} {n : Nat} {sh : Nat → Nat × Nat} {rf rf' : Nat → Nat → Option Nat} {ad : Nat → Nat} {I : Nat → Nat → Int} {J : Nat → Nat → Int64} {k : Nat} (h : rf' k = rf k) : gE Γ ((n, sh, rf', ad), I, J) k = gE Γ ((n, sh, rf, ad), I, J) k := by
  unfold gE
  dsimp only
  rw [h]
  rfl
theorem gWl_rf {Γ : gC} {n : Nat} {sh : Nat → Nat × Nat} {rf rf' : Nat → Nat → Option Nat} {ad : Nat → Nat} {I : Nat → Nat → Int} {J : Nat → Nat → Int64} {k : Nat} (h : ∀ j, j ≠ k → rf' j = rf j) :
    (gWl Γ ((n, sh, rf, ad), I, J)).set k (ad k, gE Γ ((n, sh, rf', ad), I, J) k) = gWl Γ ((n, sh, rf', ad), I, J) := by
  apply List.ext_getElem?
  intro j
  rw [List.getElem?_set]
  by_cases hkj : k = j
  · subst hkj
    by_cases hk : k < n
    · rw [gWl_at (μ := ((n, sh, rf', ad), I, J)) hk]
      simp [gWl, hk, gad]
    · simp [gWl, hk]
  · rw [if_neg hkj]
    by_cases hj : j < n
    · rw [gWl_at (μ := ((n, sh, rf, ad), I, J)) hj, gWl_at (μ := ((n, sh, rf', ad), I, J)) hj, gE_rf (h j (fun e => hkj e.symm))]
      rfl
    · simp [gWl, hj]
/-- worlds that hold the same are the same to the heap -/
theorem gW_same {Γ : gC} {μ μ' : gM} {s : State} {H : Heap} (h : gWl Γ μ' = gWl Γ μ) (hW : gW Γ μ s H) : gW Γ μ' s H := by
  unfold gW
  rw [h]
  exact hW
theorem gWl_by {Γ : gC} {n : Nat} {sh : Nat → Nat × Nat} {rf rf' : Nat → Nat → Option Nat} {ad : Nat → Nat} {I : Nat → Nat → Int} {J : Nat → Nat → Int64} (h : ∀ k, k < n → rf' k = rf k) : gWl Γ ((n, sh, rf', ad), I, J) = gWl Γ ((n, sh, rf, ad), I, J) := by
  unfold gWl
  apply List.map_congr_left
  intro k hk
  have hk := List.mem_range.mp hk
  show (gad (n, sh, rf', ad) k, _) = (gad (n, sh, rf, ad) k, _)
  rw [gE_rf (h k hk)]
  rfl
section GNW
variable {l : Launch} {Γ : gC} {mt yt : gY} {B : gB} {pc : Nat} {ls : List (Nat × Value)} {av st rest : List Value} {n : Nat} {sh : Nat → Nat × Nat} {rf rf' : Nat → Nat → Option Nat} {ad : Nat → Nat} {I : Nat → Nat → Int} {J : Nat → Nat → Int64} {Q Q' : Option Value → gM → Prop} {own : String} {idx ci j k v len t na d' : Nat} {μ : gM}
/-- a world in other words -/
theorem gg_world {μ' : gM} (h : gWl Γ μ' = gWl Γ μ) (kk : gG l Γ mt B pc ls st μ' Q) : gG l Γ mt B pc ls st μ Q := fun p e R s m args below meth c Zf H locs lr X hR hW hS hl =>
  kk p e R s m args below meth c Zf H locs lr X hR (gW_same h hW) hS hl
/-- room is rounded up -/
theorem gg_wide {B' : gB} (hB : B'.1 = B.1 ∧ B'.2.1 = B.2.1 ∧ B'.2.2.1 = B.2.2.1) (h1 : B.2.2.2.1 ≤ B'.2.2.2.1) (h2 : B.2.2.2.2 ≤ B'.2.2.2.2) (kk : gG l Γ mt B' pc ls st μ Q) : gG l Γ mt B pc ls st μ Q := fun p e R s m args below meth c Zf H locs lr X hR hW hS hl => by
  refine W.widen h1 h2 (kk p e R s m args below meth c Zf H locs lr ?_ ?_ hW hS hl)
  · obtain ⟨a1, a2, a3, a4, a5, a6, a7, a8⟩ := X
    refine ⟨a1, a2, a3, a4, a5, a6, a7, ?_⟩
    rw [hB.1, hB.2.1, hB.2.2]
    exact a8
  · intro r μ' H' locs' pc' lr' i' q1 q2 q3 q4 q5
    rw [hB.2.1, hB.2.2]
    exact hR r μ' H' locs' pc' lr' i' q1 q2 q3 q4 q5
theorem gg_dupr {a : Nat} (d : decode mt.2.1 pc = .ok (.dup, 1)) (kk : gG l Γ mt B (pc + 1) ls (.ref a :: .ref a :: st) μ Q) : gG l Γ mt B pc ls (.ref a :: st) μ Q := fun p e R s m args below meth c Zf H locs lr X hR hW hS hl =>
  lv_dup X.1 X.2.1 d rfl (kk p e R s m args below meth c Zf H locs lr X hR hW hS hl)
theorem gobj_code : Cond.code Lib.objectInit ⟨#[0xb1]⟩ 1 none ∈ WT := gmem 142 (by decide +kernel) (by decide +kernel)
theorem gobj_inst : Cond.instanceMethod Lib.objectInit ∈ WT := gmem 141 (by decide +kernel) (by decide +kernel)
theorem gg_obj {a : Nat} (ho : mt.1.cls = own) (hlk : Cond.methodLink own idx Lib.objectInit ∈ WT) (d : decode mt.2.1 pc = .ok (.invokespecial idx, 3)) (hd : 1 ≤ B.1) (kk : gG l Γ mt B (pc + 3) ls [] μ Q) : gG l Γ mt B pc ls [.ref a] μ Q := fun p e R s m args below meth c Zf H locs lr X hR hW hS hl =>
  W.objInit X.1 X.2.1 (own := own) (by rw [← ho]; exact X.2.2.2.1) (X.2.2.2.2.1 _ hlk) (X.2.2.2.2.1 _ gobj_inst) (X.2.2.2.2.1 _ gobj_code) rfl (hl.1.trans X.2.2.1.symm) rfl d
    (by have := X.2.2.2.2.2.2.2.1; omega) (by have := X.2.2.2.2.2.2.2.2.1; show 0 + 12 ≤ R.locals; omega) (kk p e R s m args below meth c Zf H locs lr X hR hW hS hl)
/-- new T[len], T an int, a long, a boolean or a byte -/
theorem gg_newarr {aty : ArrayType} {ty : FieldType} {z : (Nat → Int32) ⊕ ((Nat → Int64) ⊕ ((Nat → UInt32) ⊕ ((Nat → UInt64) ⊕ (Nat → Option Nat))))} (hat : newarray.typeOf aty = ty) (hty : (gTys Γ)[t]? = some (Γ.2.2.1 t, ty)) (hw : Cond.arrayClass ty ∈ WT)
    (hz : ∀ cA : ClassId, vp_cell cA (len, z) = arrV cA len (fun _ => defaultValue ty)) (hE : ∀ ad', gE Γ ((n + 1, sh, rf, ad'), I, J) n = .inl (Γ.2.2.1 t, len, z))
    (d : decode mt.2.1 pc = .ok (.newarray aty, 2)) (hn : 0 < n) (hg : gNew n rf I J) (hlen : len * 8 ≤ 536870912) (hb : len * componentBytes ty ≤ len * 8) (hc : B.2.2.2.1 + 1 ≤ B.2.1) (hsl : B.2.2.2.2 + len ≤ B.2.2.1)
    (kk : ∀ ad' : Nat → Nat, (∀ k, k < n → ad' k = ad k) → gG l Γ mt (B.1, B.2.1, B.2.2.1, B.2.2.2.1 + 1, B.2.2.2.2 + len) (pc + 2) ls (.ref (ad' n) :: st) ((n + 1, sh, rf, ad'), I, J) Q) :
    gG l Γ mt B pc ls (.int (iv (len : Int)) :: st) ((n, sh, rf, ad), I, J) Q := fun p e R s m args below meth c Zf H locs lr X hR hW hS hl => by
  obtain ⟨x1, x2, x3, x4, x5, x6, x7, x8, x9, x10, x11⟩ := id X
  refine va_newa (H0 := H) (atype := aty) (ty := ty) (a0 := (len, z)) (N' := len) x1 x2 (by rw [hat]; exact x5 _ hw) hat hW.1 hW.2.1 hW.2.2 ⟨Nat.le_refl _, fun q _ _ => rfl, hS.2.2⟩ (gA_new hW hn) hz (gnat (by omega)).1 (gnat (by omega)).2 (by omega) (by omega) (by omega) d (fun q cA H1 hK1 hP1 hD1 hS1 => ?_)
  have hcA : cA = Γ.2.2.1 t := va_RA_eq (hK1.2 8 (cA, ty) rfl).2 (hW.1.2 t _ hty).2
  subst hcA
  have ea : ∀ k, k < n → (fun k => if k = n then q else ad k) k = ad k := fun k hk => if_neg (Nat.ne_of_lt hk)
  have en : (fun k => if k = n then q else ad k) n = q := if_pos rfl
  generalize (fun k => if k = n then q else ad k) = ad' at ea en
  subst en
  have hw' := gWl_new (Γ := Γ) (sh := sh) (ad := ad) hg ea
  rw [hE] at hw'
  exact kk ad' ea p e R s m args below meth c Zf H1 locs lr X hR ⟨hW.1, by rw [hw']; exact hP1, by rw [hw']; exact hD1⟩ (va_S_trans hS hS1) hl
/-- new C[len], C a class of ours -/
theorem gg_newarrR {C : String} (ho : mt.1.cls = own) (hlk : Cond.classLink own idx C ∈ WT) (hao : ∀ U, gAOs U → va_AO C U) (hty : (gTys Γ)[t]? = some (Γ.2.2.1 t, .object C)) (hE : ∀ ad', gE Γ ((n + 1, sh, rf, ad'), I, J) n = .inl (Γ.2.2.1 t, len, .inr (.inr (.inr (.inr (fun _ => none))))))
    (d : decode mt.2.1 pc = .ok (.anewarray idx, 3)) (hn : 0 < n) (hg : gNew n rf I J) (hlen : len * 8 ≤ 536870912) (hc : B.2.2.2.1 + 1 ≤ B.2.1) (hsl : B.2.2.2.2 + len ≤ B.2.2.1)
    (kk : ∀ ad' : Nat → Nat, (∀ k, k < n → ad' k = ad k) → gG l Γ mt (B.1, B.2.1, B.2.2.1, B.2.2.2.1 + 1, B.2.2.2.2 + len) (pc + 3) ls (.ref (ad' n) :: st) ((n + 1, sh, rf, ad'), I, J) Q) :
    gG l Γ mt B pc ls (.int (iv (len : Int)) :: st) ((n, sh, rf, ad), I, J) Q := fun p e R s m args below meth c Zf H locs lr X hR hW hS hl => by
  obtain ⟨x1, x2, x3, x4, x5, x6, x7, x8, x9, x10, x11⟩ := id X
  obtain ⟨-, -, -, -, -, -, -, -, -, -, -, -, z13⟩ := id x7
  refine va_newq (H0 := H) (own := own) (C := C) (N' := len) x1 x2 (by rw [← ho]; exact x4) (x5 _ hlk) (hao _ z13) hW.1 hW.2.1 hW.2.2 ⟨Nat.le_refl _, fun q _ _ => rfl, hS.2.2⟩ (gA_new hW hn) (gnat (by omega)).1 (gnat (by omega)).2 (by omega) (by omega) (by omega) d (fun q cA H1 hK1 hP1 hD1 hS1 => ?_)
  have hcA : cA = Γ.2.2.1 t := va_RA_eq (hK1.2 8 (cA, .object C) rfl).2 (hW.1.2 t _ hty).2
  subst hcA
  have ea : ∀ k, k < n → (fun k => if k = n then q else ad k) k = ad k := fun k hk => if_neg (Nat.ne_of_lt hk)
  have en : (fun k => if k = n then q else ad k) n = q := if_pos rfl
  generalize (fun k => if k = n then q else ad k) = ad' at ea en
  subst en
  have hw' := gWl_new (Γ := Γ) (sh := sh) (ad := ad) hg ea
  rw [hE] at hw'
  exact kk ad' ea p e R s m args below meth c Zf H1 locs lr X hR ⟨hW.1, by rw [hw']; exact hP1, by rw [hw']; exact hD1⟩ (va_S_trans hS hS1) hl
/-- new C -/
theorem gg_new {N : Nat} (ho : mt.1.cls = own) (hci : ci < 11) (hN : (gcl ci).2.2 = N) (hlk : Cond.classLink own idx (gcl ci).1 ∈ WT) (hinst : Cond.instantiable (gcl ci).1 N ∈ WT) (hini : Cond.initialized (gcl ci).1 ∈ WT) (hdf : ∀ j, j < N → gRef ci j = false → defaultValue (gty ci j) = .int 0) (hs : sh n = (ci, N))
    (d : decode mt.2.1 pc = .ok (.new idx, 3)) (hn : 0 < n) (hg : gNew n rf I J) (hc : B.2.2.2.1 + 1 ≤ B.2.1) (hsl : B.2.2.2.2 + N ≤ B.2.2.1)
    (kk : ∀ ad' : Nat → Nat, (∀ k, k < n → ad' k = ad k) → gG l Γ mt (B.1, B.2.1, B.2.2.1, B.2.2.2.1 + 1, B.2.2.2.2 + N) (pc + 3) ls (.ref (ad' n) :: st) ((n + 1, sh, rf, ad'), I, J) Q) :
    gG l Γ mt B pc ls st ((n, sh, rf, ad), I, J) Q := fun p e R s m args below meth c Zf H locs lr X hR hW hS hl => by
  obtain ⟨x1, x2, x3, x4, x5, x6, x7, x8, x9, x10, x11⟩ := id X
  subst hN
  have hfs : ∀ j, j < (gcl ci).2.2 → defaultValue (gty ci j) = vp_V (gObj (n, sh, rf, ad) ci (gcl ci).2.2 (rf n) (I n)) j := fun j hj => by
    have hz := hg.2 n (Nat.le_refl _) j
    unfold vp_V
    rw [List.getD_eq_getElem?_getD, gObj_at hj, hz.1, hz.2.1]
    cases hr : gRef ci j with
    | true => exact gdef_ref hr
    | false => exact hdf j hj hr
  refine va_new (H0 := H) (own := own) (C := (gcl ci).1) (T := (gcl ci).2.1) (N := (gcl ci).2.2) (ci := ci) x1 x2 x5 (gin ci hci) (gty ci) (gtyok ci hci) (by rw [← ho]; exact x4) (x5 _ hlk) (x5 _ hinst) (x5 _ hini) hW.1 hW.2.1 hW.2.2 ⟨Nat.le_refl _, fun q _ _ => rfl, hS.2.2⟩ (gA_new hW hn) (gcl_ok ci hci) hfs (by omega) (by omega) d (fun q H1 hP1 hD1 hS1 => ?_)
  have ea : ∀ k, k < n → (fun k => if k = n then q else ad k) k = ad k := fun k hk => if_neg (Nat.ne_of_lt hk)
  have en : (fun k => if k = n then q else ad k) n = q := if_pos rfl
  generalize (fun k => if k = n then q else ad k) = ad' at ea en
  subst en
  have hw' := gWl_new (Γ := Γ) (sh := sh) (ad := ad) hg ea
  have hE : gE Γ ((n + 1, sh, rf, ad'), I, J) n = .inr (ci, gObj (n, sh, rf, ad) ci (gcl ci).2.2 (rf n) (I n)) := by
    rw [gE_obj (S := (n + 1, sh, rf, ad')) hs (by omega)]
    show Sum.inr (ci, gObj (n + 1, sh, rf, ad') ci (gcl ci).2.2 (rf n) (I n)) = _
    congr 2
    unfold gObj
    apply List.map_congr_left
    intro j _
    rw [(hg.2 n (Nat.le_refl _) j).1]
    rfl
  rw [hE] at hw'
  exact kk ad' ea p e R s m args below meth c Zf H1 locs lr X hR ⟨hW.1, by rw [hw']; exact hP1, by rw [hw']; exact hD1⟩ (va_S_trans hS hS1) hl
/-- a reference is written into a final field -/
theorem gg_putR (ho : mt.1.cls = own) (f : gFL own idx ci j) (d : decode mt.2.1 pc = .ok (.putfield idx, 3)) (hs : sh k = (ci, len)) (hk : k < n) (hr : gRef ci j = true) (hj : j < len) (hfin : ((gcl ci).2.1 j).2.2.2 = true) (hin : mt.1.name = "<init>") (hdc : ((gcl ci).2.1 j).1 = own)
    (kk : gG l Γ mt B (pc + 3) ls st ((n, sh, gnr rf k j v, ad), I, J) Q) : gG l Γ mt B pc ls (.ref (ad v) :: .ref (ad k) :: st) ((n, sh, rf, ad), I, J) Q := fun p e R s m args below meth c Zf H locs lr X hR hW hS hl =>
  va_putF (C := (gcl ci).1) (T := (gcl ci).2.1) (N := (gcl ci).2.2) (ci := ci) X.1 X.2.1 X.2.2.2.2.1 (gin ci f.1) (gty ci) (gtyok ci f.1) (gnm ci f.1) (own := own) (by rw [← ho]; exact X.2.2.2.1) hW.1 hW.2.1 hW.2.2 hS k ((gWl_at (μ := ((n, sh, rf, ad), I, J)) hk).trans (by rw [gE_obj (S := (n, sh, rf, ad)) hs (by have := f.1; omega)]; rfl)) (gcl_ok ci f.1) j f.2.1 (X.2.2.2.2.1 _ f.2.2) (fun _ h => h) hfin (X.2.2.2.2.2.1.trans hin) hdc (gtyok ci f.1 j f.2.1) (gfits_ref hr).2 (gfits_ref hr).1 (by simp [gObj, hj]) d
    (fun H1 locs1 hP1 hD1 hS1 => by
      have hset : (gWl Γ ((n, sh, rf, ad), I, J)).set k (ad k, .inr (ci, (gObj (n, sh, rf, ad) ci len (rf k) (I k)).set j (.ref (ad v)))) = gWl Γ ((n, sh, gnr rf k j v, ad), I, J) := by
        refine Eq.trans ?_ (gWl_rf (rf' := gnr rf k j v) (k := k) (fun b hb => gnr_other hb))
        rw [gE_obj (S := (n, sh, gnr rf k j v, ad)) hs (by have := f.1; omega)]
        have := gObj_ref (S := (n, sh, rf, ad)) (rf := rf) (n := len) (k := k) (v := v) (f := I k) hr
        show List.set _ k (ad k, Sum.inr (ci, (gObj (n, sh, rf, ad) ci len (rf k) (I k)).set j (.ref (gad (n, sh, rf, ad) v)))) = _
        rw [this]
        rfl
      rw [hset] at hP1 hD1
      exact kk p e R s m args below meth c Zf H1 locs1 lr X hR ⟨hW.1, hP1, hD1⟩ hS1 hl)
/-- a reference is written into an array of them -/
theorem gg_aastR {i : Int} {N : Nat} (hci : ci < 11) (hty : (gTys Γ)[t]? = some (Γ.2.2.1 t, .object (gcl ci).1)) (ht : 4 ≤ t) (d : decode mt.2.1 pc = .ok (.aastore, 1)) (hs : sh k = (100 + t, len)) (hk : k < n) (hsv : sh v = (ci, N)) (hv : v < n) (hlen : len < 2147483648) (hi : i = (j : Int)) (hj : j < len)
    (kk : gG l Γ mt B (pc + 1) ls st ((n, sh, gnr rf k j v, ad), I, J) Q) : gG l Γ mt B pc ls (.ref (ad v) :: .int (iv i) :: .ref (ad k) :: st) ((n, sh, rf, ad), I, J) Q := fun p e R s m args below meth c Zf H locs lr X hR hW hS hl => by
  subst hi
  refine va_astq X.1 X.2.1 hW.1 hW.2.1 hW.2.2 hS k t v ci (r := gcl ci) ((gWl_at (μ := ((n, sh, rf, ad), I, J)) hk).trans (by rw [gE_refs (S := (n, sh, rf, ad)) hs ht]; rfl)) hty ((gWl_at (μ := ((n, sh, rf, ad), I, J)) hv).trans (by rw [gE_obj (S := (n, sh, rf, ad)) hsv (by omega)]; rfl)) (gcl_ok ci hci) (iv_at (n := len) (by omega) hlen) d (fun H1 locs1 hP1 hD1 hS1 => ?_)
  have hset : ∀ f : Nat → Option Nat, f = (fun b => (gnr rf k j v k b).map ad) → (gWl Γ ((n, sh, rf, ad), I, J)).set k (ad k, .inl (Γ.2.2.1 t, len, .inr (.inr (.inr (.inr f))))) = gWl Γ ((n, sh, gnr rf k j v, ad), I, J) := by
    intro f hf
    refine Eq.trans ?_ (gWl_rf (rf' := gnr rf k j v) (k := k) (fun b hb => gnr_other hb))
    rw [gE_refs (S := (n, sh, gnr rf k j v, ad)) hs ht, hf]
    rfl
  have hf : va_up (fun b => (rf k b).map ad) (iv (j : Int)).toNatClampNeg (some (ad v)) = (fun b => (gnr rf k j v k b).map ad) := by
    rw [(gnat (n := j) (by omega)).2]
    funext b
    by_cases hb : b = j <;> simp [va_up, gnr, hb]
  have hP2 := hP1
  have hD2 := hD1
  have e9 := hset _ hf
  exact kk p e R s m args below meth c Zf H1 locs1 lr X hR ⟨hW.1, by rw [← e9]; exact hP2, by rw [← e9]; exact hD2⟩ hS1 hl
/-- a constructor is called -/
theorem gg_callI {a mc ms : Nat} (ho : mt.1.cls = own) (hlk : Cond.methodLink own idx yt.1 ∈ WT) (ok : gOkI yt) (har : gAr yt na) (d : decode mt.2.1 pc = .ok (.invokespecial idx, 3)) (hC : gK l Γ yt d' mc ms (.ref a :: av) μ Q') (hna : av.length = na) (hst : st = av.reverse ++ .ref a :: rest) (hret : yt.2.2.2 = none) (hcat : (rest.map fun v => v.category).sum ≤ 8) (hd : d' + 1 ≤ B.1) (hu : B.2.2.2.1 + mc ≤ B.2.1 ∧ B.2.2.2.2 + ms ≤ B.2.2.1)
    (kk : ∀ (r : Option Value) (μ' : gM), Q' r μ' → gG l Γ mt (B.1, B.2.1, B.2.2.1, B.2.2.2.1 + mc, B.2.2.2.2 + ms) (pc + 3) ls (r.toList ++ rest) μ' Q) : gG l Γ mt B pc ls st μ Q := fun p e R s m args below meth c Zf H locs lr X hR hW hS hl => by
  obtain ⟨hx, hb, hml, hown, hts, hnm, hZ, hf1, hf2, hf3, hf4⟩ := id X
  subst hst
  have hRm : (gRm d' mc ms).frames + 1 ≤ R.frames ∧ 8 + (yt.2.2.1 + 11) + (gRm d' mc ms).locals ≤ R.locals := by
    have := har.2
    refine ⟨?_, ?_⟩
    · show d' + 1 ≤ R.frames
      omega
    · show 8 + (yt.2.2.1 + 11) + 41 * d' ≤ R.locals
      omega
  refine gRun (va_runI (own := own) (As := av) (b := a) (rest := rest) (n := na) (Ts := WT) ⟨hx, hb, hml, by rw [← ho]; exact hown, hts⟩ hC ⟨callB_of na hts (gGood ok.1) (by rw [← hret]) rfl rfl (hts _ ok.1.2.1) (hts _ hlk) ⟨ok.1.2.2.1.1, ok.1.2.2.1.2, har.1⟩ hRm, ok.2.2, hts _ ok.2.1⟩
    ⟨gPc_blind, gPre hW hZ hS⟩ rfl hna hl.1 rfl (lv_room hcat) d ⟨by omega, by omega⟩) hS (fun r μ' H1 locs1 hq hw hs1 => kk r μ' hq p e R s m args below meth c Zf H1 locs1 lr X hR hw hs1 hl)
theorem gg_callIN {a mc ms : Nat} {host : String} (ho : mt.1.cls = own) (hlk : Cond.methodLinkNest own idx yt.1 host ∈ gNest) (ok : gOkI yt) (har : gAr yt na) (d : decode mt.2.1 pc = .ok (.invokespecial idx, 3)) (hC : gK l Γ yt d' mc ms (.ref a :: av) μ Q') (hna : av.length = na) (hst : st = av.reverse ++ .ref a :: rest) (hret : yt.2.2.2 = none) (hcat : (rest.map fun v => v.category).sum ≤ 8) (hd : d' + 1 ≤ B.1) (hu : B.2.2.2.1 + mc ≤ B.2.1 ∧ B.2.2.2.2 + ms ≤ B.2.2.1)
    (kk : ∀ (r : Option Value) (μ' : gM), Q' r μ' → gG l Γ mt (B.1, B.2.1, B.2.2.1, B.2.2.2.1 + mc, B.2.2.2.2 + ms) (pc + 3) ls (r.toList ++ rest) μ' Q) : gG l Γ mt B pc ls st μ Q := fun p e R s m args below meth c Zf H locs lr X hR hW hS hl => by
  obtain ⟨hx, hb, hml, hown, hts, hnm, hZ, hf1, hf2, hf3, hf4⟩ := id X
  subst hst
  have hRm : (gRm d' mc ms).frames + 1 ≤ R.frames ∧ 8 + (yt.2.2.1 + 11) + (gRm d' mc ms).locals ≤ R.locals := by
    have := har.2
    refine ⟨?_, ?_⟩
    · show d' + 1 ≤ R.frames
      omega
    · show 8 + (yt.2.2.1 + 11) + 41 * d' ≤ R.locals
      omega
  refine gRun (va_runIN (own := own) (host := host) (As := av) (b := a) (rest := rest) (n := na) (Ts := WT) ⟨hx, hb, hml, by rw [← ho]; exact hown, hts⟩ hC ⟨va_cnB na hts (gGood ok.1) (by rw [← hret]) rfl rfl (hZ.2.2.2.2.2.2.2.2.1 _ hlk) (hts _ ok.1.2.1) ⟨ok.1.2.2.1.1, ok.1.2.2.1.2, har.1⟩ hRm, ok.2.2, hts _ ok.2.1⟩
    ⟨gPc_blind, gPre hW hZ hS⟩ rfl hna hl.1 rfl (lv_room hcat) d ⟨by omega, by omega⟩) hS (fun r μ' H1 locs1 hq hw hs1 => kk r μ' hq p e R s m args below meth c Zf H1 locs1 lr X hR hw hs1 hl)
end GNW
