/-! THE CLASS AND ITS REFERENCE AS NUMBERS IN PLACES: the objects are made once, what moves are ints and longs.
 A world is (S, I, J): S which places there are, of which kind, and whom they name; I the ints, J the longs.
 gG says of a place in a method: from here, with these locals and this stack, it comes to its end with Q of answer and world. -/
def iv (x : Int) : Int32 := Int32.ofInt x
theorem iv_toInt {x : Int} (h : -2147483648 ≤ x ∧ x ≤ 2147483647) : (iv x).toInt = x := by
  unfold iv
  exact Int32.toInt_ofInt_of_le (by omega) (by omega)
theorem iv_of (x : Int32) : iv x.toInt = x := by
  unfold iv
  exact Int32.ofInt_toInt x
theorem iv_add (a b : Int) : iv a + iv b = iv (a + b) := (Int32.ofInt_add a b).symm
theorem iv_sub (a b : Int) : iv a - iv b = iv (a - b) := (Int32.ofInt_sub a b).symm
theorem iv_mul (a b : Int) : iv a * iv b = iv (a * b) := (Int32.ofInt_mul a b).symm
theorem iv_neg (a : Int) : -iv a = iv (-a) := (Int32.ofInt_neg a).symm
theorem iv_lt {a b : Int} (h : -2147483648 ≤ a ∧ a ≤ 2147483647 ∧ -2147483648 ≤ b ∧ b ≤ 2147483647) : iv a < iv b ↔ a < b := by
  rw [Int32.lt_iff_toInt_lt, iv_toInt ⟨h.1, h.2.1⟩, iv_toInt ⟨h.2.2.1, h.2.2.2⟩]
theorem iv_le {a b : Int} (h : -2147483648 ≤ a ∧ a ≤ 2147483647 ∧ -2147483648 ≤ b ∧ b ≤ 2147483647) : iv a ≤ iv b ↔ a ≤ b := by
  rw [Int32.le_iff_toInt_le, iv_toInt ⟨h.1, h.2.1⟩, iv_toInt ⟨h.2.2.1, h.2.2.2⟩]
theorem iv_eq {a b : Int} (h : -2147483648 ≤ a ∧ a ≤ 2147483647 ∧ -2147483648 ≤ b ∧ b ≤ 2147483647) : iv a = iv b ↔ a = b := by
  rw [← Int32.toInt_inj, iv_toInt ⟨h.1, h.2.1⟩, iv_toInt ⟨h.2.2.1, h.2.2.2⟩]
theorem iv_0 : iv 0 = 0 := rfl
theorem iv_at {i : Int} {n : Nat} (h : 0 ≤ i ∧ i < n) (hn : n < 2147483648) : vp_in (iv i) n := by
  rw [vp_in_iff, iv_toInt (by omega)]
  exact h
theorem iv_cl {i : Int} (h : 0 ≤ i ∧ i ≤ 2147483647) : (iv i).toNatClampNeg = i.toNat := by
  show (iv i).toInt.toNat = i.toNat
  rw [iv_toInt (by omega)]
/-- how many places; of which kind and how long; whom a place names there; where it lies -/
abbrev gS : Type := Nat × (Nat → Nat × Nat) × (Nat → Nat → Option Nat) × (Nat → Nat)
abbrev gM : Type := gS × (Nat → Nat → Int) × (Nat → Nat → Int64)
/-- where the world begins; the classes' numbers; the array classes' numbers; the two static tables; the text of signs and its bytes; the script -/
abbrev gC : Type := Nat × va_G × (Nat → ClassId) × (Nat × Nat × Nat × Nat) × (Nat × Nat × (Nat → Int32))
def gad (S : gS) (k : Nat) : Nat := S.2.2.2 k
def gA (Γ : gC) : Nat → Prop := fun q => Γ.1 ≤ q
def gParts (j : Nat) : Int := match j with | 2 => 1 | 3 => 2 | 4 => 2 | 5 => 1 | 6 => 3 | 7 => 1 | _ => 0
def gStands (j : Nat) : Int := match j with | 3 => 3 | 4 => 2 | 5 => 1 | 6 => 4 | _ => 0
def gSigns : List Int32 := [40, 41, 91, 93, 43, 45, 42, 94, 63, 58]
def gTys (Γ : gC) : List (ClassId × FieldType) := [(Γ.2.2.1 0, .int), (Γ.2.2.1 1, .long), (Γ.2.2.1 2, .boolean), (Γ.2.2.1 3, .byte), (Γ.2.2.1 4, .object RX1), (Γ.2.2.1 5, .object RX6), (Γ.2.2.1 6, .array .int), (Γ.2.2.1 7, .array .long)]
def gObj (S : gS) (ci n : Nat) (r : Nat → Option Nat) (f : Nat → Int) : List Value := (List.range n).map (fun j => if gRef ci j = true then va_rf ((r j).map (gad S)) else .int (iv (f j)))
/-- what the place is on the heap -/
def gE (Γ : gC) (μ : gM) (k : Nat) : va_E :=
  if (μ.1.2.1 k).1 < 50 then .inr ((μ.1.2.1 k).1, gObj μ.1 (μ.1.2.1 k).1 (μ.1.2.1 k).2 (μ.1.2.2.1 k) (μ.2.1 k))
  else .inl (Γ.2.2.1 ((μ.1.2.1 k).1 - 100), (μ.1.2.1 k).2, if (μ.1.2.1 k).1 = 101 then .inr (.inl (μ.2.2 k)) else if (μ.1.2.1 k).1 < 104 then .inl (fun j => iv (μ.2.1 k j)) else .inr (.inr (.inr (.inr (fun j => (μ.1.2.2.1 k j).map (gad μ.1))))))
def gWl (Γ : gC) (μ : gM) : va_W := (List.range μ.1.1).map (fun k => (gad μ.1 k, gE Γ μ k))
theorem gWl_at {Γ : gC} {μ : gM} {k : Nat} (hk : k < μ.1.1) : (gWl Γ μ)[k]? = some (gad μ.1 k, gE Γ μ k) := by simp [gWl, hk]
theorem gWl_in {Γ : gC} {μ : gM} {k : Nat} {q : Nat × va_E} (h : (gWl Γ μ)[k]? = some q) : k < μ.1.1 ∧ q = (gad μ.1 k, gE Γ μ k) := by
  by_cases hk : k < μ.1.1
  · rw [gWl_at hk] at h
    exact ⟨hk, (Option.some.inj h).symm⟩
  · simp [gWl, hk] at h
theorem gWl_set {Γ : gC} {S : gS} {I I' : Nat → Nat → Int} {J J' : Nat → Nat → Int64} {k : Nat} (h : ∀ j, j ≠ k → gE Γ (S, I', J') j = gE Γ (S, I, J) j) : (gWl Γ (S, I, J)).set k (gad S k, gE Γ (S, I', J') k) = gWl Γ (S, I', J') := by
  apply List.ext_getElem?
  intro j
  rw [List.getElem?_set]
  by_cases hkj : k = j
  · subst hkj
    by_cases hk : k < S.1
    · rw [gWl_at (μ := (S, I', J')) hk]
      simp [gWl, hk]
    · simp [gWl, hk]
  · rw [if_neg hkj]
    by_cases hj : j < S.1
    · rw [gWl_at (μ := (S, I, J)) hj, gWl_at (μ := (S, I', J')) hj, h j (fun e => hkj e.symm)]
    · simp [gWl, hj]
theorem gE_obj {Γ : gC} {S : gS} {I : Nat → Nat → Int} {J : Nat → Nat → Int64} {k ci n : Nat} (h : S.2.1 k = (ci, n)) (hc : ci < 50) : gE Γ (S, I, J) k = .inr (ci, gObj S ci n (S.2.2.1 k) (I k)) := by
  unfold gE
  rw [if_pos (by rw [h]; exact hc), h]
theorem gE_int {Γ : gC} {S : gS} {I : Nat → Nat → Int} {J : Nat → Nat → Int64} {k n t : Nat} (h : S.2.1 k = (100 + t, n)) (ht : t = 0 ∨ t = 2 ∨ t = 3) : gE Γ (S, I, J) k = .inl (Γ.2.2.1 t, n, .inl (fun j => iv (I k j))) := by
  unfold gE
  rw [if_neg (by rw [h]; show ¬ 100 + t < 50; omega), if_neg (by rw [h]; show ¬ 100 + t = 101; omega), if_pos (by rw [h]; show 100 + t < 104; omega), h]
  show Sum.inl (Γ.2.2.1 (100 + t - 100), _) = _
  rw [show 100 + t - 100 = t by omega]
theorem gE_long {Γ : gC} {S : gS} {I : Nat → Nat → Int} {J : Nat → Nat → Int64} {k n : Nat} (h : S.2.1 k = (101, n)) : gE Γ (S, I, J) k = .inl (Γ.2.2.1 1, n, .inr (.inl (J k))) := by
  unfold gE
  rw [if_neg (by rw [h]; show ¬ 101 < 50; omega), if_pos (by rw [h]), h]
  rfl
theorem gE_refs {Γ : gC} {S : gS} {I : Nat → Nat → Int} {J : Nat → Nat → Int64} {k n t : Nat} (h : S.2.1 k = (100 + t, n)) (ht : 4 ≤ t) : gE Γ (S, I, J) k = .inl (Γ.2.2.1 t, n, .inr (.inr (.inr (.inr (fun j => (S.2.2.1 k j).map (gad S)))))) := by
  unfold gE
  rw [if_neg (by rw [h]; show ¬ 100 + t < 50; omega), if_neg (by rw [h]; show ¬ 100 + t = 101; omega), if_neg (by rw [h]; show ¬ 100 + t < 104; omega), h]
  show Sum.inl (Γ.2.2.1 (100 + t - 100), _) = _
  rw [show 100 + t - 100 = t by omega]
/-- an int is written; a long -/
def gu (I : Nat → Nat → Int) (k j : Nat) (x : Int) : Nat → Nat → Int := fun a b => if a = k ∧ b = j then x else I a b
def gv (J : Nat → Nat → Int64) (k j : Nat) (x : Int64) : Nat → Nat → Int64 := fun a b => if a = k ∧ b = j then x else J a b
/-- a row is written whole -/
def gur (I : Nat → Nat → Int) (k : Nat) (f : Nat → Int) : Nat → Nat → Int := fun a b => if a = k then f b else I a b
def gvr (J : Nat → Nat → Int64) (k : Nat) (f : Nat → Int64) : Nat → Nat → Int64 := fun a b => if a = k then f b else J a b
theorem gE_other {Γ : gC} {S : gS} {I I' : Nat → Nat → Int} {J J' : Nat → Nat → Int64} {a : Nat} (hI : I' a = I a) (hJ : J' a = J a) : gE Γ (S, I', J') a = gE Γ (S, I, J) a := by
  unfold gE
  dsimp only
  rw [hI, hJ]
theorem gu_other {I : Nat → Nat → Int} {k j : Nat} {x : Int} {a : Nat} (h : a ≠ k) : gu I k j x a = I a := by
  funext b
  simp [gu, h]
theorem gv_other {J : Nat → Nat → Int64} {k j : Nat} {x : Int64} {a : Nat} (h : a ≠ k) : gv J k j x a = J a := by
  funext b
  simp [gv, h]
theorem gur_other {I : Nat → Nat → Int} {k : Nat} {f : Nat → Int} {a : Nat} (h : a ≠ k) : gur I k f a = I a := by
  funext b
  simp [gur, h]
theorem gvr_other {J : Nat → Nat → Int64} {k : Nat} {f : Nat → Int64} {a : Nat} (h : a ≠ k) : gvr J k f a = J a := by
  funext b
  simp [gvr, h]
/-- what nobody writes: the tables, the text of signs, the links to nest mates, the script -/
def gNest : List Cond := [.methodLinkNest RX9 37 yX1_init RX9, .methodLinkNest RX9 44 yX0_init RX9, .methodLinkNest RX9 67 yX8_init RX9, .methodLinkNest RX9 74 yX4_init RX9, .methodLinkNest RX9 81 yX3_init RX9, .methodLinkNest RX9 88 yX2_init RX9, .methodLinkNest RX9 93 yX6_init RX9, .methodLinkNest RX5 77 yX9_isName RX9, .methodLinkNest RX1 34 yX9_isKind RX9, .methodLinkNest RX4 50 yX9_isKind RX9, .methodLinkNest RX3 102 yX8_valueOf RX9]
/-- what the tables say of arrays of arrays: which class lies in which -/
def gOv (U : State) (t : FieldType) : Prop := ∃ (comp c : ClassId) (k : Class), U.vm.findClass (FieldType.array t).toString = some comp ∧ U.vm.classes[c]? = some k ∧ k.kind = .array comp (.array t) ∧ U.vm.findClass ("[" ++ (FieldType.array t).toString) = some c
theorem gOv_moved {u U : State} {t : FieldType} (hvm : u.vm.Alike U.vm) (h : gOv u t) : gOv U t := by
  obtain ⟨comp, c, k, h1, h2, h3, h4⟩ := h
  obtain ⟨k', hk', he⟩ := hvm.2.2 _ _ h2
  exact ⟨comp, c, k', by rw [hvm.findClass]; exact h1, hk', by rw [he]; exact h3, by rw [hvm.findClass]; exact h4⟩
def gAOs (U : State) : Prop := va_AO "FormulaVisitors$Formula" U ∧ va_AO "FormulaVisitors$Sheet" U ∧ gOv U .int ∧ gOv U .long
theorem gAOs_moved {u U : State} (hvm : u.vm.Alike U.vm) (h : gAOs u) : gAOs U := ⟨h.1.moved hvm, h.2.1.moved hvm, gOv_moved hvm h.2.2.1, gOv_moved hvm h.2.2.2⟩
def gNestF : Cond := .fieldLinkNest RX1 37 RX9 "PARTS" "[I" RX9
def gZ (Γ : gC) (U : State) (H : Heap) : Prop :=
  va_Z RX9 "PARTS" "[I" (.ref Γ.2.2.2.1.1) (gA Γ) U H ∧ va_T .int Γ.2.2.2.1.1 8 (fun j => .int (iv (gParts j))) (gA Γ) U H ∧
  va_Z RX4 "STANDS" "[I" (.ref Γ.2.2.2.1.2.1) (gA Γ) U H ∧ va_T .int Γ.2.2.2.1.2.1 8 (fun j => .int (iv (gStands j))) (gA Γ) U H ∧
  va_Z RJ0 "COMPACT_STRINGS" "Z" (.int 1) (gA Γ) U H ∧ vk_R RX10 138 "()[]+-*^?:" Γ.2.2.2.1.2.2.1 U ∧
  vk_S 1 [10] [gSigns] (fun _ => Γ.2.2.2.1.2.2.1) (fun _ => Γ.2.2.2.1.2.2.2) (gA Γ) U H ∧
  va_X Γ.2.2.2.2.1 Γ.2.2.2.2.2.1 Γ.2.2.2.2.2.2 U H ∧ (∀ w ∈ gNest, va_Nw w U) ∧ va_Nw gNestF U ∧ Γ.2.2.2.2.1 < Γ.1 ∧ Γ.2.2.2.2.2.1 < 2147483648 ∧ gAOs U
theorem gZ_warm {Γ : gC} {s U : State} {H : Heap} (hW : s.WarmedH U.vm) (h : gZ Γ s H) : gZ Γ U H := by
  obtain ⟨h1, h2, h3, h4, h5, h6, h7, h8, h9, h10, h11⟩ := h
  refine ⟨va_Z.moved hW.alike h1, va_T.moved hW.alike h2, va_Z.moved hW.alike h3, va_T.moved hW.alike h4, va_Z.moved hW.alike h5, vk_R.warm hW h6, vk_S.moved hW.alike h7, va_X.moved hW.alike h8, fun w hw => ?_, va_Nw.warmF hW h10, h11.1, h11.2.1, gAOs_moved hW.alike h11.2.2⟩
  have h := h9 w hw
  simp only [gNest, List.mem_cons, List.not_mem_nil, or_false] at hw
  rcases hw with rfl | rfl | rfl | rfl | rfl | rfl | rfl | rfl | rfl | rfl | rfl <;> exact va_Nw.warmM hW h
theorem gZ_same {Γ : gC} {u U : State} {H : Heap} (hv : U.vm = u.vm) (h : gZ Γ u H) : gZ Γ U H := by
  obtain ⟨h1, h2, h3, h4, h5, h6, h7, h8, h9, h10, h11⟩ := h
  have ha : u.vm.Alike U.vm := by rw [hv]; exact Vm.Alike.refl _
  refine ⟨va_Z.moved ha h1, va_T.moved ha h2, va_Z.moved ha h3, va_T.moved ha h4, va_Z.moved ha h5, vk_R.same hv h6, vk_S.moved ha h7, va_X.moved ha h8, fun w hw => ?_, va_Nw.same rfl hv.symm h10, h11.1, h11.2.1, gAOs_moved ha h11.2.2⟩
  have h := h9 w hw
  simp only [gNest, List.mem_cons, List.not_mem_nil, or_false] at hw
  rcases hw with rfl | rfl | rfl | rfl | rfl | rfl | rfl | rfl | rfl | rfl | rfl <;> exact va_Nw.same rfl hv.symm h
theorem gZ_kept {Γ : gC} {U : State} {H H1 : Heap} (h : gZ Γ U H) (hq : ∀ a : Nat, a < H.size → ¬ gA Γ a → H1[a]? = H[a]?) : gZ Γ U H1 := by
  obtain ⟨h1, h2, h3, h4, h5, h6, h7, h8, h9, h10, h11, h12⟩ := h
  refine ⟨h1.kept hq, h2.kept hq, h3.kept hq, h4.kept hq, h5.kept hq, h6, h7.kept hq, h8.kept (hq _ ?_ (fun z => ?_)), h9, h10, h11, h12⟩
  · obtain ⟨scr, g1, -⟩ := h8
    exact (Array.getElem?_eq_some_iff.mp g1).1
  · have : Γ.1 ≤ Γ.2.2.2.2.1 := z
    omega
def gW (Γ : gC) (μ : gM) (U : State) (H : Heap) : Prop := va_K Γ.2.1 vwCl (gTys Γ) U ∧ va_P Γ.2.1 vwCl (gWl Γ μ) H ∧ va_D (gA Γ) (gWl Γ μ)
/-- room: frames, cells, slots in all; cells, slots that are used -/
abbrev gB : Type := Nat × Nat × Nat × Nat × Nat
def gX (Γ : gC) (mt : gY) (B : gB) (p : Program) (R : Room) (s : State) (m : MethodId) (args : Array Value) (meth : Method) (c : Code) : Prop :=
  p.tables.exec = Jvm.exec ∧ c.code = mt.2.1 ∧ c.maxLocals = mt.2.2.1 ∧ s.vm.findClass mt.1.cls = some m.cls ∧ (∀ w ∈ WT, w.before args s = true) ∧ meth.name = mt.1.name ∧ gZ Γ s s.heap ∧
  (B.1 ≤ R.frames ∧ 41 * B.1 ≤ R.locals ∧ B.2.1 ≤ R.cells ∧ B.2.2.1 ≤ R.slots)
/-- a return that fits -/
def gIsR (ret : Option FieldType) (r : Option Value) (i : Instr) : Prop :=
  (r = none ∧ ret = none ∧ i = .return_) ∨ (∃ v ty, r = some (.int v) ∧ ret = some ty ∧ narrow ty (.int v) = .int v ∧ i = .ireturn) ∨ (∃ v, r = some (.long v) ∧ ret = some .long ∧ i = .lreturn)
def gRet (l : Launch) (Γ : gC) (mt : gY) (B : gB) (Q : Option Value → gM → Prop) (p : Program) (e : Env) (R : Room) (s : State) (m : MethodId) (args : Array Value) (below : List Frame) (meth : Method) (c : Code) (Zf : State → Prop) : Prop :=
  ∀ (r : Option Value) (μ : gM) (H : Heap) (locs : List Loc) (pc : Nat) (lr : Array Slot) (i : Instr), Q r μ → gW Γ μ s H → va_S (gA Γ) s.heap H locs → decode mt.2.1 pc = .ok (i, 1) → gIsR mt.2.2.2 r i →
    W p l e R s m args below meth c H locs B.2.1 B.2.2.1 Zf (F0 m pc lr r.toList)
def gG (l : Launch) (Γ : gC) (mt : gY) (B : gB) (pc : Nat) (ls : List (Nat × Value)) (st : List Value) (μ : gM) (Q : Option Value → gM → Prop) : Prop :=
  ∀ (p : Program) (e : Env) (R : Room) (s : State) (m : MethodId) (args : Array Value) (below : List Frame) (meth : Method) (c : Code) (Zf : State → Prop) (H : Heap) (locs : List Loc) (lr : Array Slot),
    gX Γ mt B p R s m args meth c → gRet l Γ mt B Q p e R s m args below meth c Zf → gW Γ μ s H → va_S (gA Γ) s.heap H locs → lv_has lr mt.2.2.1 ls →
    W p l e R s m args below meth c H locs B.2.2.2.1 B.2.2.2.2 Zf (F0 m pc lr st)
