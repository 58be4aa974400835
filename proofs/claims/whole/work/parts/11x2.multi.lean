/-! new T[N][M]: an array and the rows in it, all at once -/
def gmO (cA : ClassId) (N b i : Nat) : Cell := arrV cA N (fun j => va_rf (if j < i then some (b + 1 + j) else none))
/-- the heap's state when i rows are made -/
def gmS (s : State) (cA comp : ClassId) (N M : Nat) (x : Value) : Nat → State
  | 0 => s.pushCell (gmO cA N s.heap.size 0)
  | i + 1 => ((gmS s cA comp N M x i).pushCell (arrV comp M (fun _ => x))).setCell s.heap.size (gmO cA N s.heap.size (i + 1))
theorem gmO_size {cA : ClassId} {N b i : Nat} : (gmO cA N b i).slots.size = N := arrV_size _ _ _
theorem gmO_next {cA : ClassId} {N b i : Nat} : (gmO cA N b i).setSlot i (.ref (b + 1 + i)) = gmO cA N b (i + 1) := by
  unfold gmO
  rw [arrV_store]
  refine congrArg (arrV cA N) (funext fun j => ?_)
  by_cases h : j = i
  · subst h
    simp [updV, va_rf]
  · by_cases h2 : j < i
    · simp [updV, h, h2, Nat.lt_succ_of_lt h2]
    · simp [updV, h, h2, show ¬ j < i + 1 by omega]
theorem gmS_is (s : State) (cA comp : ClassId) (N M : Nat) (x : Value) : ∀ i, (gmS s cA comp N M x i).heap.size = s.heap.size + 1 + i ∧ (gmS s cA comp N M x i).heap[s.heap.size]? = some (gmO cA N s.heap.size i) ∧
    (gmS s cA comp N M x i).vm = s.vm ∧ (gmS s cA comp N M x i).slotsUsed = s.slotsUsed + N + i * M ∧ (∀ a : Nat, a < s.heap.size → (gmS s cA comp N M x i).heap[a]? = s.heap[a]?) ∧ ∀ j, j < i → (gmS s cA comp N M x i).heap[s.heap.size + 1 + j]? = some (arrV comp M (fun _ => x))
  | 0 => ⟨by simp [gmS], by simp [gmS], rfl, by simp [gmS, gmO_size], fun a ha => State.heap_pushCell_of_lt _ _ ha, fun j hj => absurd hj (Nat.not_lt_zero _)⟩
  | i + 1 => by
    obtain ⟨h1, h2, h3, h4, h5, h6⟩ := gmS_is s cA comp N M x i
    have hl : s.heap.size < (gmS s cA comp N M x i).heap.size := by omega
    have h7 : ((gmS s cA comp N M x i).pushCell (arrV comp M (fun _ => x))).heap[s.heap.size]? = some (gmO cA N s.heap.size i) := by rw [State.heap_pushCell_of_lt (h := hl)]; exact h2
    refine ⟨?_, State.heap_setCell_self h7, by simp [gmS, h3], ?_, fun a ha => ?_, fun j hj => ?_⟩
    · simp [gmS, State.setCell, h1]
      omega
    · simp [gmS, h4, arrV_size, Nat.succ_mul]
      omega
    · show (((gmS s cA comp N M x i).pushCell _).setCell s.heap.size _).heap[a]? = _
      have hl2 : a < (gmS s cA comp N M x i).heap.size := by omega
      rw [State.heap_setCell_other (Nat.ne_of_gt ha), State.heap_pushCell_of_lt (h := hl2)]
      exact h5 a ha
    · show (((gmS s cA comp N M x i).pushCell _).setCell s.heap.size _).heap[s.heap.size + 1 + j]? = _
      rw [State.heap_setCell_other (show s.heap.size ≠ s.heap.size + 1 + j by omega)]
      by_cases hji : j < i
      · have hl2 : s.heap.size + 1 + j < (gmS s cA comp N M x i).heap.size := by omega
        rw [State.heap_pushCell_of_lt (h := hl2)]
        exact h6 j hji
      · rw [show s.heap.size + 1 + j = (gmS s cA comp N M x i).heap.size by omega]
        exact State.heap_pushCell_size _ _
theorem gmS_top (s : State) (f : JFrame) (cA comp : ClassId) (N M : Nat) (x : Value) : ∀ i, gmS (s.setTop f) cA comp N M x i = (gmS s cA comp N M x i).setTop f
  | 0 => rfl
  | i + 1 => by simp only [gmS, gmS_top s f cA comp N M x i, State.heap_setTop, State.pushCell_setTop, State.setCell_setTop]
theorem gm_fits {t : FieldType} (h : t.isReference = true) (a : Option Nat) : fits t (va_rf a) = true := by
  cases a with
  | none => cases t <;> first | (simp [FieldType.isReference] at h; done) | rfl
  | some a => exact (gfits_ref h).1
section GMN
variable {p : Program} {l : Launch} {e : Env} {R : Room} {s : State} {m : MethodId} {args : Array Value} {below : List Frame} {meth : Method} {c : Code} {T : State} {H : Heap} {locs : List Loc} {cells slots : Nat} {Zf : State → Prop}
theorem gm_stand (X : Stand p l e R s m args below meth c T locs cells slots) (cA comp : ClassId) (N M : Nat) (x : Value) : ∀ i, Stand p l e R s m args below meth c (gmS T cA comp N M x i) locs (cells + 1 + i) (slots + N + i * M)
  | 0 => by
    have h := X.pushed (gmO cA N T.heap.size 0)
    rw [gmO_size] at h
    simpa [gmS] using h
  | i + 1 => by
    have h0 := gm_stand X cA comp N M x i
    obtain ⟨h1, h2, -, -, -, -⟩ := gmS_is T cA comp N M x i
    have hl2 : T.heap.size < (gmS T cA comp N M x i).heap.size := by omega
    have h7 : ((gmS T cA comp N M x i).pushCell (arrV comp M (fun _ => x))).heap[T.heap.size]? = some (gmO cA N T.heap.size i) := by rw [State.heap_pushCell_of_lt (h := hl2)]; exact h2
    have h := ((h0.pushed (arrV comp M (fun _ => x))).stored h7 i (.ref (T.heap.size + 1 + i))).dropFresh (fun q hq => by
      rw [List.mem_singleton.mp hq]
      exact X.heapGrown)
    rw [arrV_size, gmO_next] at h
    have e3 : slots + N + (i + 1) * M = slots + N + i * M + M := by rw [Nat.succ_mul]; omega
    rw [e3]
    exact h
end GMN
section GMW
variable {E : CtlPost} {e : Env} {d : Bool} {acts : List Action} {s : State}
/-- what the model does -/
theorem gm_make {c comp cc : ClassId} {k kc : Class} {t0 ty : FieldType} {n m : Int32} (hk : s.vm.classes[c]? = some k) (hkind : k.kind = .array comp t0) (href : t0.isReference = true) (hkc : s.vm.classes[comp]? = some kc) (hkindc : kc.kind = .array cc ty) (hn : ¬ n < 0) (hm : ¬ m < 0)
    (hl1 : ¬ n.toNatClampNeg > e.platform.arrayLengthLimit) (hh1 : ¬ n.toNatClampNeg * componentBytes t0 > e.platform.maxHeapBytes) (hl2 : ¬ m.toNatClampNeg > e.platform.arrayLengthLimit) (hh2 : ¬ m.toNatClampNeg * componentBytes ty > e.platform.maxHeapBytes)
    (hdf : fits ty (defaultValue ty) = true) (hc : s.heap.size + 1 + n.toNatClampNeg ≤ e.platform.maxCells) (hs : s.slotsUsed + n.toNatClampNeg + n.toNatClampNeg * m.toNatClampNeg ≤ e.platform.maxSlots)
    {Q : Addr → Pre} (hq : ∀ d' acts', Q s.heap.size d' acts' (gmS s c comp n.toNatClampNeg m.toNatClampNeg (defaultValue ty) n.toNatClampNeg)) : wp (Jvm.Op.multianewarray.make c [n, m]) Q E e d acts s := by
  have hfind : ([m].find? (· < 0)) = none := by simp [hm]
  have hmul : ∀ i : Nat, i < n.toNatClampNeg → i * m.toNatClampNeg + m.toNatClampNeg ≤ n.toNatClampNeg * m.toNatClampNeg := fun i hi => by
    have := Nat.mul_le_mul_right m.toNatClampNeg (show i + 1 ≤ n.toNatClampNeg from hi)
    rw [Nat.succ_mul] at this
    exact this
  rw [Jvm.Op.multianewarray.make]
  simp only [wp_bind', W.ite, hn, if_false, wp_pure', W.theClass, hk, hkind, Option.some.injEq, exists_eq_left']
  refine W.newArray_of hk hkind hl1 hh1 (by omega) (by omega) (gm_fits href none) (fun acts1 => ?_)
  simp only [hfind]
  rw [ite_self, wp_bind', Std.Legacy.Range.forIn_eq_forIn_range']
  have hsz : ([:n.toNatClampNeg] : Std.Legacy.Range).size = n.toNatClampNeg := by simp [Std.Legacy.Range.size]
  rw [hsz]
  have h0 : s.pushCell { cls := c, slots := Array.replicate n.toNatClampNeg .null } = gmS s c comp n.toNatClampNeg m.toNatClampNeg (defaultValue ty) 0 := by
    show _ = s.pushCell (gmO _ _ _ 0)
    unfold gmO
    have := arrV_new c n.toNatClampNeg .null
    simp only [Nat.not_lt_zero, if_false]
    exact congrArg s.pushCell this
  show wp (forIn (List.range' 0 n.toNatClampNeg 1) PUnit.unit _) _ E e d acts1 _
  refine wp_forIn_inv (fun rest s' => ∃ i, i ≤ n.toNatClampNeg ∧ rest = List.range' i (n.toNatClampNeg - i) ∧ s' = gmS s c comp n.toNatClampNeg m.toNatClampNeg (defaultValue ty) i) _ _ ⟨0, Nat.zero_le _, rfl, h0⟩ ?_ ?_
  · rintro y rest s' d' acts' Q' ⟨i, hi, hl, rfl⟩ hnext
    have hlt : i < n.toNatClampNeg := by
      rcases Nat.lt_or_ge i n.toNatClampNeg with h | h
      · exact h
      · rw [show n.toNatClampNeg - i = 0 by omega] at hl
        simp at hl
    obtain ⟨rfl, hrest⟩ : y = i ∧ rest = List.range' (i + 1) (n.toNatClampNeg - (i + 1)) := by
      rw [show n.toNatClampNeg - i = (n.toNatClampNeg - (i + 1)) + 1 by omega, List.range'_succ] at hl
      exact ⟨(List.cons.inj hl).1, (List.cons.inj hl).2⟩
    obtain ⟨f1, f2, f3, f4, -, -⟩ := gmS_is s c comp n.toNatClampNeg m.toNatClampNeg (defaultValue ty) y
    have hm9 := hmul y hlt
    simp only [wp_bind']
    rw [Jvm.Op.multianewarray.make]
    simp only [wp_bind', W.ite, hm, if_false, wp_pure', W.theClass, f3, hkc, hkindc, Option.some.injEq, exists_eq_left']
    refine W.newArray_of (by rw [f3]; exact hkc) hkindc hl2 hh2 (by omega) (by omega) hdf (fun acts2 => ?_)
    have hnew : ({ cls := comp, slots := Array.replicate m.toNatClampNeg (defaultValue ty) } : Cell) = arrV comp m.toNatClampNeg (fun _ => defaultValue ty) := arrV_new comp m.toNatClampNeg (defaultValue ty)
    rw [hnew]
    simp only [wp_bind', W.writeLoc, wp_pure']
    have hl9 : s.heap.size < (gmS s c comp n.toNatClampNeg m.toNatClampNeg (defaultValue ty) y).heap.size := by omega
    refine ⟨gmO c n.toNatClampNeg s.heap.size y, by rw [State.heap_pushCell_of_lt (h := hl9)]; exact f2, by simp [gmO, arrV], by rw [gmO_size]; exact hlt, ?_, hnext _ _ _ ⟨y + 1, hlt, hrest, ?_⟩⟩
    · have hv := gm_fits href (some (gmS s c comp n.toNatClampNeg m.toNatClampNeg (defaultValue ty) y).heap.size)
      simp only [va_rf] at hv
      simp [gmO, arrV, State.fitsSlot, State.slotType?, f3, hk, hkind, hv]
    · rw [f1, gmO_next]
      rfl
  · rintro s' d' acts' ⟨i, hi, hl, rfl⟩
    have hiN : i = n.toNatClampNeg := by
      rcases Nat.lt_or_ge i n.toNatClampNeg with h | h
      · rw [show n.toNatClampNeg - i = (n.toNatClampNeg - (i + 1)) + 1 by omega, List.range'_succ] at hl
        cases hl
      · omega
    subst hiN
    simp only [wp_pure']
    exact hq _ _
end GMW
section GMX
variable {p : Program} {l : Launch} {e : Env} {R : Room} {s : State} {m : MethodId} {args : Array Value} {below : List Frame} {meth : Method} {c : Code} {H : Heap} {locs : List Loc} {cells slots : Nat} {Zf : State → Prop} {cc : ByteArray} {pc : Nat} {ls : Array Slot} {rest : List Value}
/-- the machine's step -/
theorem gm_step (hexec : p.tables.exec = Jvm.exec) (hb : c.code = cc) {own : String} {index : Nat} {ty : FieldType} (hown : s.vm.findClass own = some m.cls) (hclink : (Cond.classLink own index ("[" ++ (FieldType.array ty).toString)).before args s = true) (hover : gOv s ty) (harr : (Cond.arrayClass ty).before args s = true)
    (hdg : decode cc pc = .ok (.multianewarray index 2, 4)) {n k : Int32} (hn : ¬ n < 0) (hk : ¬ k < 0) (hb1 : n.toNatClampNeg * 4 ≤ 536870912) (hb2 : k.toNatClampNeg * componentBytes ty ≤ 536870912) (hb3 : k.toNatClampNeg ≤ 536870912) (hdf : fits ty (defaultValue ty) = true)
    (hcells : cells + (1 + n.toNatClampNeg) ≤ R.cells) (hslots : slots + (n.toNatClampNeg + n.toNatClampNeg * k.toNatClampNeg) ≤ R.slots)
    (kk : ∀ (cA comp : ClassId) (H1 : Heap), s.vm.findClass ("[" ++ (FieldType.array ty).toString) = some cA → s.vm.findClass (FieldType.array ty).toString = some comp → H1.size = H.size + 1 + n.toNatClampNeg → H1[H.size]? = some (gmO cA n.toNatClampNeg H.size n.toNatClampNeg) → (∀ a : Nat, a < H.size → H1[a]? = H[a]?) → (∀ j : Nat, j < n.toNatClampNeg → H1[H.size + 1 + j]? = some (arrV comp k.toNatClampNeg (fun _ => defaultValue ty))) →
      W p l e R s m args below meth c H1 locs (cells + 1 + n.toNatClampNeg) (slots + n.toNatClampNeg + n.toNatClampNeg * k.toNatClampNeg) Zf (F0 m (pc + 4) ls (.ref H.size :: rest))) : W p l e R s m args below meth c H locs cells slots Zf (F0 m pc ls (.int k :: .int n :: rest)) := by
  intro T hT X
  subst hT; subst hb
  have hpl : e.platform.magicAccessors = ({} : Platform).magicAccessors := by rw [X.admits.platform]
  obtain ⟨comp, cA, kA, hcomp, hkA, hkindA, hnameA⟩ := hover
  obtain ⟨comp', kC, cc0, hcomp', hkC, hkindC⟩ := Cond.arrayClass_spec harr
  have ecomp : comp' = comp := Option.some.inj (hcomp'.symm.trans hcomp)
  subst ecomp
  obtain ⟨c0, hfc0, hcl⟩ := Cond.classLink_spec hown hclink e.platform hpl
  cases hnameA.symm.trans hfc0
  obtain ⟨hg₁, hwarm₁, hready₁⟩ := State.classEntry (e := e) X.warmed hcl
  generalize T.vm.noted m.cls index (.cls cA) = vm₁ at hg₁ hwarm₁ hready₁
  have hal : s.vm.Alike vm₁ := hwarm₁.alike
  obtain ⟨kA₁, hkA₁, heA⟩ := hal.2.2 _ _ hkA
  obtain ⟨kC₁, hkC₁, heC⟩ := hal.2.2 _ _ hkC
  have hkindA₁ : kA₁.kind = .array comp' (.array ty) := by rw [heA]; exact hkindA
  have hkindC₁ : kC₁.kind = .array cc0 ty := by rw [heC]; exact hkindC
  have X₁ := X.noted hwarm₁
  obtain ⟨hr1, hr2⟩ := X.roomAbove hcells hslots
  have hl1 : ¬ n.toNatClampNeg > e.platform.arrayLengthLimit := by rw [Launch.admits_arrayLengthLimit X.admits]; omega
  have hh1 : ¬ n.toNatClampNeg * componentBytes (.array ty) > e.platform.maxHeapBytes := by
    rw [Launch.admits_maxHeapBytes X.admits]
    show ¬ n.toNatClampNeg * 4 > 536870912
    omega
  have hl2 : ¬ k.toNatClampNeg > e.platform.arrayLengthLimit := by rw [Launch.admits_arrayLengthLimit X.admits]; omega
  have hh2 : ¬ k.toNatClampNeg * componentBytes ty > e.platform.maxHeapBytes := by rw [Launch.admits_maxHeapBytes X.admits]; omega
  have XF := gm_stand X₁ cA comp' n.toNatClampNeg k.toNatClampNeg (defaultValue ty) n.toNatClampNeg
  obtain ⟨f1, f2, -, -, f5, f6⟩ := gmS_is (T.setVm vm₁) cA comp' n.toNatClampNeg k.toNatClampNeg (defaultValue ty) n.toNatClampNeg
  obtain ⟨t, a1, b1⟩ := kk cA comp' _ hnameA hcomp f1 f2 f5 f6 _ rfl XF
  refine ⟨t, ?_, b1⟩
  jvm_step X.here [hexec, hdg]
  simp only [Jvm.Op.multianewarray.sem, wp_bind', W.resolveClassAt_links (State.method?_setTop (F0 m pc ls (.int k :: .int n :: rest)) X.here.top) hg₁]
  rw [W.popN, if_neg (by decide)]
  refine ⟨F0 m pc ls (.int k :: .int n :: rest), State.topJava?_setTop' (s := T.setVm vm₁) (F0 m pc ls (.int k :: .int n :: rest)) X.here.top, [.int n, .int k], rest, rfl, rfl, ?_⟩
  simp only [List.mapM_cons, List.mapM_nil, wp_bind', wp_pure']
  refine gm_make (k := kA₁) (kc := kC₁) (comp := comp') (cc := cc0) (t0 := .array ty) (ty := ty) hkA₁ hkindA₁ rfl hkC₁ hkindC₁ hn hk hl1 hh1 hl2 hh2 hdf (by show T.heap.size + 1 + _ ≤ _; omega) (by show T.slotsUsed + _ + _ ≤ _; omega) (fun d' acts' => ?_)
  have eS : ((T.setTop (F0 m pc ls (.int k :: .int n :: rest))).setVm vm₁).setTop { F0 m pc ls (.int k :: .int n :: rest) with stack := rest } = (T.setVm vm₁).setTop { F0 m pc ls (.int k :: .int n :: rest) with stack := rest } := by
    show ((T.setVm vm₁).setTop _).setTop _ = _
    rw [State.setTop_setTop]
  rw [eS, gmS_top]
  simp only [wp_bind', W.mark, W.pushRef, State.topJava?_setTop' _ XF.here.top, Option.some.injEq, exists_eq_left', State.setTop_setTop, State.heap_setTop]
  intro acts
  simp [jvm, XF.here.top]
  exact a1
end GMX
/-- the reference's names for the rows of a new array of arrays -/
def gnmR (rf : Nat → Nat → Option Nat) (n N : Nat) : Nat → Nat → Option Nat := fun a b => if a = n ∧ b < N then some (n + 1 + b) else rf a b
theorem gNew_multi {n N : Nat} {rf : Nat → Nat → Option Nat} {I : Nat → Nat → Int} {J : Nat → Nat → Int64} (h : gNew n rf I J) (hN : N ≤ 40) : gNew (n + 1 + N) (gnmR rf n N) I J := by
  refine ⟨fun a b w e => ?_, fun a ha b => ?_⟩
  · unfold gnmR at e
    by_cases c : a = n ∧ b < N
    · rw [if_pos c] at e
      cases e
      exact ⟨by omega, by omega⟩
    · rw [if_neg c] at e
      have := h.1 a b w e
      exact ⟨by omega, this.2⟩
  · have c : ¬ (a = n ∧ b < N) := by omega
    refine ⟨?_, (h.2 a (by omega) b).2⟩
    show (if a = n ∧ b < N then some (n + 1 + b) else rf a b) = none
    rw [if_neg c]
    exact (h.2 a (by omega) b).1
theorem gg_multi {l : Launch} {Γ : gC} {mt : gY} {B : gB} {pc : Nat} {ls : List (Nat × Value)} {st : List Value} {n N M t t0 idx : Nat} {sh : Nat → Nat × Nat} {rf : Nat → Nat → Option Nat} {ad : Nat → Nat} {I : Nat → Nat → Int} {J : Nat → Nat → Int64} {Q : Option Value → gM → Prop} {own : String} {ty : FieldType} {z : (Nat → Int32) ⊕ ((Nat → Int64) ⊕ ((Nat → UInt32) ⊕ ((Nat → UInt64) ⊕ (Nat → Option Nat))))}
    (ho : mt.1.cls = own) (hlk : Cond.classLink own idx ("[" ++ (FieldType.array ty).toString) ∈ WT) (hov : ∀ U, gAOs U → gOv U ty) (hty : (gTys Γ)[t]? = some (Γ.2.2.1 t, .array ty)) (hty0 : (gTys Γ)[t0]? = some (Γ.2.2.1 t0, ty)) (hra : ∀ s cA, va_RA s cA ty → s.vm.findClass (FieldType.array ty).toString = some cA) (hra2 : ∀ s cA, va_RA s cA (.array ty) → s.vm.findClass ("[" ++ (FieldType.array ty).toString) = some cA) (hw : Cond.arrayClass ty ∈ WT) (hdf : fits ty (defaultValue ty) = true) (hcb : componentBytes ty ≤ 8)
    (hs : sh n = (100 + t, N)) (ht : 4 ≤ t) (hz : ∀ cA : ClassId, vp_cell cA (M, z) = arrV cA M (fun _ => defaultValue ty)) (hE : ∀ ad' j, j < N → gE Γ ((n + 1 + N, sh, gnmR rf n N, ad'), I, J) (n + 1 + j) = .inl (Γ.2.2.1 t0, M, z))
    (d : decode mt.2.1 pc = .ok (.multianewarray idx 2, 4)) (hn : 0 < n) (hg : gNew n rf I J) (hN : N ≤ 10000 ∧ M ≤ 10000) (hc : B.2.2.2.1 + (1 + N) ≤ B.2.1) (hsl : B.2.2.2.2 + (N + N * M) ≤ B.2.2.1)
    (kk : ∀ ad' : Nat → Nat, (∀ k, k < n → ad' k = ad k) → gG l Γ mt (B.1, B.2.1, B.2.2.1, B.2.2.2.1 + 1 + N, B.2.2.2.2 + N + N * M) (pc + 4) ls (.ref (ad' n) :: st) ((n + 1 + N, sh, gnmR rf n N, ad'), I, J) Q) :
    gG l Γ mt B pc ls (.int (iv (M : Int)) :: .int (iv (N : Int)) :: st) ((n, sh, rf, ad), I, J) Q := fun p e R s m args below meth c Zf H locs lr X hR hW hS hl => by
  obtain ⟨x1, x2, x3, x4, x5, x6, x7, x8, x9, x10, x11⟩ := id X
  obtain ⟨-, -, -, -, -, -, -, -, -, -, -, -, z13⟩ := id x7
  have hNn := gnat (n := N) (by omega)
  have hMn := gnat (n := M) (by omega)
  have hbM : M * componentBytes ty ≤ 536870912 := Nat.le_trans (Nat.mul_le_mul_left M hcb) (by omega)
  refine gm_step (own := own) (ty := ty) x1 x2 (by rw [← ho]; exact x4) (x5 _ hlk) (hov _ z13) (x5 _ hw) d hNn.1 hMn.1 (by rw [hNn.2]; omega) (by rw [hMn.2]; exact hbM) (by rw [hMn.2]; omega) hdf (by rw [hNn.2]; omega) (by rw [hNn.2, hMn.2]; omega) (fun cA comp H1 e1 e2 z1 z2 z3 z4 => ?_)
  rw [hNn.2] at z1 z2 z4
  rw [hMn.2] at z4
  rw [hNn.2, hMn.2]
  have hcA : cA = Γ.2.2.1 t := Option.some.inj (e1.symm.trans (hra2 _ _ (hW.1.2 t _ hty).2))
  have hcomp : comp = Γ.2.2.1 t0 := Option.some.inj (e2.symm.trans (hra _ _ (hW.1.2 t0 _ hty0).2))
  subst hcA
  subst hcomp
  have ea : ∀ k, k < n → (fun k => if k < n then ad k else H.size + (k - n)) k = ad k := fun k hk => if_pos hk
  have en : ∀ k, n ≤ k → (fun k => if k < n then ad k else H.size + (k - n)) k = H.size + (k - n) := fun k hk => if_neg (by omega)
  generalize (fun k => if k < n then ad k else H.size + (k - n)) = ad' at ea en
  have eN := en n (Nat.le_refl _)
  rw [Nat.sub_self, Nat.add_zero] at eN
  have hlt : ∀ k, k < n → ad k < H.size := fun k hk => (hW.2.1 k _ (gWl_at (μ := ((n, sh, rf, ad), I, J)) hk)).lt
  have hrow : ∀ k, k < n → gE Γ ((n + 1 + N, sh, gnmR rf n N, ad'), I, J) k = gE Γ ((n, sh, rf, ad), I, J) k := fun k hk => by
    have h1 : gE Γ ((n + 1 + N, sh, gnmR rf n N, ad'), I, J) k = gE Γ ((n + 1 + N, sh, rf, ad'), I, J) k := gE_rf (by
      funext b
      show (if k = n ∧ b < N then some (n + 1 + b) else rf k b) = rf k b
      rw [if_neg (by omega)])
    rw [h1]
    exact gE_ad (fun j v q => ea v (hg.1 k j v q).1)
  have hk2 := kk ad' ea p e R s m args below meth c Zf H1 locs lr X hR ⟨hW.1, fun k q hq => ?_, ⟨fun i j x y hi hj hxy => ?_, fun k q hq => ?_⟩⟩ ⟨by have := hS.1; omega, fun q h1 h2 => (z3 q (Nat.lt_of_lt_of_le h1 hS.1)).trans (hS.2.1 q h1 h2), hS.2.2⟩ hl
  · rw [eN] at hk2
    exact hk2
  · obtain ⟨hk, rfl⟩ := gWl_in hq
    have hk : k < n + 1 + N := hk
    by_cases h1 : k < n
    · show va_at _ _ (ad' k, gE Γ ((n + 1 + N, sh, gnmR rf n N, ad'), I, J) k) H1
      rw [hrow k h1, ea k h1]
      exact (hW.2.1 k _ (gWl_at (μ := ((n, sh, rf, ad), I, J)) h1)).kept (z3 _ (hlt k h1))
    · show va_at _ _ (ad' k, gE Γ ((n + 1 + N, sh, gnmR rf n N, ad'), I, J) k) H1
      rw [en k (by omega)]
      by_cases h2 : k = n
      · subst h2
        rw [gE_refs (S := (k + 1 + N, sh, gnmR rf k N, ad')) hs ht, Nat.sub_self, Nat.add_zero]
        show H1[H.size]? = some (vp_cell _ _)
        rw [z2, vp_cell_q]
        unfold gmO
        congr 2
        funext b
        show va_rf _ = va_rf ((if k = k ∧ b < N then some (k + 1 + b) else rf k b).map ad')
        by_cases hb : b < N
        · rw [if_pos hb, if_pos ⟨rfl, hb⟩]
          show va_rf _ = va_rf (some (ad' (k + 1 + b)))
          rw [en _ (by omega), show H.size + (k + 1 + b - k) = H.size + 1 + b by omega]
        · rw [if_neg hb, if_neg (fun q => hb q.2), (hg.2 k (Nat.le_refl _) b).1]
          rfl
      · obtain ⟨j, rfl⟩ : ∃ j, k = n + 1 + j := ⟨k - (n + 1), by omega⟩
        rw [hE _ j (by omega), show H.size + (n + 1 + j - n) = H.size + 1 + j by omega]
        show H1[H.size + 1 + j]? = some (vp_cell _ _)
        rw [hz]
        exact z4 j (by omega)
  · obtain ⟨hi1, rfl⟩ := gWl_in hi
    obtain ⟨hj1, rfl⟩ := gWl_in hj
    have hxy : ad' i = ad' j := hxy
    by_cases h1 : i < n <;> by_cases h2 : j < n
    · rw [ea i h1, ea j h2] at hxy
      exact hW.2.2.1 i j _ _ (gWl_at (μ := ((n, sh, rf, ad), I, J)) h1) (gWl_at (μ := ((n, sh, rf, ad), I, J)) h2) hxy
    · rw [ea i h1, en j (by omega)] at hxy
      have := hlt i h1
      omega
    · rw [en i (by omega), ea j h2] at hxy
      have := hlt j h2
      omega
    · rw [en i (by omega), en j (by omega)] at hxy
      omega
  · obtain ⟨hk, rfl⟩ := gWl_in hq
    by_cases h1 : k < n
    · show gA Γ (ad' k)
      rw [ea k h1]
      exact hW.2.2.2 k _ (gWl_at (μ := ((n, sh, rf, ad), I, J)) h1)
    · show gA Γ (ad' k)
      rw [en k (by omega)]
      exact gA_new hW hn _ (by omega)
