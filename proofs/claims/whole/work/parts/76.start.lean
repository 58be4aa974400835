/-! THE CLAIM OUT OF ONE WALK OF THE LAW'S BODY. Your part is whole_start (and what it stands on); all else here is the same for every law, but numbers. -/
def R_law : String := "FormulaVisitorsLaw"
def lw_P (b : Addr) (xs : List Int32) (args : Array Value) (s : State) : Prop := args = #[.ref b] ∧ s.IntsAt b xs ∧ xs.length ≤ 3584 ∧ (Jvm.Cond.and given_1 narrow_1).before args s = true
def lw_Q (_ : Array Value) (s : State) (o : Outcome) (t : State) : Prop := o = .returned (some (.int 1)) ∧ Framed s o t [] 600000 7302250
def lw_Z (below : List Frame) (a : Array Value) (s : State) : State → Prop := fun t => ∃ o, t.status = .running ∧ Ended t below o ∧ lw_Q a s o t
/-- the law's own end, with 1 on the stack, nothing written that was there before, its room as the claim has it -/
theorem lw_ret {p : Program} {l : Launch} {e : Env} {s : State} {m : MethodId} {below : List Frame} {meth : Method} {c : Code} {b : Nat} (hx : p.tables.exec = Jvm.exec) (hb : c.code = code) (hr : meth.sig.returnType = ret) (hlocks : meth.locks = false) {pc : Nat} {H : Heap} {ls : Array Slot} (hdg : decode code pc = .ok (.ireturn, 1)) : W p l e room_1 s m #[Value.ref b] below meth c H [] 600000 7302250 (lw_Z below #[Value.ref b] s) (F0 m pc ls [.int 1]) := by
  intro T hT X
  obtain ⟨fs, hret, hrun, hended, hW, hframe⟩ := X.leave (v := some (.int 1)) (hlocks := hlocks) (fun h => by rw [hr] at h; cases h)
  have hmeth' : T.vm.method? m = some meth := X.method'
  refine ⟨T.setFrames fs, ?_, .returned (some (.int 1)), hrun, hended, rfl, ⟨_, rfl⟩, hW, hframe⟩
  jvm_step X.here [X.here.top, hx, hb, hdg, hmeth', hr, ret, narrow_b1]
  (try refine ⟨rfl, ?_⟩); (try refine ⟨rfl, ?_⟩)
  first | (intro acts; rw [hret _ acts rfl rfl rfl]) | rw [hret _ _ rfl rfl rfl]
  exact Steps.refl _
/-- what holds at the law's entry: the machine, the code, the tables' words (any of lw_tbl by 'hts w (by decide +kernel)'), the script of L ints xs at the cell b, what the Statement gives of the start (any of its parts by flat_of_before) -/
def lw_At (p : Program) (s : State) (m : MethodId) (meth : Method) (c : Code) (b L : Nat) (xs : Nat → Int32) : Prop :=
  p.tables.exec = Jvm.exec ∧ c.code = code ∧ meth.sig.returnType = ret ∧ c.maxLocals = 4 ∧ s.vm.findClass R_law = some m.cls ∧ (∀ w ∈ lw_tbl, w.before #[Value.ref b] s = true) ∧ va_X b L xs s s.heap ∧ b < s.heap.size ∧ meth.locks = false ∧ (Jvm.Cond.and given_1 narrow_1).before #[Value.ref b] s = true
/-! the law's start: what the tables and the statement give -/
theorem gmw {s : State} {A : Array Value} (hts : ∀ w ∈ lw_tbl, w.before A s = true) {w : Cond} (i : Nat) (h : lw_tbl[i]? = some w) : w.before A s = true := hts w (List.mem_of_getElem? h)
theorem gi_all : ∀ k, k < 11 → ∃ n, Cond.instantiable (gcl k).1 n ∈ WT := by
  intro k hk
  match k, hk with
  | 0, _ => exact ⟨9, gi_RX0⟩
  | 1, _ => exact ⟨4, gi_RX1⟩
  | 2, _ => exact ⟨2, gi_RX2⟩
  | 3, _ => exact ⟨9, gi_RX3⟩
  | 4, _ => exact ⟨5, gi_RX4⟩
  | 5, _ => exact ⟨8, gi_RX5⟩
  | 6, _ => exact ⟨3, gi_RX6⟩
  | 7, _ => exact ⟨3, gi_RX7⟩
  | 8, _ => exact ⟨2, gi_RX8⟩
  | 9, _ => exact ⟨16, gi_RX9⟩
  | 10, _ => exact ⟨37, gi_RX10⟩
theorem gArr {s : State} {A : Array Value} {ty : FieldType} (h : (Cond.arrayClass ty).before A s = true) (hr : ∀ cA, s.vm.findClass ("[" ++ ty.toString) = some cA → va_RA s cA ty) : ∃ cA : ClassId, ArrOfT s cA ty ∧ va_RA s cA ty := by
  obtain ⟨cA, k, comp, h1, h2, h3⟩ := Cond.arrayClass_spec h
  exact ⟨cA, fun n z => ⟨fun q hq => (by cases hq), k, h2, comp, h3⟩, hr cA h1⟩
theorem gArrO {s : State} {C : String} (h : va_AO C s) : ∃ cA : ClassId, ArrOfT s cA (.object C) ∧ va_RA s cA (.object C) := by
  obtain ⟨comp, c, k, h1, h2, h3, h4, h5⟩ := Cond.arrayOver_spec h
  exact ⟨c, fun n z => ⟨fun q hq => (by cases hq), k, h3, comp, h4⟩, k, comp, h3, h4, h1, h5⟩
theorem gArrA {s : State} {t : FieldType} (h : gOv s t) : ∃ cA : ClassId, ArrOfT s cA (.array t) ∧ va_RA s cA (.array t) := by
  obtain ⟨comp, c, k, h1, h2, h3, h4⟩ := h
  exact ⟨c, fun n z => ⟨fun q hq => (by cases hq), k, h2, comp, h3⟩, h4⟩
theorem gOvOf {s : State} {A : Array Value} {t : FieldType} (h : (Cond.arrayOver (.array t)).before A s = true) : gOv s t := by
  obtain ⟨comp, c, k, h1, -, h2, h3, h4⟩ := arrayOverA_spec h
  exact ⟨comp, c, k, h1, h2, h3, h4⟩
theorem whole_gK {s : State} {A : Array Value} (hts : ∀ w ∈ lw_tbl, w.before A s = true) (hao : gAOs s) : ∃ (D : va_G) (cs : Nat → ClassId), va_K D vwCl [(cs 0, .int), (cs 1, .long), (cs 2, .boolean), (cs 3, .byte), (cs 4, .object RX1), (cs 5, .object RX6), (cs 6, .array .int), (cs 7, .array .long)] s := by
  have hw : ∀ w ∈ WT, w.before A s = true := fun w h => hts w (gWT_tbl w h)
  have h : ∀ k : Nat, ∃ c : ClassId × (Nat → Nat), k < 11 → u_Kn s (gcl k).1 (gcl k).2.1 (gcl k).2.2 c.1 c.2 := by
    intro k
    by_cases hk : k < 11
    · obtain ⟨n, hn⟩ := gi_all k hk
      obtain ⟨c, iS, hc⟩ := u_known hw (gin k hk) (hw _ hn)
      exact ⟨(c, iS), fun _ => hc⟩
    · exact ⟨(0, fun _ => 0), fun z => absurd z hk⟩
  obtain ⟨f, hf⟩ := Classical.axiomOfChoice h
  obtain ⟨c0, a0⟩ := gArr (hw _ ga_int) (fun _ z => z)
  obtain ⟨c1, a1⟩ := gArr (hw _ ga_long) (fun _ z => z)
  obtain ⟨c2, a2⟩ := gArr (hw _ ga_boolean) (fun _ z => z)
  obtain ⟨c3, a3⟩ := gArr (hw _ ga_byte) (fun _ z => z)
  obtain ⟨c4, a4⟩ := gArrO hao.1
  obtain ⟨c5, a5⟩ := gArrO hao.2.1
  obtain ⟨c6, a6⟩ := gArrA hao.2.2.1
  obtain ⟨c7, a7⟩ := gArrA hao.2.2.2
  refine ⟨(fun k => (f k).1, fun k => (f k).2), fun k => match k with | 0 => c0 | 1 => c1 | 2 => c2 | 3 => c3 | 4 => c4 | 5 => c5 | 6 => c6 | _ => c7, fun c q hq => ?_, fun k q hk => ?_⟩
  · have hc : c < 11 := (List.getElem?_eq_some_iff.mp hq).1
    have e : q = gcl c := Option.some.inj (hq.symm.trans (gcl_ok c hc))
    subst e
    exact hf c hc
  · match k, hk with
    | 0, hk => cases hk; exact a0
    | 1, hk => cases hk; exact a1
    | 2, hk => cases hk; exact a2
    | 3, hk => cases hk; exact a3
    | 4, hk => cases hk; exact a4
    | 5, hk => cases hk; exact a5
    | 6, hk => cases hk; exact a6
    | 7, hk => cases hk; exact a7
    | k + 8, hk => simp at hk
theorem whole_gA {s : State} {A : Array Value} (hts : ∀ w ∈ lw_tbl, w.before A s = true) : gAOs s :=
  ⟨va_AO.of (A := A) (gmw hts 144 (by decide +kernel)), va_AO.of (A := A) (gmw hts 146 (by decide +kernel)), gOvOf (A := A) (gmw hts 1109 (by decide +kernel)), gOvOf (A := A) (gmw hts 1111 (by decide +kernel))⟩
theorem whole_parts {s : State} {b : Nat} {G : Nat → Prop} (hts : ∀ w ∈ lw_tbl, w.before #[Value.ref b] s = true) (hgv : (Jvm.Cond.and given_1 narrow_1).before #[Value.ref b] s = true) (hA : ∀ a : Nat, a < s.heap.size → ¬ G a) : ∃ t : Nat, va_Z RX9 "PARTS" "[I" (.ref t) G s s.heap ∧ va_T .int t 8 (fun j => .int (iv (gParts j))) G s s.heap := by
  have hs := flat_of_before _ hgv
  have e : ∀ (j : Int32) (v : Int32), (Cond.eq (.elem (.static "FormulaVisitors" "PARTS" "[I") (.int j)) (.int v)).before #[Value.ref b] s = true → (Term.elem (.static "FormulaVisitors" "PARTS" "[I") (.int j)).eval #[Value.ref b] s none [] s = some (.int v) := fun j v h => va_eqt h
  obtain ⟨t, ht, hT⟩ := va_Tof (tm := .static "FormulaVisitors" "PARTS" "[I") (ty := .int) (N := 8) (f := fun j => .int (iv (gParts j))) (A := G) (by decide) (hs (.arrayOf (.static "FormulaVisitors" "PARTS" "[I") .int) (by decide +kernel)) (va_eqt (hs (.eq (.length (.static "FormulaVisitors" "PARTS" "[I")) (.int 8)) (by decide +kernel))) (fun j hj => by
    match j, hj with
    | 0, _ => exact e 0 0 (hs _ (by decide +kernel))
    | 1, _ => exact e 1 0 (hs _ (by decide +kernel))
    | 2, _ => exact e 2 1 (hs _ (by decide +kernel))
    | 3, _ => exact e 3 2 (hs _ (by decide +kernel))
    | 4, _ => exact e 4 2 (hs _ (by decide +kernel))
    | 5, _ => exact e 5 1 (hs _ (by decide +kernel))
    | 6, _ => exact e 6 3 (hs _ (by decide +kernel))
    | 7, _ => exact e 7 1 (hs _ (by decide +kernel))
    | j + 8, hj => omega) hA
  exact ⟨t, va_Zref (gmw hts 603 (by decide +kernel)) (gmw hts 117 (by decide +kernel)) ht hA, hT⟩
theorem whole_stands {s : State} {b : Nat} {G : Nat → Prop} (hts : ∀ w ∈ lw_tbl, w.before #[Value.ref b] s = true) (hgv : (Jvm.Cond.and given_1 narrow_1).before #[Value.ref b] s = true) (hA : ∀ a : Nat, a < s.heap.size → ¬ G a) : ∃ t : Nat, va_Z RX4 "STANDS" "[I" (.ref t) G s s.heap ∧ va_T .int t 8 (fun j => .int (iv (gStands j))) G s s.heap := by
  have hs := flat_of_before _ hgv
  have e : ∀ (j : Int32) (v : Int32), (Cond.eq (.elem (.static "FormulaVisitors$Printer" "STANDS" "[I") (.int j)) (.int v)).before #[Value.ref b] s = true → (Term.elem (.static "FormulaVisitors$Printer" "STANDS" "[I") (.int j)).eval #[Value.ref b] s none [] s = some (.int v) := fun j v h => va_eqt h
  obtain ⟨t, ht, hT⟩ := va_Tof (tm := .static "FormulaVisitors$Printer" "STANDS" "[I") (ty := .int) (N := 8) (f := fun j => .int (iv (gStands j))) (A := G) (by decide) (hs (.arrayOf (.static "FormulaVisitors$Printer" "STANDS" "[I") .int) (by decide +kernel)) (va_eqt (hs (.eq (.length (.static "FormulaVisitors$Printer" "STANDS" "[I")) (.int 8)) (by decide +kernel))) (fun j hj => by
    match j, hj with
    | 0, _ => exact e 0 0 (hs _ (by decide +kernel))
    | 1, _ => exact e 1 0 (hs _ (by decide +kernel))
    | 2, _ => exact e 2 0 (hs _ (by decide +kernel))
    | 3, _ => exact e 3 3 (hs _ (by decide +kernel))
    | 4, _ => exact e 4 2 (hs _ (by decide +kernel))
    | 5, _ => exact e 5 1 (hs _ (by decide +kernel))
    | 6, _ => exact e 6 4 (hs _ (by decide +kernel))
    | 7, _ => exact e 7 0 (hs _ (by decide +kernel))
    | j + 8, hj => omega) hA
  exact ⟨t, va_Zref (gmw hts 789 (by decide +kernel)) (gmw hts 123 (by decide +kernel)) ht hA, hT⟩
theorem whole_signs {s : State} {b : Nat} {G : Nat → Prop} (hts : ∀ w ∈ lw_tbl, w.before #[Value.ref b] s = true) (hgv : (Jvm.Cond.and given_1 narrow_1).before #[Value.ref b] s = true) (hA : ∀ a : Nat, a < s.heap.size → ¬ G a) : ∃ tx by_ : Nat, vk_R RX10 138 "()[]+-*^?:" tx s ∧ vk_S 1 [10] [gSigns] (fun _ => tx) (fun _ => by_) G s s.heap := by
  have hs := flat_of_before _ hgv
  obtain ⟨aK, aV, h1, h2⟩ := vk_Sof (args := #[Value.ref b]) (s := s) (N := 1) (tm := fun _ => .string "FormulaVisitorsModel" 138) (len := [10]) (byt := [gSigns]) (A := G) (fun i hi => by
      obtain rfl : i = 0 := by omega
      decide) (fun i _ => hs _ (by decide +kernel)) (fun i _ => hs _ (by decide +kernel)) (fun i _ => hs _ (by decide +kernel)) (fun i hi => by
      obtain rfl : i = 0 := by omega
      exact hs (.eq (.length (.field (.string "FormulaVisitorsModel" 138) "java/lang/String" "value" "[B")) (.int 10)) (by decide +kernel)) (fun i hi j hj => by
      obtain rfl : i = 0 := by omega
      have hj : j < 10 := hj
      match j, hj with
      | 0, _ => exact hs (.eq (.elem (.field (.string "FormulaVisitorsModel" 138) "java/lang/String" "value" "[B") (.int 0)) (.int 40)) (by decide +kernel)
      | 1, _ => exact hs (.eq (.elem (.field (.string "FormulaVisitorsModel" 138) "java/lang/String" "value" "[B") (.int 1)) (.int 41)) (by decide +kernel)
      | 2, _ => exact hs (.eq (.elem (.field (.string "FormulaVisitorsModel" 138) "java/lang/String" "value" "[B") (.int 2)) (.int 91)) (by decide +kernel)
      | 3, _ => exact hs (.eq (.elem (.field (.string "FormulaVisitorsModel" 138) "java/lang/String" "value" "[B") (.int 3)) (.int 93)) (by decide +kernel)
      | 4, _ => exact hs (.eq (.elem (.field (.string "FormulaVisitorsModel" 138) "java/lang/String" "value" "[B") (.int 4)) (.int 43)) (by decide +kernel)
      | 5, _ => exact hs (.eq (.elem (.field (.string "FormulaVisitorsModel" 138) "java/lang/String" "value" "[B") (.int 5)) (.int 45)) (by decide +kernel)
      | 6, _ => exact hs (.eq (.elem (.field (.string "FormulaVisitorsModel" 138) "java/lang/String" "value" "[B") (.int 6)) (.int 42)) (by decide +kernel)
      | 7, _ => exact hs (.eq (.elem (.field (.string "FormulaVisitorsModel" 138) "java/lang/String" "value" "[B") (.int 7)) (.int 94)) (by decide +kernel)
      | 8, _ => exact hs (.eq (.elem (.field (.string "FormulaVisitorsModel" 138) "java/lang/String" "value" "[B") (.int 8)) (.int 63)) (by decide +kernel)
      | 9, _ => exact hs (.eq (.elem (.field (.string "FormulaVisitorsModel" 138) "java/lang/String" "value" "[B") (.int 9)) (.int 58)) (by decide +kernel)
      | j + 10, hj => omega) (fun i j _ _ _ => by omega) hA
  refine ⟨aK 0, aV 0, vk_R.of (A := #[Value.ref b]) (gmw hts 1253 (by decide +kernel)) (h2 0 (by omega)), fun i hi => ?_, fun i j _ _ _ => by omega⟩
  obtain rfl : i = 0 := by omega
  exact h1.1 0 (by omega)
theorem whole_nest {s : State} {A : Array Value} (hts : ∀ w ∈ lw_tbl, w.before A s = true) : (∀ w ∈ gNest, va_Nw w s) ∧ va_Nw gNestF s := by
  refine ⟨fun w hw => ?_, va_Nw.of (A := A) rfl (gmw hts 602 (by decide +kernel))⟩
  simp only [gNest, List.mem_cons, List.not_mem_nil, or_false] at hw
  rcases hw with rfl | rfl | rfl | rfl | rfl | rfl | rfl | rfl | rfl | rfl | rfl
  · exact va_Nw.of (A := A) rfl (gmw hts 148 (by decide +kernel))
  · exact va_Nw.of (A := A) rfl (gmw hts 169 (by decide +kernel))
  · exact va_Nw.of (A := A) rfl (gmw hts 250 (by decide +kernel))
  · exact va_Nw.of (A := A) rfl (gmw hts 264 (by decide +kernel))
  · exact va_Nw.of (A := A) rfl (gmw hts 287 (by decide +kernel))
  · exact va_Nw.of (A := A) rfl (gmw hts 321 (by decide +kernel))
  · exact va_Nw.of (A := A) rfl (gmw hts 333 (by decide +kernel))
  · exact va_Nw.of (A := A) rfl (gmw hts 444 (by decide +kernel))
  · exact va_Nw.of (A := A) rfl (gmw hts 599 (by decide +kernel))
  · exact va_Nw.of (A := A) rfl (gmw hts 787 (by decide +kernel))
  · exact va_Nw.of (A := A) rfl (gmw hts 906 (by decide +kernel))
/-- all that nobody writes, and the classes' numbers -/
theorem whole_gC {p : Program} {s : State} {m : MethodId} {meth : Method} {c : Code} {b L : Nat} {xs : Nat → Int32} (hL : L ≤ 3584) (C0 : lw_At p s m meth c b L xs) : ∃ Γ : gC, Γ.1 = s.heap.size ∧ Γ.2.2.2.2 = (b, L, xs) ∧ gZ Γ s s.heap ∧ va_K Γ.2.1 vwCl (gTys Γ) s := by
  obtain ⟨hx, hb, hr, hml, hown, hts, hX, hbl, hlocks, hgv⟩ := id C0
  have hA : ∀ a : Nat, a < s.heap.size → ¬ (fun q : Nat => s.heap.size ≤ q) a := fun a ha z => by have z : s.heap.size ≤ a := z; omega
  have hao := whole_gA hts
  obtain ⟨D, cs, hK⟩ := whole_gK hts hao
  obtain ⟨t1, z1, T1⟩ := whole_parts hts hgv hA
  obtain ⟨t2, z2, T2⟩ := whole_stands hts hgv hA
  obtain ⟨tx, ty, kR, kS⟩ := whole_signs hts hgv hA
  obtain ⟨n1, n2⟩ := whole_nest hts
  have hs := flat_of_before _ hgv
  exact ⟨(s.heap.size, D, cs, (t1, t2, tx, ty), (b, L, xs)), rfl, rfl, ⟨z1, T1, z2, T2, va_Zof (gmw hts 1267 (by decide +kernel)) (gmw hts 129 (by decide +kernel)) (va_eqi (hs _ (by decide +kernel))) hA, kR, kS, hX, n1, n2, hbl, by show L < 2147483648; omega, hao⟩, hK⟩
/-! the first world -/
def gI0 : Nat → Nat → Int := fun _ _ => 0
def gJ0 : Nat → Nat → Int64 := fun _ _ => 0
def gσ0 : gSgm := (fun _ => (0, fun _ => 0, fun _ => 0, fun _ => 0), fun _ => 0, (fun _ => 0, 0), (0, fun _ => (0, fun _ => 0, fun _ => 0, fun _ => 0), fun _ => 0), (fun _ => -1, fun _ => 0, fun _ _ => 0))
theorem gNew_0 : gNew 1 gR0 gI0 gJ0 := ⟨fun k j v h => (by cases h), fun k _ j => ⟨rfl, rfl, rfl⟩⟩
theorem gI1_n {p q : Nat} (h : p ≠ 237) : gIm (gIt gI0 4) p q = gIt gI0 4 p q := by
  unfold gIm
  rw [gu_n (by omega), gu_n (by omega), gu_n (by omega), gu_n (by omega)]
theorem gI1_0 {p q : Nat} (h : p ≠ 237) (h2 : q ≠ 1 ∨ p < 137 ∨ 145 ≤ p) : gIm (gIt gI0 4) p q = 0 := by
  rw [gI1_n h]
  unfold gIt
  rw [if_neg (by omega)]
  rfl
theorem gWf_0 : gWf 0 (fun _ => 0) (fun _ => 0) (fun _ => 0) := ⟨by omega, fun z => absurd z (Nat.lt_irrefl 0), fun j hj => absurd hj (Nat.not_lt_zero j)⟩
theorem gPs_0 : gPs gσ0 := ⟨fun _ _ => gWf_0, Or.inl rfl, fun _ _ _ => gWf_0, fun t _ => ⟨⟨by show (-1 : Int) ≤ -1; omega, by show (-1 : Int) ≤ 1; omega⟩, by show 0 ≤ 40; omega, fun j hj => absurd hj (Nat.not_lt_zero j)⟩⟩
theorem gCs_0 : gCs gσ0 (gIm (gIt gI0 4)) gJ0 := by
  refine ⟨fun f hf => ⟨gI1_0 (by omega) (by omega), fun j hj => absurd hj (Nat.not_lt_zero j)⟩, fun q hq => gI1_0 (by omega) (by omega), ⟨by show 0 ≤ 120; omega, gI1_0 (by omega) (by omega), fun q hq => absurd hq (Nat.not_lt_zero q)⟩, ⟨gI1_0 (by omega) (by omega), fun z => absurd z (by decide)⟩, fun t ht => ⟨?_, gI1_0 (by omega) (by omega), fun j hj => absurd hj (Nat.not_lt_zero j)⟩⟩
  rw [gI1_n (by omega)]
  unfold gIt
  rw [if_pos (by omega)]
  rfl
theorem gMs_0 : gMs gσ0 (gIm (gIt gI0 4)) gJ0 := by
  refine ⟨fun f hf => ⟨gI1_0 (by omega) (by omega), fun j hj => absurd hj (Nat.not_lt_zero j)⟩, fun q hq => gI1_0 (by omega) (by omega), ⟨by show 0 ≤ 120; omega, gI1_0 (by omega) (by omega), fun q hq => absurd hq (Nat.not_lt_zero q)⟩, ⟨gI1_0 (by omega) (by omega), fun z => absurd z (by decide)⟩, fun t ht => ⟨?_, gI1_0 (by omega) (by omega), fun j hj => absurd hj (Nat.not_lt_zero j)⟩⟩
  show gIm (gIt gI0 4) 237 t = -1
  match t, ht with
  | 0, _ => rfl
  | 1, _ => rfl
  | 2, _ => rfl
  | 3, _ => rfl
theorem whole_body {l : Launch} {Γ : gC} {nm : String} {ad : Nat → Nat} (hL : Γ.2.2.2.2.2.1 ≤ 3584) : gG l Γ (gmL nm) (1000, 245, 55748, 1, 16) 3 [(0, .ref Γ.2.2.2.2.1)] [.ref (ad 0)] ((1, gSh, gR0, ad), gI0, gJ0) (fun r _ => r = some (.int (iv 1))) := by
  refine gg_dupr dL_law_3 ?_
  refine gg_callI (B := (1000, 245, 55748, 1, 16)) (own := RL) (yt := gm_X9_init) (rest := [.ref (ad 0)]) rfl gl_RL_9 gk_X9_init gr_X9_init dL_law_4 (c_X9_init (d := 900) gNew_0 (by omega)) rfl rfl rfl (Nat.le_of_ble_eq_true rfl) (Nat.le_of_ble_eq_true rfl) ⟨Nat.le_of_ble_eq_true rfl, Nat.le_of_ble_eq_true rfl⟩ (fun r μ' hc => ?_)
  obtain ⟨rfl, ad1, h1, g1, rfl⟩ := hc
  show gG l Γ (gmL nm) (1000, 245, 55748, 145, 32523) 7 _ [.ref (ad 0)] _ _
  rw [← h1]
  refine gg_astore_n (ls' := [(1, .ref (ad1 0)), (0, .ref Γ.2.2.2.2.1)]) dL_law_7 rfl (by show 1 < 4; omega) rfl ?_
  refine gg_nO (n' := 146) (u' := 146) (v' := 32560) (own := RL) (ci := 10) (N := 37) rfl (by decide) rfl gc_RL_10 gi_RX10 gk_X10_init.1.2.1 (by decide +kernel) rfl ⟨rfl, rfl, rfl⟩ dL_law_8 g1 ⟨by omega, by decide, by decide⟩ (fun ad2 h2 g2 => ?_)
  rw [← h2 0 (by omega)]
  refine gg_dupr dL_law_11 ?_
  refine gg_callI (B := (1000, 245, 55748, 146, 32560)) (own := RL) (yt := gm_X10_init) (rest := [.ref (ad2 145)]) rfl gl_RL_12 gk_X10_init gr_X10_init dL_law_12 (c_X10_init (d := 900) g2 (by omega)) rfl rfl rfl (Nat.le_of_ble_eq_true rfl) (Nat.le_of_ble_eq_true rfl) ⟨Nat.le_of_ble_eq_true rfl, Nat.le_of_ble_eq_true rfl⟩ (fun r μ' hc => ?_)
  obtain ⟨rfl, ad3, h3, rfl⟩ := hc
  show gG l Γ (gmL nm) (1000, 245, 55748, 245, 55748) 15 _ [.ref (ad2 145)] _ _
  rw [← h3 0 (by omega), ← h3 145 (by omega)]
  refine gg_astore_n (ls' := [(2, .ref (ad3 145)), (1, .ref (ad3 0)), (0, .ref Γ.2.2.2.2.1)]) dL_law_15 rfl (by show 2 < 4; omega) rfl ?_
  refine gg_iconst dL_law_16 ?_
  refine gg_istore_n (ls' := [(3, .int (iv 0)), (2, .ref (ad3 145)), (1, .ref (ad3 0)), (0, .ref Γ.2.2.2.2.1)]) dL_law_17 rfl (by show 3 < 4; omega) rfl ?_
  exact w_law (nm := nm) (ad := ad3) (B := (1000, 245, 55748, 245, 55748)) hL ⟨Nat.le_of_ble_eq_true rfl, rfl, rfl⟩ (Γ.2.2.2.2.2.1 + 8) 0 gσ0 _ _ (by omega) (Nat.zero_le _) gPs_0 gCs_0 gMs_0
