/-! a rule an instruction -/
def gushr (a b : Int) : Int := (((iv a).toUInt32 >>> ((iv b).toUInt32 &&& Int32.toUInt32 31)).toInt32).toInt
def gshl (a b : Int) : Int := (iv a <<< (iv b &&& 31)).toInt
def gshr (a b : Int) : Int := (iv a >>> (iv b &&& 31)).toInt
def gior (a b : Int) : Int := (iv a ||| iv b).toInt
def giand (a b : Int) : Int := (iv a &&& iv b).toInt
def gi2s (a : Int) : Int := ((iv a).toInt16.toInt32).toInt
def gi2b (a : Int) : Int := ((iv a).toInt8.toInt32).toInt
def gl2i (x : Int64) : Int := x.toInt32.toInt
def gi2l (a : Int) : Int64 := (iv a).toInt64
theorem iv_div {a b : Int} (h : 0 ≤ a ∧ a ≤ 2147483647 ∧ 0 < b ∧ b ≤ 2147483647) : iv a / iv b = iv (a / b) := by
  have h1 : a.tdiv b = a / b := Int.tdiv_eq_ediv_of_nonneg h.1
  have h2 : 0 ≤ a / b := Int.ediv_nonneg h.1 (by omega)
  have h3 : a / b ≤ a := Int.ediv_le_self b h.1
  rw [← Int32.toInt_inj, Int32.toInt_div, iv_toInt (by omega), iv_toInt (by omega), iv_toInt (by omega), h1]
  apply Int.bmod_eq_of_le <;> omega
theorem iv_rem {a b : Int} (h : 0 ≤ a ∧ a ≤ 2147483647 ∧ 0 < b ∧ b ≤ 2147483647) : iv a - iv a / iv b * iv b = iv (a % b) := by
  rw [iv_div h, iv_mul, iv_sub, Int.emod_def, Int.mul_comm]
section GR
variable {l : Launch} {Γ : gC} {mt : gY} {B : gB} {pc tgt : Nat} {ls ls' : List (Nat × Value)} {st : List Value} {μ : gM} {S : gS} {I : Nat → Nat → Int} {J : Nat → Nat → Int64} {Q : Option Value → gM → Prop} {a b : Int} {x y : Int64} {off : Int} {u v w : Value} {i j n k k' : Nat}

theorem gg_iconst (d : decode mt.2.1 pc = .ok (.iconst a, 1)) (k : gG l Γ mt B (pc + 1) ls (.int (iv a) :: st) μ Q) : gG l Γ mt B pc ls st μ Q := fun p e R s m args below meth c Zf H locs lr X hR hW hS hl =>
  lv_iconst X.1 X.2.1 d rfl (k p e R s m args below meth c Zf H locs lr X hR hW hS hl)
theorem gg_bipush (d : decode mt.2.1 pc = .ok (.bipush a, 2)) (hv : (Int8.ofInt a).toInt32 = iv a) (k : gG l Γ mt B (pc + 2) ls (.int (iv a) :: st) μ Q) : gG l Γ mt B pc ls st μ Q := fun p e R s m args below meth c Zf H locs lr X hR hW hS hl =>
  lv_bipush X.1 X.2.1 d hv (k p e R s m args below meth c Zf H locs lr X hR hW hS hl)
theorem gg_sipush (d : decode mt.2.1 pc = .ok (.sipush a, 3)) (hv : (Int16.ofInt a).toInt32 = iv a) (k : gG l Γ mt B (pc + 3) ls (.int (iv a) :: st) μ Q) : gG l Γ mt B pc ls st μ Q := fun p e R s m args below meth c Zf H locs lr X hR hW hS hl =>
  lv_sipush X.1 X.2.1 d hv (k p e R s m args below meth c Zf H locs lr X hR hW hS hl)
theorem gg_lconst {f : Fin 2} (d : decode mt.2.1 pc = .ok (.lconst f, 1)) (k : gG l Γ mt B (pc + 1) ls (.long (Int64.ofNat (f : Nat)) :: st) μ Q) : gG l Γ mt B pc ls st μ Q := fun p e R s m args below meth c Zf H locs lr X hR hW hS hl =>
  lv_lconst X.1 X.2.1 d rfl (k p e R s m args below meth c Zf H locs lr X hR hW hS hl)
theorem gg_iload_n {f : Fin 4} (d : decode mt.2.1 pc = .ok (.iload_n f, 1)) (q : Nat) (h : ls[q]? = some ((f : Nat), .int (iv a))) (kk : gG l Γ mt B (pc + 1) ls (.int (iv a) :: st) μ Q) : gG l Γ mt B pc ls st μ Q := fun p e R s m args below meth c Zf H locs lr X hR hW hS hl =>
  lv_iload_n X.1 X.2.1 d rfl (lv_at hl q h) (kk p e R s m args below meth c Zf H locs lr X hR hW hS hl)
theorem gg_iload (d : decode mt.2.1 pc = .ok (.iload i, 2)) (q : Nat) (h : ls[q]? = some (i, .int (iv a))) (kk : gG l Γ mt B (pc + 2) ls (.int (iv a) :: st) μ Q) : gG l Γ mt B pc ls st μ Q := fun p e R s m args below meth c Zf H locs lr X hR hW hS hl =>
  lv_iload X.1 X.2.1 d (lv_at hl q h) (kk p e R s m args below meth c Zf H locs lr X hR hW hS hl)
theorem gg_lload_n {f : Fin 4} (d : decode mt.2.1 pc = .ok (.lload_n f, 1)) (q : Nat) (h : ls[q]? = some ((f : Nat), .long x)) (kk : gG l Γ mt B (pc + 1) ls (.long x :: st) μ Q) : gG l Γ mt B pc ls st μ Q := fun p e R s m args below meth c Zf H locs lr X hR hW hS hl =>
  lv_lload_n X.1 X.2.1 d rfl (lv_at hl q h) (kk p e R s m args below meth c Zf H locs lr X hR hW hS hl)
theorem gg_lload (d : decode mt.2.1 pc = .ok (.lload i, 2)) (q : Nat) (h : ls[q]? = some (i, .long x)) (kk : gG l Γ mt B (pc + 2) ls (.long x :: st) μ Q) : gG l Γ mt B pc ls st μ Q := fun p e R s m args below meth c Zf H locs lr X hR hW hS hl =>
  lv_lload X.1 X.2.1 d (lv_at hl q h) (kk p e R s m args below meth c Zf H locs lr X hR hW hS hl)
theorem gg_aload_n {f : Fin 4} (d : decode mt.2.1 pc = .ok (.aload_n f, 1)) (q : Nat) (h : ls[q]? = some ((f : Nat), .ref k)) (kk : gG l Γ mt B (pc + 1) ls (.ref k :: st) μ Q) : gG l Γ mt B pc ls st μ Q := fun p e R s m args below meth c Zf H locs lr X hR hW hS hl =>
  lv_aload_n X.1 X.2.1 d rfl (lv_at hl q h) (kk p e R s m args below meth c Zf H locs lr X hR hW hS hl)
theorem gg_aload (d : decode mt.2.1 pc = .ok (.aload i, 2)) (q : Nat) (h : ls[q]? = some (i, .ref k)) (kk : gG l Γ mt B (pc + 2) ls (.ref k :: st) μ Q) : gG l Γ mt B pc ls st μ Q := fun p e R s m args below meth c Zf H locs lr X hR hW hS hl =>
  lv_aload X.1 X.2.1 d (lv_at hl q h) (kk p e R s m args below meth c Zf H locs lr X hR hW hS hl)
theorem gg_istore_n {f : Fin 4} (d : decode mt.2.1 pc = .ok (.istore_n f, 1)) (hi : (f : Nat) = i) (hn : i < mt.2.2.1) (h : (i, .int (iv a)) :: ls.filter (fun q => !(q.1 == i) && !(q.1 + 1 == i && q.2.category == 2)) = ls') (kk : gG l Γ mt B (pc + 1) ls' st μ Q) : gG l Γ mt B pc ls (.int (iv a) :: st) μ Q := fun p e R s m args below meth c Zf H locs lr X hR hW hS hl =>
  lv_istore_n X.1 X.2.1 d hi hl hn h (fun lr hl => kk p e R s m args below meth c Zf H locs lr X hR hW hS hl)
theorem gg_istore (d : decode mt.2.1 pc = .ok (.istore i, 2)) (hn : i < mt.2.2.1) (h : (i, .int (iv a)) :: ls.filter (fun q => !(q.1 == i) && !(q.1 + 1 == i && q.2.category == 2)) = ls') (kk : gG l Γ mt B (pc + 2) ls' st μ Q) : gG l Γ mt B pc ls (.int (iv a) :: st) μ Q := fun p e R s m args below meth c Zf H locs lr X hR hW hS hl =>
  lv_istore X.1 X.2.1 d hl hn h (fun lr hl => kk p e R s m args below meth c Zf H locs lr X hR hW hS hl)
theorem gg_lstore_n {f : Fin 4} (d : decode mt.2.1 pc = .ok (.lstore_n f, 1)) (hi : (f : Nat) = i) (hn : i + 1 < mt.2.2.1) (h : (i, .long x) :: ls.filter (fun q => !(q.1 == i) && (!(q.1 == i + 1) && !(q.1 + 1 == i && q.2.category == 2))) = ls') (kk : gG l Γ mt B (pc + 1) ls' st μ Q) : gG l Γ mt B pc ls (.long x :: st) μ Q := fun p e R s m args below meth c Zf H locs lr X hR hW hS hl =>
  lv_lstore_n X.1 X.2.1 d hi hl hn h (fun lr hl => kk p e R s m args below meth c Zf H locs lr X hR hW hS hl)
theorem gg_lstore (d : decode mt.2.1 pc = .ok (.lstore i, 2)) (hn : i + 1 < mt.2.2.1) (h : (i, .long x) :: ls.filter (fun q => !(q.1 == i) && (!(q.1 == i + 1) && !(q.1 + 1 == i && q.2.category == 2))) = ls') (kk : gG l Γ mt B (pc + 2) ls' st μ Q) : gG l Γ mt B pc ls (.long x :: st) μ Q := fun p e R s m args below meth c Zf H locs lr X hR hW hS hl =>
  lv_lstore X.1 X.2.1 d hl hn h (fun lr hl => kk p e R s m args below meth c Zf H locs lr X hR hW hS hl)
theorem gg_astore_n {f : Fin 4} (d : decode mt.2.1 pc = .ok (.astore_n f, 1)) (hi : (f : Nat) = i) (hn : i < mt.2.2.1) (h : (i, .ref k) :: ls.filter (fun q => !(q.1 == i) && !(q.1 + 1 == i && q.2.category == 2)) = ls') (kk : gG l Γ mt B (pc + 1) ls' st μ Q) : gG l Γ mt B pc ls (.ref k :: st) μ Q := fun p e R s m args below meth c Zf H locs lr X hR hW hS hl =>
  lv_astore_n X.1 X.2.1 d hi hl hn h (fun lr hl => kk p e R s m args below meth c Zf H locs lr X hR hW hS hl)
theorem gg_astore (d : decode mt.2.1 pc = .ok (.astore i, 2)) (hn : i < mt.2.2.1) (h : (i, .ref k) :: ls.filter (fun q => !(q.1 == i) && !(q.1 + 1 == i && q.2.category == 2)) = ls') (kk : gG l Γ mt B (pc + 2) ls' st μ Q) : gG l Γ mt B pc ls (.ref k :: st) μ Q := fun p e R s m args below meth c Zf H locs lr X hR hW hS hl =>
  lv_astore X.1 X.2.1 d hl hn h (fun lr hl => kk p e R s m args below meth c Zf H locs lr X hR hW hS hl)
theorem gg_iinc (d : decode mt.2.1 pc = .ok (.iinc i b, 3)) (q : Nat) (hq : ls[q]? = some (i, .int (iv a))) (hn : i < mt.2.2.1) (h : (i, Value.int (iv (a + b))) :: ls.filter (fun q => !(q.1 == i) && !(q.1 + 1 == i && q.2.category == 2)) = ls') (k : gG l Γ mt B (pc + 3) ls' st μ Q) : gG l Γ mt B pc ls st μ Q := fun p e R s m args below meth c Zf H locs lr X hR hW hS hl =>
  lv_iinc X.1 X.2.1 d hl hq (iv_add a b) hn h (fun lr hl => k p e R s m args below meth c Zf H locs lr X hR hW hS hl)
theorem gg_iadd (d : decode mt.2.1 pc = .ok (.iadd, 1)) (k : gG l Γ mt B (pc + 1) ls (.int (iv (a + b)) :: st) μ Q) : gG l Γ mt B pc ls (.int (iv b) :: .int (iv a) :: st) μ Q := fun p e R s m args below meth c Zf H locs lr X hR hW hS hl =>
  lv_iadd X.1 X.2.1 d (by rw [iv_add]; exact k p e R s m args below meth c Zf H locs lr X hR hW hS hl)
theorem gg_isub (d : decode mt.2.1 pc = .ok (.isub, 1)) (k : gG l Γ mt B (pc + 1) ls (.int (iv (a - b)) :: st) μ Q) : gG l Γ mt B pc ls (.int (iv b) :: .int (iv a) :: st) μ Q := fun p e R s m args below meth c Zf H locs lr X hR hW hS hl =>
  lv_isub X.1 X.2.1 d (by rw [iv_sub]; exact k p e R s m args below meth c Zf H locs lr X hR hW hS hl)
theorem gg_imul (d : decode mt.2.1 pc = .ok (.imul, 1)) (k : gG l Γ mt B (pc + 1) ls (.int (iv (a * b)) :: st) μ Q) : gG l Γ mt B pc ls (.int (iv b) :: .int (iv a) :: st) μ Q := fun p e R s m args below meth c Zf H locs lr X hR hW hS hl =>
  lv_imul X.1 X.2.1 d (by rw [iv_mul]; exact k p e R s m args below meth c Zf H locs lr X hR hW hS hl)
theorem gg_ineg (d : decode mt.2.1 pc = .ok (.ineg, 1)) (k : gG l Γ mt B (pc + 1) ls (.int (iv (-a)) :: st) μ Q) : gG l Γ mt B pc ls (.int (iv a) :: st) μ Q := fun p e R s m args below meth c Zf H locs lr X hR hW hS hl =>
  lv_ineg X.1 X.2.1 d (by rw [iv_neg]; exact k p e R s m args below meth c Zf H locs lr X hR hW hS hl)
theorem gg_idiv (d : decode mt.2.1 pc = .ok (.idiv, 1)) (h : 0 ≤ a ∧ a ≤ 2147483647 ∧ 0 < b ∧ b ≤ 2147483647) (k : gG l Γ mt B (pc + 1) ls (.int (iv (a / b)) :: st) μ Q) : gG l Γ mt B pc ls (.int (iv b) :: .int (iv a) :: st) μ Q := fun p e R s m args below meth c Zf H locs lr X hR hW hS hl =>
  lv_idiv X.1 X.2.1 d (fun z => by have := (iv_eq (a := b) (b := 0) (by omega)).mp z; omega) (by rw [iv_div h]; exact k p e R s m args below meth c Zf H locs lr X hR hW hS hl)
theorem gg_irem (d : decode mt.2.1 pc = .ok (.irem, 1)) (h : 0 ≤ a ∧ a ≤ 2147483647 ∧ 0 < b ∧ b ≤ 2147483647) (k : gG l Γ mt B (pc + 1) ls (.int (iv (a % b)) :: st) μ Q) : gG l Γ mt B pc ls (.int (iv b) :: .int (iv a) :: st) μ Q := fun p e R s m args below meth c Zf H locs lr X hR hW hS hl =>
  lv_irem X.1 X.2.1 d (fun z => by have := (iv_eq (a := b) (b := 0) (by omega)).mp z; omega) (by rw [iv_rem h]; exact k p e R s m args below meth c Zf H locs lr X hR hW hS hl)
theorem gg_ior (d : decode mt.2.1 pc = .ok (.ior, 1)) (k : gG l Γ mt B (pc + 1) ls (.int (iv (gior a b)) :: st) μ Q) : gG l Γ mt B pc ls (.int (iv b) :: .int (iv a) :: st) μ Q := fun p e R s m args below meth c Zf H locs lr X hR hW hS hl =>
  lv_ior X.1 X.2.1 d (by have z := k; unfold gior at z; rw [iv_of] at z; exact z p e R s m args below meth c Zf H locs lr X hR hW hS hl)
theorem gg_iand (d : decode mt.2.1 pc = .ok (.iand, 1)) (k : gG l Γ mt B (pc + 1) ls (.int (iv (giand a b)) :: st) μ Q) : gG l Γ mt B pc ls (.int (iv b) :: .int (iv a) :: st) μ Q := fun p e R s m args below meth c Zf H locs lr X hR hW hS hl =>
  lv_iand X.1 X.2.1 d (by have z := k; unfold giand at z; rw [iv_of] at z; exact z p e R s m args below meth c Zf H locs lr X hR hW hS hl)
theorem gg_ishl (d : decode mt.2.1 pc = .ok (.ishl, 1)) (k : gG l Γ mt B (pc + 1) ls (.int (iv (gshl a b)) :: st) μ Q) : gG l Γ mt B pc ls (.int (iv b) :: .int (iv a) :: st) μ Q := fun p e R s m args below meth c Zf H locs lr X hR hW hS hl =>
  lv_ishl X.1 X.2.1 d (by have z := k; unfold gshl at z; rw [iv_of] at z; exact z p e R s m args below meth c Zf H locs lr X hR hW hS hl)
theorem gg_ishr (d : decode mt.2.1 pc = .ok (.ishr, 1)) (k : gG l Γ mt B (pc + 1) ls (.int (iv (gshr a b)) :: st) μ Q) : gG l Γ mt B pc ls (.int (iv b) :: .int (iv a) :: st) μ Q := fun p e R s m args below meth c Zf H locs lr X hR hW hS hl =>
  lv_ishr X.1 X.2.1 d (by have z := k; unfold gshr at z; rw [iv_of] at z; exact z p e R s m args below meth c Zf H locs lr X hR hW hS hl)
theorem gg_iushr (d : decode mt.2.1 pc = .ok (.iushr, 1)) (k : gG l Γ mt B (pc + 1) ls (.int (iv (gushr a b)) :: st) μ Q) : gG l Γ mt B pc ls (.int (iv b) :: .int (iv a) :: st) μ Q := fun p e R s m args below meth c Zf H locs lr X hR hW hS hl =>
  lv_iushr X.1 X.2.1 d (iv_of _).symm (k p e R s m args below meth c Zf H locs lr X hR hW hS hl)
theorem gg_i2s (d : decode mt.2.1 pc = .ok (.i2s, 1)) (k : gG l Γ mt B (pc + 1) ls (.int (iv (gi2s a)) :: st) μ Q) : gG l Γ mt B pc ls (.int (iv a) :: st) μ Q := fun p e R s m args below meth c Zf H locs lr X hR hW hS hl =>
  lv_i2s X.1 X.2.1 d (iv_of _).symm (k p e R s m args below meth c Zf H locs lr X hR hW hS hl)
theorem gg_i2b (d : decode mt.2.1 pc = .ok (.i2b, 1)) (k : gG l Γ mt B (pc + 1) ls (.int (iv (gi2b a)) :: st) μ Q) : gG l Γ mt B pc ls (.int (iv a) :: st) μ Q := fun p e R s m args below meth c Zf H locs lr X hR hW hS hl =>
  lv_i2b X.1 X.2.1 d (iv_of _).symm (k p e R s m args below meth c Zf H locs lr X hR hW hS hl)
theorem gg_i2l (d : decode mt.2.1 pc = .ok (.i2l, 1)) (k : gG l Γ mt B (pc + 1) ls (.long (gi2l a) :: st) μ Q) : gG l Γ mt B pc ls (.int (iv a) :: st) μ Q := fun p e R s m args below meth c Zf H locs lr X hR hW hS hl =>
  lv_i2l X.1 X.2.1 d rfl (k p e R s m args below meth c Zf H locs lr X hR hW hS hl)
theorem gg_l2i (d : decode mt.2.1 pc = .ok (.l2i, 1)) (k : gG l Γ mt B (pc + 1) ls (.int (iv (gl2i x)) :: st) μ Q) : gG l Γ mt B pc ls (.long x :: st) μ Q := fun p e R s m args below meth c Zf H locs lr X hR hW hS hl =>
  lv_l2i X.1 X.2.1 d (iv_of _).symm (k p e R s m args below meth c Zf H locs lr X hR hW hS hl)
theorem gg_ladd (d : decode mt.2.1 pc = .ok (.ladd, 1)) (k : gG l Γ mt B (pc + 1) ls (.long (x + y) :: st) μ Q) : gG l Γ mt B pc ls (.long y :: .long x :: st) μ Q := fun p e R s m args below meth c Zf H locs lr X hR hW hS hl =>
  lv_ladd X.1 X.2.1 d (k p e R s m args below meth c Zf H locs lr X hR hW hS hl)
theorem gg_lsub (d : decode mt.2.1 pc = .ok (.lsub, 1)) (k : gG l Γ mt B (pc + 1) ls (.long (x - y) :: st) μ Q) : gG l Γ mt B pc ls (.long y :: .long x :: st) μ Q := fun p e R s m args below meth c Zf H locs lr X hR hW hS hl =>
  lv_lsub X.1 X.2.1 d (k p e R s m args below meth c Zf H locs lr X hR hW hS hl)
theorem gg_lmul (d : decode mt.2.1 pc = .ok (.lmul, 1)) (k : gG l Γ mt B (pc + 1) ls (.long (x * y) :: st) μ Q) : gG l Γ mt B pc ls (.long y :: .long x :: st) μ Q := fun p e R s m args below meth c Zf H locs lr X hR hW hS hl =>
  lv_lmul X.1 X.2.1 d (k p e R s m args below meth c Zf H locs lr X hR hW hS hl)
theorem gg_lneg (d : decode mt.2.1 pc = .ok (.lneg, 1)) (k : gG l Γ mt B (pc + 1) ls (.long (-x) :: st) μ Q) : gG l Γ mt B pc ls (.long x :: st) μ Q := fun p e R s m args below meth c Zf H locs lr X hR hW hS hl =>
  lv_lneg X.1 X.2.1 d (k p e R s m args below meth c Zf H locs lr X hR hW hS hl)
theorem gg_ldiv (d : decode mt.2.1 pc = .ok (.ldiv, 1)) (h : ¬ y = 0) (k : gG l Γ mt B (pc + 1) ls (.long (x / y) :: st) μ Q) : gG l Γ mt B pc ls (.long y :: .long x :: st) μ Q := fun p e R s m args below meth c Zf H locs lr X hR hW hS hl =>
  lv_ldiv X.1 X.2.1 d h (k p e R s m args below meth c Zf H locs lr X hR hW hS hl)
theorem gg_lrem (d : decode mt.2.1 pc = .ok (.lrem, 1)) (h : ¬ y = 0) (k : gG l Γ mt B (pc + 1) ls (.long (x - x / y * y) :: st) μ Q) : gG l Γ mt B pc ls (.long y :: .long x :: st) μ Q := fun p e R s m args below meth c Zf H locs lr X hR hW hS hl =>
  lv_lrem X.1 X.2.1 d h (k p e R s m args below meth c Zf H locs lr X hR hW hS hl)
theorem gg_dup (d : decode mt.2.1 pc = .ok (.dup, 1)) (h1 : u.category = 1) (k : gG l Γ mt B (pc + 1) ls (u :: u :: st) μ Q) : gG l Γ mt B pc ls (u :: st) μ Q := fun p e R s m args below meth c Zf H locs lr X hR hW hS hl =>
  lv_dup X.1 X.2.1 d h1 (k p e R s m args below meth c Zf H locs lr X hR hW hS hl)
theorem gg_pop (d : decode mt.2.1 pc = .ok (.pop, 1)) (h1 : u.category = 1) (k : gG l Γ mt B (pc + 1) ls st μ Q) : gG l Γ mt B pc ls (u :: st) μ Q := fun p e R s m args below meth c Zf H locs lr X hR hW hS hl =>
  lv_pop X.1 X.2.1 d h1 (k p e R s m args below meth c Zf H locs lr X hR hW hS hl)
theorem gg_pop2 (d : decode mt.2.1 pc = .ok (.pop2, 1)) (h1 : u.category = 2) (k : gG l Γ mt B (pc + 1) ls st μ Q) : gG l Γ mt B pc ls (u :: st) μ Q := fun p e R s m args below meth c Zf H locs lr X hR hW hS hl =>
  lv_pop2_2 X.1 X.2.1 d h1 (k p e R s m args below meth c Zf H locs lr X hR hW hS hl)
theorem gg_dup_x1 (d : decode mt.2.1 pc = .ok (.dup_x1, 1)) (h1 : u.category = 1) (h2 : v.category = 1) (k : gG l Γ mt B (pc + 1) ls (u :: v :: u :: st) μ Q) : gG l Γ mt B pc ls (u :: v :: st) μ Q := fun p e R s m args below meth c Zf H locs lr X hR hW hS hl =>
  lv_dup_x1 X.1 X.2.1 d h1 h2 (k p e R s m args below meth c Zf H locs lr X hR hW hS hl)
theorem gg_dup_x2 (d : decode mt.2.1 pc = .ok (.dup_x2, 1)) (h1 : u.category = 1) (h2 : v.category = 1) (h3 : w.category = 1) (k : gG l Γ mt B (pc + 1) ls (u :: v :: w :: u :: st) μ Q) : gG l Γ mt B pc ls (u :: v :: w :: st) μ Q := fun p e R s m args below meth c Zf H locs lr X hR hW hS hl =>
  lv_dup_x2 X.1 X.2.1 d h1 h2 h3 (k p e R s m args below meth c Zf H locs lr X hR hW hS hl)
theorem gg_dup2 (d : decode mt.2.1 pc = .ok (.dup2, 1)) (h1 : u.category = 1) (h2 : v.category = 1) (k : gG l Γ mt B (pc + 1) ls (u :: v :: u :: v :: st) μ Q) : gG l Γ mt B pc ls (u :: v :: st) μ Q := fun p e R s m args below meth c Zf H locs lr X hR hW hS hl =>
  lv_dup2_11 X.1 X.2.1 d h1 h2 (k p e R s m args below meth c Zf H locs lr X hR hW hS hl)
theorem gg_if_eq (d : decode mt.2.1 pc = .ok (.ifCond .eq off, 3)) (ht : (pc : Int) + off = (tgt : Int)) (hr : -2147483648 ≤ a ∧ a ≤ 2147483647) (kt : a = 0 → gG l Γ mt B tgt ls st μ Q) (kf : ¬ a = 0 → gG l Γ mt B (pc + 3) ls st μ Q) : gG l Γ mt B pc ls (.int (iv a) :: st) μ Q := fun p e R s m args below meth c Zf H locs lr X hR hW hS hl =>
  lv_if_eq X.1 X.2.1 d ht (fun h => kt (by have z := (iv_eq (a := a) (b := 0) (by omega)).mp h; omega) p e R s m args below meth c Zf H locs lr X hR hW hS hl) (fun h => kf (by have z : ¬ (a = 0) := fun q => h ((iv_eq (a := a) (b := 0) (by omega)).mpr q); omega) p e R s m args below meth c Zf H locs lr X hR hW hS hl)
theorem gg_if_eq_t (d : decode mt.2.1 pc = .ok (.ifCond .eq off, 3)) (ht : (pc : Int) + off = (tgt : Int)) (hr : -2147483648 ≤ a ∧ a ≤ 2147483647) (hc : a = 0) (kt : gG l Γ mt B tgt ls st μ Q) : gG l Γ mt B pc ls (.int (iv a) :: st) μ Q := gg_if_eq d ht hr (fun _ => kt) (fun h => absurd hc (by omega))
theorem gg_if_eq_f (d : decode mt.2.1 pc = .ok (.ifCond .eq off, 3)) (ht : (pc : Int) + off = (tgt : Int)) (hr : -2147483648 ≤ a ∧ a ≤ 2147483647) (hc : ¬ a = 0) (kf : gG l Γ mt B (pc + 3) ls st μ Q) : gG l Γ mt B pc ls (.int (iv a) :: st) μ Q := fun p e R s m args below meth c Zf H locs lr X hR hW hS hl =>
  gg_if_eq (tgt := tgt) d ht hr (fun h => absurd hc (by omega)) (fun _ => kf) p e R s m args below meth c Zf H locs lr X hR hW hS hl
theorem gg_icmp_eq (d : decode mt.2.1 pc = .ok (.if_icmp .eq off, 3)) (ht : (pc : Int) + off = (tgt : Int)) (hr : -2147483648 ≤ a ∧ a ≤ 2147483647 ∧ -2147483648 ≤ b ∧ b ≤ 2147483647) (kt : a = b → gG l Γ mt B tgt ls st μ Q) (kf : ¬ a = b → gG l Γ mt B (pc + 3) ls st μ Q) : gG l Γ mt B pc ls (.int (iv b) :: .int (iv a) :: st) μ Q := fun p e R s m args below meth c Zf H locs lr X hR hW hS hl =>
  lv_icmp_eq X.1 X.2.1 d ht (fun h => kt (by have z := (iv_eq (a := a) (b := b) (by omega)).mp h; omega) p e R s m args below meth c Zf H locs lr X hR hW hS hl) (fun h => kf (by have z : ¬ (a = b) := fun q => h ((iv_eq (a := a) (b := b) (by omega)).mpr q); omega) p e R s m args below meth c Zf H locs lr X hR hW hS hl)
theorem gg_icmp_eq_t (d : decode mt.2.1 pc = .ok (.if_icmp .eq off, 3)) (ht : (pc : Int) + off = (tgt : Int)) (hr : -2147483648 ≤ a ∧ a ≤ 2147483647 ∧ -2147483648 ≤ b ∧ b ≤ 2147483647) (hc : a = b) (kt : gG l Γ mt B tgt ls st μ Q) : gG l Γ mt B pc ls (.int (iv b) :: .int (iv a) :: st) μ Q := gg_icmp_eq d ht hr (fun _ => kt) (fun h => absurd hc (by omega))
theorem gg_icmp_eq_f (d : decode mt.2.1 pc = .ok (.if_icmp .eq off, 3)) (ht : (pc : Int) + off = (tgt : Int)) (hr : -2147483648 ≤ a ∧ a ≤ 2147483647 ∧ -2147483648 ≤ b ∧ b ≤ 2147483647) (hc : ¬ a = b) (kf : gG l Γ mt B (pc + 3) ls st μ Q) : gG l Γ mt B pc ls (.int (iv b) :: .int (iv a) :: st) μ Q := fun p e R s m args below meth c Zf H locs lr X hR hW hS hl =>
  gg_icmp_eq (tgt := tgt) d ht hr (fun h => absurd hc (by omega)) (fun _ => kf) p e R s m args below meth c Zf H locs lr X hR hW hS hl
theorem gg_if_ne (d : decode mt.2.1 pc = .ok (.ifCond .ne off, 3)) (ht : (pc : Int) + off = (tgt : Int)) (hr : -2147483648 ≤ a ∧ a ≤ 2147483647) (kt : ¬ a = 0 → gG l Γ mt B tgt ls st μ Q) (kf : a = 0 → gG l Γ mt B (pc + 3) ls st μ Q) : gG l Γ mt B pc ls (.int (iv a) :: st) μ Q := fun p e R s m args below meth c Zf H locs lr X hR hW hS hl =>
  lv_if_ne X.1 X.2.1 d ht (fun h => kt (by have z : ¬ (a = 0) := fun q => h ((iv_eq (a := a) (b := 0) (by omega)).mpr q); omega) p e R s m args below meth c Zf H locs lr X hR hW hS hl) (fun h => kf (by have z := (iv_eq (a := a) (b := 0) (by omega)).mp h; omega) p e R s m args below meth c Zf H locs lr X hR hW hS hl)
theorem gg_if_ne_t (d : decode mt.2.1 pc = .ok (.ifCond .ne off, 3)) (ht : (pc : Int) + off = (tgt : Int)) (hr : -2147483648 ≤ a ∧ a ≤ 2147483647) (hc : ¬ a = 0) (kt : gG l Γ mt B tgt ls st μ Q) : gG l Γ mt B pc ls (.int (iv a) :: st) μ Q := gg_if_ne d ht hr (fun _ => kt) (fun h => absurd hc (by omega))
theorem gg_if_ne_f (d : decode mt.2.1 pc = .ok (.ifCond .ne off, 3)) (ht : (pc : Int) + off = (tgt : Int)) (hr : -2147483648 ≤ a ∧ a ≤ 2147483647) (hc : a = 0) (kf : gG l Γ mt B (pc + 3) ls st μ Q) : gG l Γ mt B pc ls (.int (iv a) :: st) μ Q := fun p e R s m args below meth c Zf H locs lr X hR hW hS hl =>
  gg_if_ne (tgt := tgt) d ht hr (fun h => absurd hc (by omega)) (fun _ => kf) p e R s m args below meth c Zf H locs lr X hR hW hS hl
theorem gg_icmp_ne (d : decode mt.2.1 pc = .ok (.if_icmp .ne off, 3)) (ht : (pc : Int) + off = (tgt : Int)) (hr : -2147483648 ≤ a ∧ a ≤ 2147483647 ∧ -2147483648 ≤ b ∧ b ≤ 2147483647) (kt : ¬ a = b → gG l Γ mt B tgt ls st μ Q) (kf : a = b → gG l Γ mt B (pc + 3) ls st μ Q) : gG l Γ mt B pc ls (.int (iv b) :: .int (iv a) :: st) μ Q := fun p e R s m args below meth c Zf H locs lr X hR hW hS hl =>
  lv_icmp_ne X.1 X.2.1 d ht (fun h => kt (by have z : ¬ (a = b) := fun q => h ((iv_eq (a := a) (b := b) (by omega)).mpr q); omega) p e R s m args below meth c Zf H locs lr X hR hW hS hl) (fun h => kf (by have z := (iv_eq (a := a) (b := b) (by omega)).mp h; omega) p e R s m args below meth c Zf H locs lr X hR hW hS hl)
theorem gg_icmp_ne_t (d : decode mt.2.1 pc = .ok (.if_icmp .ne off, 3)) (ht : (pc : Int) + off = (tgt : Int)) (hr : -2147483648 ≤ a ∧ a ≤ 2147483647 ∧ -2147483648 ≤ b ∧ b ≤ 2147483647) (hc : ¬ a = b) (kt : gG l Γ mt B tgt ls st μ Q) : gG l Γ mt B pc ls (.int (iv b) :: .int (iv a) :: st) μ Q := gg_icmp_ne d ht hr (fun _ => kt) (fun h => absurd hc (by omega))
theorem gg_icmp_ne_f (d : decode mt.2.1 pc = .ok (.if_icmp .ne off, 3)) (ht : (pc : Int) + off = (tgt : Int)) (hr : -2147483648 ≤ a ∧ a ≤ 2147483647 ∧ -2147483648 ≤ b ∧ b ≤ 2147483647) (hc : a = b) (kf : gG l Γ mt B (pc + 3) ls st μ Q) : gG l Γ mt B pc ls (.int (iv b) :: .int (iv a) :: st) μ Q := fun p e R s m args below meth c Zf H locs lr X hR hW hS hl =>
  gg_icmp_ne (tgt := tgt) d ht hr (fun h => absurd hc (by omega)) (fun _ => kf) p e R s m args below meth c Zf H locs lr X hR hW hS hl
theorem gg_if_lt (d : decode mt.2.1 pc = .ok (.ifCond .lt off, 3)) (ht : (pc : Int) + off = (tgt : Int)) (hr : -2147483648 ≤ a ∧ a ≤ 2147483647) (kt : a < 0 → gG l Γ mt B tgt ls st μ Q) (kf : 0 ≤ a → gG l Γ mt B (pc + 3) ls st μ Q) : gG l Γ mt B pc ls (.int (iv a) :: st) μ Q := fun p e R s m args below meth c Zf H locs lr X hR hW hS hl =>
  lv_if_lt X.1 X.2.1 d ht (fun h => kt (by have z := (iv_lt (a := a) (b := 0) (by omega)).mp h; omega) p e R s m args below meth c Zf H locs lr X hR hW hS hl) (fun h => kf (by have z : ¬ (a < 0) := fun q => h ((iv_lt (a := a) (b := 0) (by omega)).mpr q); omega) p e R s m args below meth c Zf H locs lr X hR hW hS hl)
theorem gg_if_lt_t (d : decode mt.2.1 pc = .ok (.ifCond .lt off, 3)) (ht : (pc : Int) + off = (tgt : Int)) (hr : -2147483648 ≤ a ∧ a ≤ 2147483647) (hc : a < 0) (kt : gG l Γ mt B tgt ls st μ Q) : gG l Γ mt B pc ls (.int (iv a) :: st) μ Q := gg_if_lt d ht hr (fun _ => kt) (fun h => absurd hc (by omega))
theorem gg_if_lt_f (d : decode mt.2.1 pc = .ok (.ifCond .lt off, 3)) (ht : (pc : Int) + off = (tgt : Int)) (hr : -2147483648 ≤ a ∧ a ≤ 2147483647) (hc : 0 ≤ a) (kf : gG l Γ mt B (pc + 3) ls st μ Q) : gG l Γ mt B pc ls (.int (iv a) :: st) μ Q := fun p e R s m args below meth c Zf H locs lr X hR hW hS hl =>
  gg_if_lt (tgt := tgt) d ht hr (fun h => absurd hc (by omega)) (fun _ => kf) p e R s m args below meth c Zf H locs lr X hR hW hS hl
theorem gg_icmp_lt (d : decode mt.2.1 pc = .ok (.if_icmp .lt off, 3)) (ht : (pc : Int) + off = (tgt : Int)) (hr : -2147483648 ≤ a ∧ a ≤ 2147483647 ∧ -2147483648 ≤ b ∧ b ≤ 2147483647) (kt : a < b → gG l Γ mt B tgt ls st μ Q) (kf : b ≤ a → gG l Γ mt B (pc + 3) ls st μ Q) : gG l Γ mt B pc ls (.int (iv b) :: .int (iv a) :: st) μ Q := fun p e R s m args below meth c Zf H locs lr X hR hW hS hl =>
  lv_icmp_lt X.1 X.2.1 d ht (fun h => kt (by have z := (iv_lt (a := a) (b := b) (by omega)).mp h; omega) p e R s m args below meth c Zf H locs lr X hR hW hS hl) (fun h => kf (by have z : ¬ (a < b) := fun q => h ((iv_lt (a := a) (b := b) (by omega)).mpr q); omega) p e R s m args below meth c Zf H locs lr X hR hW hS hl)
theorem gg_icmp_lt_t (d : decode mt.2.1 pc = .ok (.if_icmp .lt off, 3)) (ht : (pc : Int) + off = (tgt : Int)) (hr : -2147483648 ≤ a ∧ a ≤ 2147483647 ∧ -2147483648 ≤ b ∧ b ≤ 2147483647) (hc : a < b) (kt : gG l Γ mt B tgt ls st μ Q) : gG l Γ mt B pc ls (.int (iv b) :: .int (iv a) :: st) μ Q := gg_icmp_lt d ht hr (fun _ => kt) (fun h => absurd hc (by omega))
theorem gg_icmp_lt_f (d : decode mt.2.1 pc = .ok (.if_icmp .lt off, 3)) (ht : (pc : Int) + off = (tgt : Int)) (hr : -2147483648 ≤ a ∧ a ≤ 2147483647 ∧ -2147483648 ≤ b ∧ b ≤ 2147483647) (hc : b ≤ a) (kf : gG l Γ mt B (pc + 3) ls st μ Q) : gG l Γ mt B pc ls (.int (iv b) :: .int (iv a) :: st) μ Q := fun p e R s m args below meth c Zf H locs lr X hR hW hS hl =>
  gg_icmp_lt (tgt := tgt) d ht hr (fun h => absurd hc (by omega)) (fun _ => kf) p e R s m args below meth c Zf H locs lr X hR hW hS hl
theorem gg_if_ge (d : decode mt.2.1 pc = .ok (.ifCond .ge off, 3)) (ht : (pc : Int) + off = (tgt : Int)) (hr : -2147483648 ≤ a ∧ a ≤ 2147483647) (kt : 0 ≤ a → gG l Γ mt B tgt ls st μ Q) (kf : a < 0 → gG l Γ mt B (pc + 3) ls st μ Q) : gG l Γ mt B pc ls (.int (iv a) :: st) μ Q := fun p e R s m args below meth c Zf H locs lr X hR hW hS hl =>
  lv_if_ge X.1 X.2.1 d ht (fun h => kt (by have z := (iv_le (a := 0) (b := a) (by omega)).mp h; omega) p e R s m args below meth c Zf H locs lr X hR hW hS hl) (fun h => kf (by have z : ¬ (0 ≤ a) := fun q => h ((iv_le (a := 0) (b := a) (by omega)).mpr q); omega) p e R s m args below meth c Zf H locs lr X hR hW hS hl)
theorem gg_if_ge_t (d : decode mt.2.1 pc = .ok (.ifCond .ge off, 3)) (ht : (pc : Int) + off = (tgt : Int)) (hr : -2147483648 ≤ a ∧ a ≤ 2147483647) (hc : 0 ≤ a) (kt : gG l Γ mt B tgt ls st μ Q) : gG l Γ mt B pc ls (.int (iv a) :: st) μ Q := gg_if_ge d ht hr (fun _ => kt) (fun h => absurd hc (by omega))
theorem gg_if_ge_f (d : decode mt.2.1 pc = .ok (.ifCond .ge off, 3)) (ht : (pc : Int) + off = (tgt : Int)) (hr : -2147483648 ≤ a ∧ a ≤ 2147483647) (hc : a < 0) (kf : gG l Γ mt B (pc + 3) ls st μ Q) : gG l Γ mt B pc ls (.int (iv a) :: st) μ Q := fun p e R s m args below meth c Zf H locs lr X hR hW hS hl =>
  gg_if_ge (tgt := tgt) d ht hr (fun h => absurd hc (by omega)) (fun _ => kf) p e R s m args below meth c Zf H locs lr X hR hW hS hl
theorem gg_icmp_ge (d : decode mt.2.1 pc = .ok (.if_icmp .ge off, 3)) (ht : (pc : Int) + off = (tgt : Int)) (hr : -2147483648 ≤ a ∧ a ≤ 2147483647 ∧ -2147483648 ≤ b ∧ b ≤ 2147483647) (kt : b ≤ a → gG l Γ mt B tgt ls st μ Q) (kf : a < b → gG l Γ mt B (pc + 3) ls st μ Q) : gG l Γ mt B pc ls (.int (iv b) :: .int (iv a) :: st) μ Q := fun p e R s m args below meth c Zf H locs lr X hR hW hS hl =>
  lv_icmp_ge X.1 X.2.1 d ht (fun h => kt (by have z := (iv_le (a := b) (b := a) (by omega)).mp h; omega) p e R s m args below meth c Zf H locs lr X hR hW hS hl) (fun h => kf (by have z : ¬ (b ≤ a) := fun q => h ((iv_le (a := b) (b := a) (by omega)).mpr q); omega) p e R s m args below meth c Zf H locs lr X hR hW hS hl)
theorem gg_icmp_ge_t (d : decode mt.2.1 pc = .ok (.if_icmp .ge off, 3)) (ht : (pc : Int) + off = (tgt : Int)) (hr : -2147483648 ≤ a ∧ a ≤ 2147483647 ∧ -2147483648 ≤ b ∧ b ≤ 2147483647) (hc : b ≤ a) (kt : gG l Γ mt B tgt ls st μ Q) : gG l Γ mt B pc ls (.int (iv b) :: .int (iv a) :: st) μ Q := gg_icmp_ge d ht hr (fun _ => kt) (fun h => absurd hc (by omega))
theorem gg_icmp_ge_f (d : decode mt.2.1 pc = .ok (.if_icmp .ge off, 3)) (ht : (pc : Int) + off = (tgt : Int)) (hr : -2147483648 ≤ a ∧ a ≤ 2147483647 ∧ -2147483648 ≤ b ∧ b ≤ 2147483647) (hc : a < b) (kf : gG l Γ mt B (pc + 3) ls st μ Q) : gG l Γ mt B pc ls (.int (iv b) :: .int (iv a) :: st) μ Q := fun p e R s m args below meth c Zf H locs lr X hR hW hS hl =>
  gg_icmp_ge (tgt := tgt) d ht hr (fun h => absurd hc (by omega)) (fun _ => kf) p e R s m args below meth c Zf H locs lr X hR hW hS hl
theorem gg_if_gt (d : decode mt.2.1 pc = .ok (.ifCond .gt off, 3)) (ht : (pc : Int) + off = (tgt : Int)) (hr : -2147483648 ≤ a ∧ a ≤ 2147483647) (kt : 0 < a → gG l Γ mt B tgt ls st μ Q) (kf : a ≤ 0 → gG l Γ mt B (pc + 3) ls st μ Q) : gG l Γ mt B pc ls (.int (iv a) :: st) μ Q := fun p e R s m args below meth c Zf H locs lr X hR hW hS hl =>
  lv_if_gt X.1 X.2.1 d ht (fun h => kt (by have z := (iv_lt (a := 0) (b := a) (by omega)).mp h; omega) p e R s m args below meth c Zf H locs lr X hR hW hS hl) (fun h => kf (by have z : ¬ (0 < a) := fun q => h ((iv_lt (a := 0) (b := a) (by omega)).mpr q); omega) p e R s m args below meth c Zf H locs lr X hR hW hS hl)
theorem gg_if_gt_t (d : decode mt.2.1 pc = .ok (.ifCond .gt off, 3)) (ht : (pc : Int) + off = (tgt : Int)) (hr : -2147483648 ≤ a ∧ a ≤ 2147483647) (hc : 0 < a) (kt : gG l Γ mt B tgt ls st μ Q) : gG l Γ mt B pc ls (.int (iv a) :: st) μ Q := gg_if_gt d ht hr (fun _ => kt) (fun h => absurd hc (by omega))
theorem gg_if_gt_f (d : decode mt.2.1 pc = .ok (.ifCond .gt off, 3)) (ht : (pc : Int) + off = (tgt : Int)) (hr : -2147483648 ≤ a ∧ a ≤ 2147483647) (hc : a ≤ 0) (kf : gG l Γ mt B (pc + 3) ls st μ Q) : gG l Γ mt B pc ls (.int (iv a) :: st) μ Q := fun p e R s m args below meth c Zf H locs lr X hR hW hS hl =>
  gg_if_gt (tgt := tgt) d ht hr (fun h => absurd hc (by omega)) (fun _ => kf) p e R s m args below meth c Zf H locs lr X hR hW hS hl
theorem gg_icmp_gt (d : decode mt.2.1 pc = .ok (.if_icmp .gt off, 3)) (ht : (pc : Int) + off = (tgt : Int)) (hr : -2147483648 ≤ a ∧ a ≤ 2147483647 ∧ -2147483648 ≤ b ∧ b ≤ 2147483647) (kt : b < a → gG l Γ mt B tgt ls st μ Q) (kf : a ≤ b → gG l Γ mt B (pc + 3) ls st μ Q) : gG l Γ mt B pc ls (.int (iv b) :: .int (iv a) :: st) μ Q := fun p e R s m args below meth c Zf H locs lr X hR hW hS hl =>
  lv_icmp_gt X.1 X.2.1 d ht (fun h => kt (by have z := (iv_lt (a := b) (b := a) (by omega)).mp h; omega) p e R s m args below meth c Zf H locs lr X hR hW hS hl) (fun h => kf (by have z : ¬ (b < a) := fun q => h ((iv_lt (a := b) (b := a) (by omega)).mpr q); omega) p e R s m args below meth c Zf H locs lr X hR hW hS hl)
theorem gg_icmp_gt_t (d : decode mt.2.1 pc = .ok (.if_icmp .gt off, 3)) (ht : (pc : Int) + off = (tgt : Int)) (hr : -2147483648 ≤ a ∧ a ≤ 2147483647 ∧ -2147483648 ≤ b ∧ b ≤ 2147483647) (hc : b < a) (kt : gG l Γ mt B tgt ls st μ Q) : gG l Γ mt B pc ls (.int (iv b) :: .int (iv a) :: st) μ Q := gg_icmp_gt d ht hr (fun _ => kt) (fun h => absurd hc (by omega))
theorem gg_icmp_gt_f (d : decode mt.2.1 pc = .ok (.if_icmp .gt off, 3)) (ht : (pc : Int) + off = (tgt : Int)) (hr : -2147483648 ≤ a ∧ a ≤ 2147483647 ∧ -2147483648 ≤ b ∧ b ≤ 2147483647) (hc : a ≤ b) (kf : gG l Γ mt B (pc + 3) ls st μ Q) : gG l Γ mt B pc ls (.int (iv b) :: .int (iv a) :: st) μ Q := fun p e R s m args below meth c Zf H locs lr X hR hW hS hl =>
  gg_icmp_gt (tgt := tgt) d ht hr (fun h => absurd hc (by omega)) (fun _ => kf) p e R s m args below meth c Zf H locs lr X hR hW hS hl
theorem gg_if_le (d : decode mt.2.1 pc = .ok (.ifCond .le off, 3)) (ht : (pc : Int) + off = (tgt : Int)) (hr : -2147483648 ≤ a ∧ a ≤ 2147483647) (kt : a ≤ 0 → gG l Γ mt B tgt ls st μ Q) (kf : 0 < a → gG l Γ mt B (pc + 3) ls st μ Q) : gG l Γ mt B pc ls (.int (iv a) :: st) μ Q := fun p e R s m args below meth c Zf H locs lr X hR hW hS hl =>
  lv_if_le X.1 X.2.1 d ht (fun h => kt (by have z := (iv_le (a := a) (b := 0) (by omega)).mp h; omega) p e R s m args below meth c Zf H locs lr X hR hW hS hl) (fun h => kf (by have z : ¬ (a ≤ 0) := fun q => h ((iv_le (a := a) (b := 0) (by omega)).mpr q); omega) p e R s m args below meth c Zf H locs lr X hR hW hS hl)
theorem gg_if_le_t (d : decode mt.2.1 pc = .ok (.ifCond .le off, 3)) (ht : (pc : Int) + off = (tgt : Int)) (hr : -2147483648 ≤ a ∧ a ≤ 2147483647) (hc : a ≤ 0) (kt : gG l Γ mt B tgt ls st μ Q) : gG l Γ mt B pc ls (.int (iv a) :: st) μ Q := gg_if_le d ht hr (fun _ => kt) (fun h => absurd hc (by omega))
theorem gg_if_le_f (d : decode mt.2.1 pc = .ok (.ifCond .le off, 3)) (ht : (pc : Int) + off = (tgt : Int)) (hr : -2147483648 ≤ a ∧ a ≤ 2147483647) (hc : 0 < a) (kf : gG l Γ mt B (pc + 3) ls st μ Q) : gG l Γ mt B pc ls (.int (iv a) :: st) μ Q := fun p e R s m args below meth c Zf H locs lr X hR hW hS hl =>
  gg_if_le (tgt := tgt) d ht hr (fun h => absurd hc (by omega)) (fun _ => kf) p e R s m args below meth c Zf H locs lr X hR hW hS hl
theorem gg_icmp_le (d : decode mt.2.1 pc = .ok (.if_icmp .le off, 3)) (ht : (pc : Int) + off = (tgt : Int)) (hr : -2147483648 ≤ a ∧ a ≤ 2147483647 ∧ -2147483648 ≤ b ∧ b ≤ 2147483647) (kt : a ≤ b → gG l Γ mt B tgt ls st μ Q) (kf : b < a → gG l Γ mt B (pc + 3) ls st μ Q) : gG l Γ mt B pc ls (.int (iv b) :: .int (iv a) :: st) μ Q := fun p e R s m args below meth c Zf H locs lr X hR hW hS hl =>
  lv_icmp_le X.1 X.2.1 d ht (fun h => kt (by have z := (iv_le (a := a) (b := b) (by omega)).mp h; omega) p e R s m args below meth c Zf H locs lr X hR hW hS hl) (fun h => kf (by have z : ¬ (a ≤ b) := fun q => h ((iv_le (a := a) (b := b) (by omega)).mpr q); omega) p e R s m args below meth c Zf H locs lr X hR hW hS hl)
theorem gg_icmp_le_t (d : decode mt.2.1 pc = .ok (.if_icmp .le off, 3)) (ht : (pc : Int) + off = (tgt : Int)) (hr : -2147483648 ≤ a ∧ a ≤ 2147483647 ∧ -2147483648 ≤ b ∧ b ≤ 2147483647) (hc : a ≤ b) (kt : gG l Γ mt B tgt ls st μ Q) : gG l Γ mt B pc ls (.int (iv b) :: .int (iv a) :: st) μ Q := gg_icmp_le d ht hr (fun _ => kt) (fun h => absurd hc (by omega))
theorem gg_icmp_le_f (d : decode mt.2.1 pc = .ok (.if_icmp .le off, 3)) (ht : (pc : Int) + off = (tgt : Int)) (hr : -2147483648 ≤ a ∧ a ≤ 2147483647 ∧ -2147483648 ≤ b ∧ b ≤ 2147483647) (hc : b < a) (kf : gG l Γ mt B (pc + 3) ls st μ Q) : gG l Γ mt B pc ls (.int (iv b) :: .int (iv a) :: st) μ Q := fun p e R s m args below meth c Zf H locs lr X hR hW hS hl =>
  gg_icmp_le (tgt := tgt) d ht hr (fun h => absurd hc (by omega)) (fun _ => kf) p e R s m args below meth c Zf H locs lr X hR hW hS hl
theorem gcmp_lt {x y : Int64} : lg_cmp x y < 0 ↔ x < y := by
  unfold lg_cmp
  by_cases h1 : x > y
  · rw [if_pos h1]
    exact ⟨fun h => absurd h (by decide), fun h => (Int64.lt_irrefl (Int64.lt_trans h h1)).elim⟩
  · by_cases h2 : x = y
    · rw [if_neg h1, if_pos h2]
      exact ⟨fun h => absurd h (by decide), fun h => (Int64.lt_irrefl (h2 ▸ h)).elim⟩
    · rw [if_neg h1, if_neg h2]
      exact ⟨fun _ => Int64.lt_of_le_of_ne (Int64.not_lt.mp h1) h2, fun _ => by decide⟩
theorem gcmp_gt {x y : Int64} : 0 < lg_cmp x y ↔ y < x := by
  unfold lg_cmp
  by_cases h1 : x > y
  · rw [if_pos h1]
    exact ⟨fun _ => h1, fun _ => by decide⟩
  · by_cases h2 : x = y
    · rw [if_neg h1, if_pos h2]
      exact ⟨fun h => absurd h (by decide), fun h => absurd h h1⟩
    · rw [if_neg h1, if_neg h2]
      exact ⟨fun h => absurd h (by decide), fun h => absurd h h1⟩
theorem gcmp_eq {x y : Int64} : lg_cmp x y = 0 ↔ x = y := by
  unfold lg_cmp
  by_cases h1 : x > y
  · rw [if_pos h1]
    exact ⟨fun h => absurd h (by decide), fun h => (Int64.lt_irrefl (h ▸ h1 : y < y)).elim⟩
  · by_cases h2 : x = y
    · rw [if_neg h1, if_pos h2]
      exact ⟨fun _ => h2, fun _ => rfl⟩
    · rw [if_neg h1, if_neg h2]
      exact ⟨fun h => absurd h (by decide), fun h => absurd h h2⟩
theorem gg_lcmp_eq (d : decode mt.2.1 pc = .ok (.lcmp, 1)) (d2 : decode mt.2.1 (pc + 1) = .ok (.ifCond .eq off, 3)) (ht : ((pc + 1 : Nat) : Int) + off = (tgt : Int)) (kt : x = y → gG l Γ mt B tgt ls st μ Q) (kf : ¬ x = y → gG l Γ mt B (pc + 4) ls st μ Q) : gG l Γ mt B pc ls (.long y :: .long x :: st) μ Q := fun p e R s m args below meth c Zf H locs lr X hR hW hS hl =>
  W.lcmp X.1 X.2.1 d (lv_if_eq X.1 X.2.1 d2 ht (fun h => kt (gcmp_eq.mp h) p e R s m args below meth c Zf H locs lr X hR hW hS hl) (fun h => kf (fun q => h (gcmp_eq.mpr q)) p e R s m args below meth c Zf H locs lr X hR hW hS hl))
theorem gg_lcmp_ne (d : decode mt.2.1 pc = .ok (.lcmp, 1)) (d2 : decode mt.2.1 (pc + 1) = .ok (.ifCond .ne off, 3)) (ht : ((pc + 1 : Nat) : Int) + off = (tgt : Int)) (kt : ¬ x = y → gG l Γ mt B tgt ls st μ Q) (kf : x = y → gG l Γ mt B (pc + 4) ls st μ Q) : gG l Γ mt B pc ls (.long y :: .long x :: st) μ Q := fun p e R s m args below meth c Zf H locs lr X hR hW hS hl =>
  W.lcmp X.1 X.2.1 d (lv_if_ne X.1 X.2.1 d2 ht (fun h => kt (fun q => h (gcmp_eq.mpr q)) p e R s m args below meth c Zf H locs lr X hR hW hS hl) (fun h => kf (gcmp_eq.mp h) p e R s m args below meth c Zf H locs lr X hR hW hS hl))
theorem gg_lcmp_lt (d : decode mt.2.1 pc = .ok (.lcmp, 1)) (d2 : decode mt.2.1 (pc + 1) = .ok (.ifCond .lt off, 3)) (ht : ((pc + 1 : Nat) : Int) + off = (tgt : Int)) (kt : x < y → gG l Γ mt B tgt ls st μ Q) (kf : y ≤ x → gG l Γ mt B (pc + 4) ls st μ Q) : gG l Γ mt B pc ls (.long y :: .long x :: st) μ Q := fun p e R s m args below meth c Zf H locs lr X hR hW hS hl =>
  W.lcmp X.1 X.2.1 d (lv_if_lt X.1 X.2.1 d2 ht (fun h => kt (gcmp_lt.mp h) p e R s m args below meth c Zf H locs lr X hR hW hS hl) (fun h => kf (Int64.not_lt.mp (fun q => h (gcmp_lt.mpr q))) p e R s m args below meth c Zf H locs lr X hR hW hS hl))
theorem gg_lcmp_ge (d : decode mt.2.1 pc = .ok (.lcmp, 1)) (d2 : decode mt.2.1 (pc + 1) = .ok (.ifCond .ge off, 3)) (ht : ((pc + 1 : Nat) : Int) + off = (tgt : Int)) (kt : y ≤ x → gG l Γ mt B tgt ls st μ Q) (kf : x < y → gG l Γ mt B (pc + 4) ls st μ Q) : gG l Γ mt B pc ls (.long y :: .long x :: st) μ Q := fun p e R s m args below meth c Zf H locs lr X hR hW hS hl =>
  W.lcmp X.1 X.2.1 d (lv_if_ge X.1 X.2.1 d2 ht (fun h => kt (Int64.not_lt.mp (fun q => absurd h (Int32.not_le.mpr (gcmp_lt.mpr q)))) p e R s m args below meth c Zf H locs lr X hR hW hS hl) (fun h => kf (gcmp_lt.mp (Int32.not_le.mp h)) p e R s m args below meth c Zf H locs lr X hR hW hS hl))
theorem gg_lcmp_gt (d : decode mt.2.1 pc = .ok (.lcmp, 1)) (d2 : decode mt.2.1 (pc + 1) = .ok (.ifCond .gt off, 3)) (ht : ((pc + 1 : Nat) : Int) + off = (tgt : Int)) (kt : y < x → gG l Γ mt B tgt ls st μ Q) (kf : x ≤ y → gG l Γ mt B (pc + 4) ls st μ Q) : gG l Γ mt B pc ls (.long y :: .long x :: st) μ Q := fun p e R s m args below meth c Zf H locs lr X hR hW hS hl =>
  W.lcmp X.1 X.2.1 d (lv_if_gt X.1 X.2.1 d2 ht (fun h => kt (gcmp_gt.mp h) p e R s m args below meth c Zf H locs lr X hR hW hS hl) (fun h => kf (Int64.not_lt.mp (fun q => h (gcmp_gt.mpr q))) p e R s m args below meth c Zf H locs lr X hR hW hS hl))
theorem gg_lcmp_le (d : decode mt.2.1 pc = .ok (.lcmp, 1)) (d2 : decode mt.2.1 (pc + 1) = .ok (.ifCond .le off, 3)) (ht : ((pc + 1 : Nat) : Int) + off = (tgt : Int)) (kt : x ≤ y → gG l Γ mt B tgt ls st μ Q) (kf : y < x → gG l Γ mt B (pc + 4) ls st μ Q) : gG l Γ mt B pc ls (.long y :: .long x :: st) μ Q := fun p e R s m args below meth c Zf H locs lr X hR hW hS hl =>
  W.lcmp X.1 X.2.1 d (lv_if_le X.1 X.2.1 d2 ht (fun h => kt (Int64.not_lt.mp (fun q => absurd h (Int32.not_le.mpr (gcmp_gt.mpr q)))) p e R s m args below meth c Zf H locs lr X hR hW hS hl) (fun h => kf (gcmp_gt.mp (Int32.not_le.mp h)) p e R s m args below meth c Zf H locs lr X hR hW hS hl))
theorem gg_goto (d : decode mt.2.1 pc = .ok (.goto off, 3)) (ht : (pc : Int) + off = (tgt : Int)) (k : gG l Γ mt B tgt ls st μ Q) : gG l Γ mt B pc ls st μ Q := fun p e R s m args below meth c Zf H locs lr X hR hW hS hl =>
  lv_goto X.1 X.2.1 d ht (k p e R s m args below meth c Zf H locs lr X hR hW hS hl)
theorem gg_ldc {w : Int32} {own : String} {idx : Nat} (ho : mt.1.cls = own) (hq : Cond.constant own idx w ∈ WT) (d : decode mt.2.1 pc = .ok (.ldc idx, 2)) (hv : w = iv a) (k : gG l Γ mt B (pc + 2) ls (.int (iv a) :: st) μ Q) : gG l Γ mt B pc ls st μ Q := fun p e R s m args below meth c Zf H locs lr X hR hW hS hl =>
  lv_ldc X.1 X.2.1 (own := own) (by rw [← ho]; exact X.2.2.2.1) (X.2.2.2.2.1 _ hq) d (by rw [hv]; exact k p e R s m args below meth c Zf H locs lr X hR hW hS hl)
theorem gg_ldc2 {own : String} {idx : Nat} (ho : mt.1.cls = own) (hq : Cond.constantLong own idx x ∈ WT) (d : decode mt.2.1 pc = .ok (.ldc2_w idx, 3)) (k : gG l Γ mt B (pc + 3) ls (.long x :: st) μ Q) : gG l Γ mt B pc ls st μ Q := fun p e R s m args below meth c Zf H locs lr X hR hW hS hl =>
  lv_ldc2 X.1 X.2.1 (own := own) (by rw [← ho]; exact X.2.2.2.1) (X.2.2.2.2.1 _ hq) d (k p e R s m args below meth c Zf H locs lr X hR hW hS hl)
theorem gg_tsw {dflt lo hi : Int} {offs : Array Int} {len : Nat} (d : decode mt.2.1 pc = .ok (.tableswitch dflt lo hi offs, len)) (hr : -2147483648 ≤ a ∧ a ≤ 2147483647) (h1 : lo ≤ a ∧ a ≤ hi) (ho : offs[(a - lo).toNat]? = some off) (ht : (pc : Int) + off = (tgt : Int)) (k : gG l Γ mt B tgt ls st μ Q) : gG l Γ mt B pc ls (.int (iv a) :: st) μ Q := fun p e R s m args below meth c Zf H locs lr X hR hW hS hl =>
  lv_tableIn X.1 X.2.1 d (by rw [iv_toInt hr]; omega) (by rw [iv_toInt hr]; omega) (by rw [iv_toInt hr]; exact ho) ht (k p e R s m args below meth c Zf H locs lr X hR hW hS hl)
theorem gg_tsw_out {dflt lo hi : Int} {offs : Array Int} {len : Nat} (d : decode mt.2.1 pc = .ok (.tableswitch dflt lo hi offs, len)) (hr : -2147483648 ≤ a ∧ a ≤ 2147483647) (h1 : a < lo ∨ hi < a) (ht : (pc : Int) + dflt = (tgt : Int)) (k : gG l Γ mt B tgt ls st μ Q) : gG l Γ mt B pc ls (.int (iv a) :: st) μ Q := fun p e R s m args below meth c Zf H locs lr X hR hW hS hl =>
  lv_tableOut X.1 X.2.1 d (by rw [iv_toInt hr]; exact h1) ht (k p e R s m args below meth c Zf H locs lr X hR hW hS hl)
theorem gg_lsw {dflt : Int} {ps : Array (Int × Int)} {len : Nat} (d : decode mt.2.1 pc = .ok (.lookupswitch dflt ps, len)) (hp : (ps.toList.zip (ps.toList.drop 1)).all (fun (a, next) => a.1 < next.1) = true) (hr : -2147483648 ≤ a ∧ a ≤ 2147483647) (ho : Op.lookupswitch.offset ps.toList dflt a = off) (ht : (pc : Int) + off = (tgt : Int)) (k : gG l Γ mt B tgt ls st μ Q) : gG l Γ mt B pc ls (.int (iv a) :: st) μ Q := fun p e R s m args below meth c Zf H locs lr X hR hW hS hl =>
  lv_lookup X.1 X.2.1 d hp (by rw [iv_toInt hr]; exact ho) ht (k p e R s m args below meth c Zf H locs lr X hR hW hS hl)
theorem gg_sub (is : List Nat) (h : lv_pick ls is = ls') (k : gG l Γ mt B pc ls' st μ Q) : gG l Γ mt B pc ls st μ Q := fun p e R s m args below meth c Zf H locs lr X hR hW hS hl =>
  (fun hl => k p e R s m args below meth c Zf H locs lr X hR hW hS hl) (lv_sub hl is h)
theorem gg_iret (d : decode mt.2.1 pc = .ok (.ireturn, 1)) {ty : FieldType} (hr : mt.2.2.2 = some ty) (hn : narrow ty (.int (iv a)) = .int (iv a)) (hB : B.2.2.2.1 = B.2.1 ∧ B.2.2.2.2 = B.2.2.1) (k : Q (some (.int (iv a))) μ) : gG l Γ mt B pc ls [.int (iv a)] μ Q := fun p e R s m args below meth c Zf H locs lr X hR hW hS hl => by
  rw [hB.1, hB.2]
  exact hR (some (.int (iv a))) μ H locs pc lr .ireturn k hW hS d (Or.inr (Or.inl ⟨_, _, rfl, hr, hn, rfl⟩))
theorem gg_lret (d : decode mt.2.1 pc = .ok (.lreturn, 1)) (hr : mt.2.2.2 = some .long) (hB : B.2.2.2.1 = B.2.1 ∧ B.2.2.2.2 = B.2.2.1) (k : Q (some (.long x)) μ) : gG l Γ mt B pc ls [.long x] μ Q := fun p e R s m args below meth c Zf H locs lr X hR hW hS hl => by
  rw [hB.1, hB.2]
  exact hR (some (.long x)) μ H locs pc lr .lreturn k hW hS d (Or.inr (Or.inr ⟨_, rfl, hr, rfl⟩))
theorem gg_vret (d : decode mt.2.1 pc = .ok (.return_, 1)) (hr : mt.2.2.2 = none) (hB : B.2.2.2.1 = B.2.1 ∧ B.2.2.2.2 = B.2.2.1) (k : Q none μ) : gG l Γ mt B pc ls [] μ Q := fun p e R s m args below meth c Zf H locs lr X hR hW hS hl => by
  rw [hB.1, hB.2]
  exact hR none μ H locs pc lr .return_ k hW hS d (Or.inl ⟨rfl, hr, rfl⟩)
end GR
