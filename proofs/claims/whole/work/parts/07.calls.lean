/-! contracts over worlds, and calls -/
def gQ (Γ : gC) (Q : Option Value → gM → Prop) : Array Value → State → Outcome → State → Prop := fun _ st o t => (∃ (r : Option Value) (μ : gM), o = .returned r ∧ Q r μ ∧ gW Γ μ t t.heap) ∧ va_F (gA Γ) st t
def gRm (d mc ms : Nat) : Room := { frames := d, cells := mc, slots := ms, locals := 41 * d }
abbrev gWs (mt : gY) : List Cond := Cond.code mt.1 mt.2.1 mt.2.2.1 mt.2.2.2 :: WT
abbrev gPc (Γ : gC) (av : List Value) (μ : gM) : Array Value → State → Prop := va_Pc av (fun U => gW Γ μ U U.heap ∧ gZ Γ U U.heap)
/-- THE CONTRACT: called with av in the world μ, in d frames, mt returns with Q of answer and world -/
def gK (l : Launch) (Γ : gC) (mt : gY) (d mc ms : Nat) (av : List Value) (μ : gM) (Q : Option Value → gM → Prop) : Prop := Met l mt.1 (gWs mt) (gRm d mc ms) (gPc Γ av μ) (gQ Γ Q) mc ms (gA Γ)
theorem gW_moved {Γ : gC} {μ : gM} {s t : State} {H : Heap} (ha : s.vm.Alike t.vm) (h : gW Γ μ s H) : gW Γ μ t H := ⟨va_K.moved ha h.1, h.2⟩
theorem gK_of {l : Launch} {Γ : gC} {mt : gY} {d mc ms : Nat} {av : List Value} {μ : gM} {Q : Option Value → gM → Prop} (ok : gOk mt) (hn : (lg_sl av).length ≤ mt.2.2.1) (h : gG l Γ mt (d, mc, ms, 0, 0) 0 (lv_args 0 av) [] μ Q) : gK l Γ mt d mc ms av μ Q := by
  refine Met.ofW (cc := mt.2.1) (maxL := mt.2.2.1) (ret := mt.2.2.2) ok.2.2.2 rfl ?_
  intro p e s m args below meth c s₁ B hml hv
  obtain ⟨rfl, hW, hZ⟩ := hv
  have hx := B.exec
  have hb := B.bytes
  have hr := B.returns
  have hts := atoms_spec (ws := gWs mt) B.pre
  have hown : s.vm.findClass mt.1.cls = some m.cls := findClass_of_methodNamed B.named
  have hlocks := B.notSynchronized
  have hin : meth.name = mt.1.name := (name_of_methodNamed B.named B.method).1
  have hl := lv_entry av (n := mt.2.2.1) hn
  rw [lg_entry_eq]
  refine h p e _ s m _ below meth c _ s.heap [] _ ⟨hx, hb, hml, hown, fun w hw => hts w (List.mem_cons_of_mem _ hw), hin, hZ, Nat.le_refl _, Nat.le_refl _, Nat.le_refl _, Nat.le_refl _⟩ ?_ hW va_S.rf hl
  intro r μ' H locs pc lr i hQ hW' hS hd hi
  rcases hi with ⟨rfl, hret, rfl⟩ | ⟨v, ty, rfl, hret, hnar, rfl⟩ | ⟨v, rfl, hret, rfl⟩
  · exact W.vret hx hb (hr.trans hret) (fun t ht hw => ⟨⟨_, μ', rfl, hQ, by rw [ht]; exact gW_moved hw.alike hW'⟩, hS.F ht⟩) hS.2.2 hd hlocks
  · exact W.zret hx hb (hr.trans hret) hnar (fun t ht hw => ⟨⟨_, μ', rfl, hQ, by rw [ht]; exact gW_moved hw.alike hW'⟩, hS.F ht⟩) hS.2.2 hd hlocks
  · exact W.lret hx hb (hr.trans hret) (fun t ht hw => ⟨⟨_, μ', rfl, hQ, by rw [ht]; exact gW_moved hw.alike hW'⟩, hS.F ht⟩) hS.2.2 hd hlocks
theorem gK_mono {l : Launch} {Γ : gC} {mt : gY} {d mc ms : Nat} {av : List Value} {μ : gM} {Q Q' : Option Value → gM → Prop} (h : gK l Γ mt d mc ms av μ Q) (hQ : ∀ r μ, Q r μ → Q' r μ) : gK l Γ mt d mc ms av μ Q' := by
  intro p e a1 a2 a3 s m args below b1 b2 b3 b4
  obtain ⟨t, o, h0, h1, h2, ⟨⟨⟨r, μ', g1, g2, g3⟩, g4⟩, g5⟩⟩ := h p e a1 a2 a3 s m args below b1 b2 b3 b4
  exact ⟨t, o, h0, h1, h2, ⟨⟨⟨r, μ', g1, hQ _ _ g2, g3⟩, g4⟩, g5⟩⟩
theorem gPc_blind {Γ : gC} {av : List Value} {μ : gM} : FrameBlind (gPc Γ av μ) := fun a U g mk q => ⟨q.1, gW_moved (s := U) (t := U.calling g mk a) (Vm.Alike.refl U.vm) q.2.1, gZ_same (u := U) (U := U.calling g mk a) rfl q.2.2⟩
theorem gGood {mt : gY} (ok : gOk mt) : GoodIn WT (gWs mt) := fun w hw => by
  rcases List.mem_cons.mp hw with rfl | h
  · exact ⟨ok.1, good_of_word (gWT_good _ ok.1)⟩
  · exact ⟨h, good_of_word (gWT_good _ h)⟩
def gAr (mt : gY) (n : Nat) : Prop := (parseMethodDescriptor mt.1.desc).map (fun d => d.parameters.length) = some n ∧ mt.2.2.1 ≤ 21
section GCL
variable {p : Program} {l : Launch} {e : Env} {R : Room} {s : State} {m : MethodId} {args : Array Value} {below : List Frame} {meth : Method} {c : Code} {H : Heap} {locs : List Loc} {cells slots : Nat} {Zf : State → Prop} {pc : Nat} {lr : Array Slot} {st0 rest : List Value} {mc ms : Nat} {a : Array Value} {Γ : gC} {Q' : Option Value → gM → Prop}
theorem gRun (hr : va_Run p l e R s m args below meth c H locs cells slots mc ms (F0 m pc lr st0) rest (gQ Γ Q' a) (gA Γ)) (hS : va_S (gA Γ) s.heap H locs)
    (kk : ∀ (r : Option Value) (μ : gM) (H1 : Heap) (locs1 : List Loc), Q' r μ → gW Γ μ s H1 → va_S (gA Γ) s.heap H1 locs1 → W p l e R s m args below meth c H1 locs1 (cells + mc) (slots + ms) Zf (F0 m (pc + 3) lr (r.toList ++ rest))) : W p l e R s m args below meth c H locs cells slots Zf (F0 m pc lr st0) := by
  intro T hT X
  obtain ⟨v, st₀, t, T', L, h0, X', hL, e1, e2, ⟨⟨r, μ, hv, hq, hw⟩, hz, hk⟩, st⟩ := hr T hT X
  cases hv
  rw [h0] at hz hk
  have hal : t.vm.Alike s.vm := by rw [← e2]; exact X'.warmed.alike.symm
  obtain ⟨t2, a1, b1⟩ := kk v μ T'.heap (locs ++ L) hq (by rw [e1]; exact gW_moved hal hw)
    ⟨Nat.le_trans hS.1 (by rw [e1]; exact hz), fun q h1 h2 => by rw [e1, hk q (Nat.lt_of_lt_of_le h1 hS.1) h2]; exact hS.2.1 q h1 h2, fun q hq => by
      rcases List.mem_append.mp hq with h | h
      · exact hS.2.2 q h
      · exact hL q h⟩ T' rfl X'
  exact ⟨t2, st t2 a1, b1⟩
end GCL
theorem gZ_now {Γ : gC} {s : State} {H : Heap} {locs : List Loc} (h : gZ Γ s s.heap) (hS : va_S (gA Γ) s.heap H locs) : gZ Γ s H := gZ_kept h hS.2.1
section GCR
variable {l : Launch} {Γ : gC} {mt yt : gY} {B : gB} {pc : Nat} {ls : List (Nat × Value)} {av st rest : List Value} {μ : gM} {S : gS} {I : Nat → Nat → Int} {J : Nat → Nat → Int64} {Q Q' : Option Value → gM → Prop} {k n na ci idx d' : Nat} {own : String}
theorem gPre {s : State} {H : Heap} {locs : List Loc} (hW : gW Γ μ s H) (hZ : gZ Γ s s.heap) (hS : va_S (gA Γ) s.heap H locs) : ∀ U : State, U.heap = H → s.WarmedH U.vm → gPc Γ av μ av.toArray U := fun U hU hw => ⟨rfl, by rw [hU]; exact gW_moved hw.alike hW, by rw [hU]; exact gZ_warm hw (gZ_now hZ hS)⟩
theorem gg_callV (ho : mt.1.cls = own) (hlk : Cond.methodLink own idx yt.1 ∈ WT) (ok : gOkV yt) (har : gAr yt na) (d : decode mt.2.1 pc = .ok (.invokevirtual idx, 3)) (hC : gK l Γ yt d' 0 0 (.ref (gad S k) :: av) (S, I, J) Q') (hs : S.2.1 k = (ci, n)) (hk : k < S.1) (hci : ci < 11) (hcl : (gcl ci).1 = yt.1.cls) (hna : av.length = na) (hst : st = av.reverse ++ .ref (gad S k) :: rest) (hcat : (rest.map fun v => v.category).sum ≤ 8) (hd : d' + 1 ≤ B.1) (hu : B.2.2.2.1 ≤ B.2.1 ∧ B.2.2.2.2 ≤ B.2.2.1)
    (kk : ∀ (r : Option Value) (μ' : gM), Q' r μ' → gG l Γ mt B (pc + 3) ls (r.toList ++ rest) μ' Q) : gG l Γ mt B pc ls st (S, I, J) Q := fun p e R s m args below meth c Zf H locs lr X hR hW hS hl => by
  obtain ⟨hx, hb, hml, hown, hts, hnm, hZ, hf1, hf2, hf3, hf4⟩ := id X
  subst hst
  have hRm : (gRm d' 0 0).frames + 1 ≤ R.frames ∧ 8 + (yt.2.2.1 + 11) + (gRm d' 0 0).locals ≤ R.locals := by
    have := har.2
    refine ⟨?_, ?_⟩
    · show d' + 1 ≤ R.frames
      omega
    · show 8 + (yt.2.2.1 + 11) + 41 * d' ≤ R.locals
      omega
  refine gRun (va_runV (own := own) (C := yt.1.cls) (As := av) (b := gad S k) (rest := rest) (n := na) (Ts := WT) ⟨hx, hb, hml, by rw [← ho]; exact hown, hts⟩ hC ⟨callB_of na hts (gGood ok.1) rfl rfl rfl (hts _ ok.1.2.1) (hts _ hlk) ⟨ok.1.2.2.1.1, ok.1.2.2.1.2, har.1⟩ hRm, hts _ ok.2.1, hts _ ok.2.2⟩
    ⟨gPc_blind, ?_, gPre hW hZ hS⟩ rfl hna hl.1 rfl (lv_room hcat) d ⟨by omega, by omega⟩) hS (fun r μ' H1 locs1 hq hw hs1 => kk r μ' hq p e R s m args below meth c Zf H1 locs1 lr X hR hw hs1 hl)
  have z := va_recv (ci := ci) (q0 := k) hW.1 hW.2.1 (gcl_ok ci hci) ((gWl_at (μ := (S, I, J)) hk).trans (by rw [gE_obj hs (by omega)]))
  rw [hcl] at z
  exact z
theorem gg_callS (ho : mt.1.cls = own) (hlk : Cond.methodLink own idx yt.1 ∈ WT) (ok : gOkS yt) (har : gAr yt na) (d : decode mt.2.1 pc = .ok (.invokestatic idx, 3)) (hC : gK l Γ yt d' 0 0 av μ Q') (hna : av.length = na) (hst : st = av.reverse ++ rest) (hcat : (rest.map fun v => v.category).sum ≤ 8) (hd : d' + 1 ≤ B.1) (hu : B.2.2.2.1 ≤ B.2.1 ∧ B.2.2.2.2 ≤ B.2.2.1)
    (kk : ∀ (r : Option Value) (μ' : gM), Q' r μ' → gG l Γ mt B (pc + 3) ls (r.toList ++ rest) μ' Q) : gG l Γ mt B pc ls st μ Q := fun p e R s m args below meth c Zf H locs lr X hR hW hS hl => by
  obtain ⟨hx, hb, hml, hown, hts, hnm, hZ, hf1, hf2, hf3, hf4⟩ := id X
  subst hst
  have hRm : (gRm d' 0 0).frames + 1 ≤ R.frames ∧ 8 + (yt.2.2.1 + 11) + (gRm d' 0 0).locals ≤ R.locals := by
    have := har.2
    refine ⟨?_, ?_⟩
    · show d' + 1 ≤ R.frames
      omega
    · show 8 + (yt.2.2.1 + 11) + 41 * d' ≤ R.locals
      omega
  exact gRun (va_runS (own := own) (As := av) (rest := rest) (n := na) (Ts := WT) ⟨hx, hb, hml, by rw [← ho]; exact hown, hts⟩ hC ⟨callB_of na hts (gGood ok.1) rfl rfl rfl (hts _ ok.1.2.1) (hts _ hlk) ⟨ok.1.2.2.1.1, ok.1.2.2.1.2, har.1⟩ hRm, hts _ ok.2⟩
    ⟨gPc_blind, gPre hW hZ hS⟩ rfl hna hl.1 rfl (lv_room hcat) d ⟨by omega, by omega⟩) hS (fun r μ' H1 locs1 hq hw hs1 => kk r μ' hq p e R s m args below meth c Zf H1 locs1 lr X hR hw hs1 hl)
theorem gg_callSN {host : String} (ho : mt.1.cls = own) (hlk : Cond.methodLinkNest own idx yt.1 host ∈ gNest) (ok : gOkS yt) (har : gAr yt na) (d : decode mt.2.1 pc = .ok (.invokestatic idx, 3)) (hC : gK l Γ yt d' 0 0 av μ Q') (hna : av.length = na) (hst : st = av.reverse ++ rest) (hcat : (rest.map fun v => v.category).sum ≤ 8) (hd : d' + 1 ≤ B.1) (hu : B.2.2.2.1 ≤ B.2.1 ∧ B.2.2.2.2 ≤ B.2.2.1)
    (kk : ∀ (r : Option Value) (μ' : gM), Q' r μ' → gG l Γ mt B (pc + 3) ls (r.toList ++ rest) μ' Q) : gG l Γ mt B pc ls st μ Q := fun p e R s m args below meth c Zf H locs lr X hR hW hS hl => by
  obtain ⟨hx, hb, hml, hown, hts, hnm, hZ, hf1, hf2, hf3, hf4⟩ := id X
  subst hst
  have hRm : (gRm d' 0 0).frames + 1 ≤ R.frames ∧ 8 + (yt.2.2.1 + 11) + (gRm d' 0 0).locals ≤ R.locals := by
    have := har.2
    refine ⟨?_, ?_⟩
    · show d' + 1 ≤ R.frames
      omega
    · show 8 + (yt.2.2.1 + 11) + 41 * d' ≤ R.locals
      omega
  exact gRun (va_runSN (own := own) (host := host) (As := av) (rest := rest) (n := na) (Ts := WT) ⟨hx, hb, hml, by rw [← ho]; exact hown, hts⟩ hC ⟨va_cnB na hts (gGood ok.1) rfl rfl rfl (hZ.2.2.2.2.2.2.2.2.1 _ hlk) (hts _ ok.1.2.1) ⟨ok.1.2.2.1.1, ok.1.2.2.1.2, har.1⟩ hRm, hts _ ok.2, trivial⟩
    ⟨gPc_blind, gPre hW hZ hS⟩ rfl hna hl.1 rfl (lv_room hcat) d ⟨by omega, by omega⟩) hS (fun r μ' H1 locs1 hq hw hs1 => kk r μ' hq p e R s m args below meth c Zf H1 locs1 lr X hR hw hs1 hl)
end GCR
