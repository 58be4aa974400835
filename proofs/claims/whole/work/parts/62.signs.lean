/-! the text of signs -/
def gsn (j : Nat) : Int := match j with | 0 => 40 | 1 => 41 | 2 => 91 | 3 => 93 | 4 => 43 | 5 => 45 | 6 => 42 | 7 => 94 | 8 => 63 | _ => 58
theorem gsn_at : ∀ j, j < 10 → gSigns.getD j 0 = iv (gsn j) := by
  intro j h
  match j, h with
  | 0, _ => decide
  | 1, _ => decide
  | 2, _ => decide
  | 3, _ => decide
  | 4, _ => decide
  | 5, _ => decide
  | 6, _ => decide
  | 7, _ => decide
  | 8, _ => decide
  | 9, _ => decide
theorem gsn_rng : ∀ j, j < 10 → 40 ≤ gsn j ∧ gsn j ≤ 94 := by
  intro j h
  match j, h with
  | 0, _ => decide
  | 1, _ => decide
  | 2, _ => decide
  | 3, _ => decide
  | 4, _ => decide
  | 5, _ => decide
  | 6, _ => decide
  | 7, _ => decide
  | 8, _ => decide
  | 9, _ => decide
theorem gsn_sg : ∀ j, j < 10 → gSg (gsn j) := by
  intro j h
  unfold gSg
  match j, h with
  | 0, _ => decide
  | 1, _ => decide
  | 2, _ => decide
  | 3, _ => decide
  | 4, _ => decide
  | 5, _ => decide
  | 6, _ => decide
  | 7, _ => decide
  | 8, _ => decide
  | 9, _ => decide
theorem gsn_of {c : Int} (h : gSg c) : ∃ j, j < 10 ∧ gsn j = c := by
  rcases h with h | h | h | h | h | h | h | h | h | h <;> subst h
  · exact ⟨0, by decide, rfl⟩
  · exact ⟨1, by decide, rfl⟩
  · exact ⟨6, by decide, rfl⟩
  · exact ⟨4, by decide, rfl⟩
  · exact ⟨5, by decide, rfl⟩
  · exact ⟨9, by decide, rfl⟩
  · exact ⟨8, by decide, rfl⟩
  · exact ⟨2, by decide, rfl⟩
  · exact ⟨3, by decide, rfl⟩
  · exact ⟨7, by decide, rfl⟩
theorem gi2b_byte {c : Int} (h : 0 ≤ c ∧ c ≤ 255) : (c ≤ 127 ∧ gi2b c = c) ∨ (128 ≤ c ∧ gi2b c < 0 ∧ -128 ≤ gi2b c) := by
  obtain ⟨m, rfl⟩ : ∃ m : Nat, c = (m : Int) := ⟨c.toNat, by omega⟩
  have key : ∀ m : Fin 256, (((m.val : Nat) : Int) ≤ 127 ∧ gi2b ((m.val : Nat) : Int) = ((m.val : Nat) : Int)) ∨ (128 ≤ ((m.val : Nat) : Int) ∧ gi2b ((m.val : Nat) : Int) < 0 ∧ -128 ≤ gi2b ((m.val : Nat) : Int)) := by decide +kernel
  exact key ⟨m, by omega⟩
section GSN
variable {l : Launch} {Γ : gC} {mt yt : gY} {B : gB} {pc : Nat} {ls : List (Nat × Value)} {av st rest : List Value} {μ : gM} {S : gS} {I : Nat → Nat → Int} {J : Nat → Nat → Int64} {Q Q' : Option Value → gM → Prop} {k n na ci idx d' : Nat} {own : String} {i : Int}
theorem gf_RJ0_38 : Cond.fieldLink RJ0 38 RJ0 "COMPACT_STRINGS" "Z" ∈ WT := gmem 1266 (by decide +kernel) (by decide +kernel)
theorem gf_RJ0_15 : Cond.fieldLink RJ0 15 RJ0 "coder" "B" ∈ WT := gmem 1661 (by decide +kernel) (by decide +kernel)
theorem gf_RJ0_9 : Cond.fieldLink RJ0 9 RJ0 "value" "[B" ∈ WT := gmem 1662 (by decide +kernel) (by decide +kernel)
theorem gg_sldc (ho : mt.1.cls = RX10) (d : decode mt.2.1 pc = .ok (.ldc 138, 2)) (kk : gG l Γ mt B (pc + 2) ls (.ref Γ.2.2.2.1.2.2.1 :: st) μ Q) : gG l Γ mt B pc ls st μ Q := fun p e R s m args below meth c Zf H locs lr X hR hW hS hl =>
  va_ldcS X.1 X.2.1 (own := RX10) (by rw [← ho]; exact X.2.2.2.1) X.2.2.2.2.2.2.1.2.2.2.2.2.1 d (kk p e R s m args below meth c Zf H locs lr X hR hW hS hl)
theorem gg_scmp (ho : mt.1.cls = RJ0) (d : decode mt.2.1 pc = .ok (.getstatic 38, 3)) (kk : gG l Γ mt B (pc + 3) ls (.int (iv 1) :: st) μ Q) : gG l Γ mt B pc ls st μ Q := fun p e R s m args below meth c Zf H locs lr X hR hW hS hl =>
  va_gets X.1 X.2.1 X.2.2.2.2.2.2.1.2.2.2.2.1 hS (own := RJ0) (ref := RJ0) (by rw [← ho]; exact X.2.2.2.1) (X.2.2.2.2.1 _ gf_RJ0_38) (fun _ h => h) d (kk p e R s m args below meth c Zf H locs lr X hR hW hS hl)
theorem gg_scoder (ho : mt.1.cls = RJ0) (d : decode mt.2.1 pc = .ok (.getfield 15, 3)) (kk : gG l Γ mt B (pc + 3) ls (.int (iv 0) :: st) μ Q) : gG l Γ mt B pc ls (.ref Γ.2.2.2.1.2.2.1 :: st) μ Q := fun p e R s m args below meth c Zf H locs lr X hR hW hS hl =>
  vk_getf X.1 X.2.1 (X.2.2.2.2.2.2.1.2.2.2.2.2.2.1.1 0 (by decide)).2.1 hS (own := RJ0) (ref := RJ0) (by rw [← ho]; exact X.2.2.2.1) (X.2.2.2.2.1 _ gf_RJ0_15) (fun _ h => h) d (kk p e R s m args below meth c Zf H locs lr X hR hW hS hl)
theorem gg_svalue (ho : mt.1.cls = RJ0) (d : decode mt.2.1 pc = .ok (.getfield 9, 3)) (kk : gG l Γ mt B (pc + 3) ls (.ref Γ.2.2.2.1.2.2.2 :: st) μ Q) : gG l Γ mt B pc ls (.ref Γ.2.2.2.1.2.2.1 :: st) μ Q := fun p e R s m args below meth c Zf H locs lr X hR hW hS hl =>
  vk_getf X.1 X.2.1 (X.2.2.2.2.2.2.1.2.2.2.2.2.2.1.1 0 (by decide)).2.2.1 hS (own := RJ0) (ref := RJ0) (by rw [← ho]; exact X.2.2.2.1) (X.2.2.2.2.1 _ gf_RJ0_9) (fun _ h => h) d (kk p e R s m args below meth c Zf H locs lr X hR hW hS hl)
theorem gg_sbal (j : Nat) (d : decode mt.2.1 pc = .ok (.baload, 1)) (hj : i = (j : Int)) (h : j < 10) (kk : gG l Γ mt B (pc + 1) ls (.int (iv (gsn j)) :: st) μ Q) : gG l Γ mt B pc ls (.int (iv i) :: .ref Γ.2.2.2.1.2.2.2 :: st) μ Q := fun p e R s m args below meth c Zf H locs lr X hR hW hS hl =>
  va_tb X.1 X.2.1 (X.2.2.2.2.2.2.1.2.2.2.2.2.2.1.1 0 (by decide)).2.2.2 hS (iv_at (n := 10) (by omega) (by omega)) rfl d (by rw [iv_cl (by omega), hj, Int.toNat_natCast, show (([gSigns] : List (List Int32)).getD 0 []).getD j 0 = iv (gsn j) from gsn_at j h]; exact kk p e R s m args below meth c Zf H locs lr X hR hW hS hl)
theorem gg_sbln (d : decode mt.2.1 pc = .ok (.arraylength, 1)) (kk : gG l Γ mt B (pc + 1) ls (.int (iv 10) :: st) μ Q) : gG l Γ mt B pc ls (.ref Γ.2.2.2.1.2.2.2 :: st) μ Q := fun p e R s m args below meth c Zf H locs lr X hR hW hS hl =>
  va_tlen X.1 X.2.1 (X.2.2.2.2.2.2.1.2.2.2.2.2.2.1.1 0 (by decide)).2.2.2 hS rfl d (kk p e R s m args below meth c Zf H locs lr X hR hW hS hl)
theorem gg_iretb {P : Int → gM → Prop} {x : Int} (d : decode mt.2.1 pc = .ok (.ireturn, 1)) (hr : mt.2.2.2 = some .byte) (hn : narrow .byte (.int (iv x)) = .int (iv x)) (hB : B.2.2.2.1 = B.2.1 ∧ B.2.2.2.2 = B.2.2.1) (k : P x μ) : gG l Γ mt B pc ls [.int (iv x)] μ (gDi P) := gg_iret d hr hn hB ⟨x, rfl, k⟩
theorem gg_callK (ho : mt.1.cls = own) (hlk : Cond.methodLink own idx yt.1 ∈ WT) (ok : gOkV yt) (har : gAr yt na) (d : decode mt.2.1 pc = .ok (.invokevirtual idx, 3)) (hC : gK l Γ yt d' 0 0 (.ref Γ.2.2.2.1.2.2.1 :: av) μ Q') (hcl : RJ0 = yt.1.cls) (hna : av.length = na) (hst : st = av.reverse ++ .ref Γ.2.2.2.1.2.2.1 :: rest) (hcat : (rest.map fun v => v.category).sum ≤ 8) (hd : d' + 1 ≤ B.1) (hu : B.2.2.2.1 ≤ B.2.1 ∧ B.2.2.2.2 ≤ B.2.2.1)
    (kk : ∀ (r : Option Value) (μ' : gM), Q' r μ' → gG l Γ mt B (pc + 3) ls (r.toList ++ rest) μ' Q) : gG l Γ mt B pc ls st μ Q := fun p e R s m args below meth c Zf H locs lr X hR hW hS hl => by
  obtain ⟨hx, hb, hml, hown, hts, hnm, hZ, hf1, hf2, hf3, hf4⟩ := id X
  subst hst
  have hRm : (gRm d' 0 0).frames + 1 ≤ R.frames ∧ 8 + (yt.2.2.1 + 11) + (gRm d' 0 0).locals ≤ R.locals := by
    have := har.2
    refine ⟨?_, ?_⟩
    · show d' + 1 ≤ R.frames
      omega
    · show 8 + (yt.2.2.1 + 11) + 41 * d' ≤ R.locals
      omega
  refine gRun (va_runV (own := own) (C := yt.1.cls) (As := av) (b := Γ.2.2.2.1.2.2.1) (rest := rest) (n := na) (Ts := WT) ⟨hx, hb, hml, by rw [← ho]; exact hown, hts⟩ hC ⟨callB_of na hts (gGood ok.1) rfl rfl rfl (hts _ ok.1.2.1) (hts _ hlk) ⟨ok.1.2.2.1.1, ok.1.2.2.1.2, har.1⟩ hRm, hts _ ok.2.1, hts _ ok.2.2⟩
    ⟨gPc_blind, ?_, gPre hW hZ hS⟩ rfl hna hl.1 rfl (lv_room hcat) d ⟨by omega, by omega⟩) hS (fun r μ' H1 locs1 hq hw hs1 => kk r μ' hq p e R s m args below meth c Zf H1 locs1 lr X hR hw hs1 hl)
  have z := vk_recv (i := 0) hZ.2.2.2.2.2.2.1 (by decide) hS
  rw [← hcl]
  exact z
theorem gg_callKi {P : Int → gM → Prop} (ho : mt.1.cls = own) (hlk : Cond.methodLink own idx yt.1 ∈ WT) (ok : gOkV yt) (har : gAr yt na) (d : decode mt.2.1 pc = .ok (.invokevirtual idx, 3)) (hC : gKi l Γ yt d' (.ref Γ.2.2.2.1.2.2.1 :: av) μ P) (hcl : RJ0 = yt.1.cls) (hna : av.length = na) (hst : st = av.reverse ++ .ref Γ.2.2.2.1.2.2.1 :: rest) (hcat : (rest.map fun v => v.category).sum ≤ 8) (hd : d' + 1 ≤ B.1) (hu : B.2.2.2.1 ≤ B.2.1 ∧ B.2.2.2.2 ≤ B.2.2.1) (kk : ∀ (e : Int) (μ' : gM), P e μ' → gG l Γ mt B (pc + 3) ls (.int (iv e) :: rest) μ' Q) : gG l Γ mt B pc ls st μ Q := gg_callK ho hlk ok har d hC hcl hna hst hcat hd hu (fun r μ' h => by
  obtain ⟨e, rfl, h⟩ := h
  exact kk e μ' h)
end GSN
set_option maxRecDepth 10000 in
theorem c_J0_coder_7d493 {l : Launch} {Γ : gC} {ad : Nat → Nat} {I : Nat → Nat → Int} {J : Nat → Nat → Int64} {d : Nat}  : gKi l Γ gm_J0_coder_7d493 d [.ref Γ.2.2.2.1.2.2.1] (gSS ad, I, J) (fun e μ => μ = (gSS ad, I, J) ∧ e = 0) := by
  refine gKi_of gk_J0_coder_7d493.1 (Nat.le_of_ble_eq_true rfl) ?_
  show gG l Γ gm_J0_coder_7d493 (d, 0, 0, 0, 0) 0 [(0, .ref Γ.2.2.2.1.2.2.1)] [] _ _
  refine gg_scmp rfl dJ0_coder_7d493_0 ?_
  refine gg_if_eq_f (tgt := 13) dJ0_coder_7d493_3 (by decide) (by decide) (by decide) ?_
  refine gg_aload_n dJ0_coder_7d493_6 0 rfl ?_
  refine gg_scoder rfl dJ0_coder_7d493_7 ?_
  refine gg_goto (tgt := 14) dJ0_coder_7d493_10 (by decide) ?_
  refine gg_iretb dJ0_coder_7d493_14 rfl (by decide) ⟨rfl, rfl⟩ ?_
  exact ⟨rfl, rfl⟩

set_option maxRecDepth 10000 in
theorem c_J0_isLatin1_aae02 {l : Launch} {Γ : gC} {ad : Nat → Nat} {I : Nat → Nat → Int} {J : Nat → Nat → Int64} {d : Nat}  : gKi l Γ gm_J0_isLatin1_aae02 d [.ref Γ.2.2.2.1.2.2.1] (gSS ad, I, J) (fun e μ => μ = (gSS ad, I, J) ∧ e = 1) := by
  refine gKi_of gk_J0_isLatin1_aae02.1 (Nat.le_of_ble_eq_true rfl) ?_
  show gG l Γ gm_J0_isLatin1_aae02 (d, 0, 0, 0, 0) 0 [(0, .ref Γ.2.2.2.1.2.2.1)] [] _ _
  refine gg_scmp rfl dJ0_isLatin1_aae02_0 ?_
  refine gg_if_eq_f (tgt := 17) dJ0_isLatin1_aae02_3 (by decide) (by decide) (by decide) ?_
  refine gg_aload_n dJ0_isLatin1_aae02_6 0 rfl ?_
  refine gg_scoder rfl dJ0_isLatin1_aae02_7 ?_
  refine gg_if_ne_f (tgt := 17) dJ0_isLatin1_aae02_10 (by decide) (by decide) (by decide) ?_
  refine gg_iconst dJ0_isLatin1_aae02_13 ?_
  refine gg_goto (tgt := 18) dJ0_isLatin1_aae02_14 (by decide) ?_
  refine gg_iretz dJ0_isLatin1_aae02_18 rfl (by decide) ⟨rfl, rfl⟩ ?_
  exact ⟨rfl, rfl⟩

set_option maxRecDepth 10000 in
theorem c_J0_length_8abf5 {l : Launch} {Γ : gC} {ad : Nat → Nat} {I : Nat → Nat → Int} {J : Nat → Nat → Int64} {d : Nat} (hd : 1 ≤ d) : gKi l Γ gm_J0_length_8abf5 d [.ref Γ.2.2.2.1.2.2.1] (gSS ad, I, J) (fun e μ => μ = (gSS ad, I, J) ∧ e = 10) := by
  refine gKi_of gk_J0_length_8abf5.1 (Nat.le_of_ble_eq_true rfl) ?_
  show gG l Γ gm_J0_length_8abf5 (d, 0, 0, 0, 0) 0 [(0, .ref Γ.2.2.2.1.2.2.1)] [] _ _
  refine gg_aload_n dJ0_length_8abf5_0 0 rfl ?_
  refine gg_svalue rfl dJ0_length_8abf5_1 ?_
  refine gg_sbln dJ0_length_8abf5_4 ?_
  refine gg_aload_n dJ0_length_8abf5_5 0 rfl ?_
  refine gg_callKi (own := RJ0) (yt := gm_J0_coder_7d493) rfl gl_RJ0_335 gk_J0_coder_7d493 gr_J0_coder_7d493 dJ0_length_8abf5_6 (c_J0_coder_7d493 (d := d - 1)) rfl rfl rfl (Nat.le_of_ble_eq_true rfl) (by show _ ≤ d; omega) ⟨Nat.le_refl _, Nat.le_refl _⟩ (fun e1 μ' hc => ?_)
  obtain ⟨rfl, rfl⟩ := hc
  refine gg_ishr dJ0_length_8abf5_9 ?_
  refine gg_toI (b := 10) (by decide) ?_
  refine gg_ireti dJ0_length_8abf5_10 rfl ⟨rfl, rfl⟩ ?_
  exact ⟨rfl, rfl⟩

set_option maxRecDepth 10000 in
theorem c_J1_canEncode_9a6ad {l : Launch} {Γ : gC} {ad : Nat → Nat} {I : Nat → Nat → Int} {J : Nat → Nat → Int64} {d : Nat} {ch : Int} (hch : 0 ≤ ch ∧ ch ≤ 255) : gKi l Γ gm_J1_canEncode_9a6ad d [.int (iv ch)] (gSS ad, I, J) (fun e μ => μ = (gSS ad, I, J) ∧ e = 1) := by
  refine gKi_of gk_J1_canEncode_9a6ad.1 (Nat.le_of_ble_eq_true rfl) ?_
  show gG l Γ gm_J1_canEncode_9a6ad (d, 0, 0, 0, 0) 0 [(0, .int (iv ch))] [] _ _
  refine gg_iload_n dJ1_canEncode_9a6ad_0 0 rfl ?_
  refine gg_if_lt_f (tgt := 15) dJ1_canEncode_9a6ad_1 (by decide) (by omega) (by omega) ?_
  refine gg_iload_n dJ1_canEncode_9a6ad_4 0 rfl ?_
  refine gg_sipush dJ1_canEncode_9a6ad_5 (by decide) ?_
  refine gg_icmp_gt_f (tgt := 15) dJ1_canEncode_9a6ad_8 (by decide) (by omega) (by omega) ?_
  refine gg_iconst dJ1_canEncode_9a6ad_11 ?_
  refine gg_goto (tgt := 16) dJ1_canEncode_9a6ad_12 (by decide) ?_
  refine gg_iretz dJ1_canEncode_9a6ad_16 rfl (by decide) ⟨rfl, rfl⟩ ?_
  exact ⟨rfl, rfl⟩

set_option maxRecDepth 10000 in
theorem w_J1_indexOfChar_4cfef {l : Launch} {Γ : gC} {ad : Nat → Nat} {I : Nat → Nat → Int} {J : Nat → Nat → Int64} {d : Nat} {ch : Int} (hch : 0 ≤ ch ∧ ch ≤ 255) : ∀ (m : Nat) (j : Nat), 11 - j < m → (j ≤ 10) → (∀ q, q < j → gsn q ≠ gi2b ch) → gG l Γ gm_J1_indexOfChar_4cfef (d, 0, 0, 0, 0) 7 [(5, .int (iv (j : Int))), (4, .int (iv (gi2b ch))), (0, .ref Γ.2.2.2.1.2.2.2), (1, .int (iv ch)), (2, .int (iv 0)), (3, .int (iv 10))] [] (gSS ad, I, J) (gDi (fun e μ => μ = (gSS ad, I, J) ∧ ((0 ≤ e ∧ e ≤ 9 ∧ gSg ch) ∨ (e = -1 ∧ ¬ gSg ch)))) := by
  intro m
  induction m with
  | zero => intros; omega
  | succ m ih =>
    intro j hm hj hno
    have hbb := gi2b_byte hch
    refine gg_iload dJ1_indexOfChar_4cfef_7 0 rfl ?_
    refine gg_iload_n dJ1_indexOfChar_4cfef_9 5 rfl ?_
    refine gg_icmp_ge (tgt := 31) dJ1_indexOfChar_4cfef_10 (by decide) (by omega) (fun hb => ?_) (fun hb => ?_)
    · refine gg_iconst dJ1_indexOfChar_4cfef_31 ?_
      refine gg_ireti dJ1_indexOfChar_4cfef_32 rfl ⟨rfl, rfl⟩ ?_
      exact ⟨rfl, Or.inr ⟨rfl, fun hs => by
        obtain ⟨q, hq, hqe⟩ := gsn_of hs
        have h1 := gsn_rng q hq
        exact hno q (by omega) (by omega)⟩⟩
    · refine gg_aload_n dJ1_indexOfChar_4cfef_13 2 rfl ?_
      refine gg_iload dJ1_indexOfChar_4cfef_14 0 rfl ?_
      refine gg_sbal j dJ1_indexOfChar_4cfef_16 rfl (by omega) ?_
      have hgr := gsn_rng j (by omega)
      refine gg_iload dJ1_indexOfChar_4cfef_17 1 rfl ?_
      refine gg_icmp_ne (tgt := 25) dJ1_indexOfChar_4cfef_19 (by decide) (by omega) (fun hne => ?_) (fun hne => ?_)
      · refine gg_iincv (ls' := [(5, .int (iv ((j + 1 : Nat) : Int))), (4, .int (iv (gi2b ch))), (0, .ref Γ.2.2.2.1.2.2.2), (1, .int (iv ch)), (2, .int (iv 0)), (3, .int (iv 10))]) dJ1_indexOfChar_4cfef_25 0 rfl (by omega) (by decide) rfl ?_
        refine gg_goto (tgt := 7) dJ1_indexOfChar_4cfef_28 (by decide) ?_
        have hr := gsn_rng j (by omega)
        exact ih (j + 1) (by omega) (by omega) (fun q hq => by
          by_cases h : q = j
          · rw [h]; exact hne
          · exact hno q (by omega))
      · have hs := gsn_sg j (by omega)
        refine gg_iload dJ1_indexOfChar_4cfef_22 0 rfl ?_
        refine gg_ireti dJ1_indexOfChar_4cfef_24 rfl ⟨rfl, rfl⟩ ?_
        have hr := gsn_rng j (by omega)
        exact ⟨rfl, Or.inl ⟨by omega, by omega, by rw [show ch = gsn j by omega]; exact hs⟩⟩

set_option maxRecDepth 10000 in
theorem c_J1_indexOfChar_4cfef {l : Launch} {Γ : gC} {ad : Nat → Nat} {I : Nat → Nat → Int} {J : Nat → Nat → Int64} {d : Nat} {ch : Int} (hch : 0 ≤ ch ∧ ch ≤ 255) : gKi l Γ gm_J1_indexOfChar_4cfef d [.ref Γ.2.2.2.1.2.2.2, .int (iv ch), .int (iv 0), .int (iv 10)] (gSS ad, I, J) (fun e μ => μ = (gSS ad, I, J) ∧ ((0 ≤ e ∧ e ≤ 9 ∧ gSg ch) ∨ (e = -1 ∧ ¬ gSg ch))) := by
  refine gKi_of gk_J1_indexOfChar_4cfef.1 (Nat.le_of_ble_eq_true rfl) ?_
  show gG l Γ gm_J1_indexOfChar_4cfef (d, 0, 0, 0, 0) 0 [(0, .ref Γ.2.2.2.1.2.2.2), (1, .int (iv ch)), (2, .int (iv 0)), (3, .int (iv 10))] [] _ _
  refine gg_iload_n dJ1_indexOfChar_4cfef_0 1 rfl ?_
  refine gg_i2b dJ1_indexOfChar_4cfef_1 ?_
  refine gg_istore (ls' := [(4, .int (iv (gi2b ch))), (0, .ref Γ.2.2.2.1.2.2.2), (1, .int (iv ch)), (2, .int (iv 0)), (3, .int (iv 10))]) dJ1_indexOfChar_4cfef_2 (by decide) rfl ?_
  refine gg_iload_n dJ1_indexOfChar_4cfef_4 3 rfl ?_
  refine gg_istore (ls' := [(5, .int (iv 0)), (4, .int (iv (gi2b ch))), (0, .ref Γ.2.2.2.1.2.2.2), (1, .int (iv ch)), (2, .int (iv 0)), (3, .int (iv 10))]) dJ1_indexOfChar_4cfef_5 (by decide) rfl ?_
  exact w_J1_indexOfChar_4cfef hch 12 0 (by omega) (by omega) (fun q h => absurd h (Nat.not_lt_zero _))

set_option maxRecDepth 10000 in
theorem c_J1_indexOf_4cfef {l : Launch} {Γ : gC} {ad : Nat → Nat} {I : Nat → Nat → Int} {J : Nat → Nat → Int64} {d : Nat} {ch : Int} (hch : 0 ≤ ch ∧ ch ≤ 255) (hd : 1 ≤ d) : gKi l Γ gm_J1_indexOf_4cfef d [.ref Γ.2.2.2.1.2.2.2, .int (iv ch), .int (iv 0), .int (iv 10)] (gSS ad, I, J) (fun e μ => μ = (gSS ad, I, J) ∧ ((0 ≤ e ∧ e ≤ 9 ∧ gSg ch) ∨ (e = -1 ∧ ¬ gSg ch))) := by
  refine gKi_of gk_J1_indexOf_4cfef.1 (Nat.le_of_ble_eq_true rfl) ?_
  show gG l Γ gm_J1_indexOf_4cfef (d, 0, 0, 0, 0) 0 [(0, .ref Γ.2.2.2.1.2.2.2), (1, .int (iv ch)), (2, .int (iv 0)), (3, .int (iv 10))] [] _ _
  refine gg_iload_n dJ1_indexOf_4cfef_0 1 rfl ?_
  refine gg_callSi (own := RJ1) (yt := gm_J1_canEncode_9a6ad) rfl gl_RJ1_88 gk_J1_canEncode_9a6ad gr_J1_canEncode_9a6ad dJ1_indexOf_4cfef_1 (c_J1_canEncode_9a6ad (d := d - 1) hch) rfl rfl (Nat.le_of_ble_eq_true rfl) (by show _ ≤ d; omega) ⟨Nat.le_refl _, Nat.le_refl _⟩ (fun e1 μ' hc => ?_)
  obtain ⟨rfl, rfl⟩ := hc
  refine gg_if_ne_t (tgt := 9) dJ1_indexOf_4cfef_4 (by decide) (by decide) (by decide) ?_
  refine gg_iload_n dJ1_indexOf_4cfef_9 2 rfl ?_
  refine gg_iconst dJ1_indexOf_4cfef_10 ?_
  refine gg_mmax rfl gl_RJ1_92 dJ1_indexOf_4cfef_11 (by omega) (Nat.le_of_ble_eq_true rfl) (by omega) ⟨Nat.le_refl _, Nat.le_refl _⟩ ?_
  refine gg_toI (b := 0) (by decide) ?_
  refine gg_istore_n (ls' := [(2, .int (iv 0)), (0, .ref Γ.2.2.2.1.2.2.2), (1, .int (iv ch)), (3, .int (iv 10))]) dJ1_indexOf_4cfef_14 rfl (by decide) rfl ?_
  refine gg_iload_n dJ1_indexOf_4cfef_15 3 rfl ?_
  refine gg_aload_n dJ1_indexOf_4cfef_16 1 rfl ?_
  refine gg_sbln dJ1_indexOf_4cfef_17 ?_
  refine gg_mmin rfl gl_RJ1_38 dJ1_indexOf_4cfef_18 (by omega) (Nat.le_of_ble_eq_true rfl) (by omega) ⟨Nat.le_refl _, Nat.le_refl _⟩ ?_
  refine gg_toI (b := 10) (by decide) ?_
  refine gg_istore_n (ls' := [(3, .int (iv 10)), (2, .int (iv 0)), (0, .ref Γ.2.2.2.1.2.2.2), (1, .int (iv ch))]) dJ1_indexOf_4cfef_21 rfl (by decide) rfl ?_
  refine gg_iload_n dJ1_indexOf_4cfef_22 1 rfl ?_
  refine gg_iload_n dJ1_indexOf_4cfef_23 0 rfl ?_
  refine gg_icmp_lt_t (tgt := 29) dJ1_indexOf_4cfef_24 (by decide) (by decide) (by decide) ?_
  refine gg_aload_n dJ1_indexOf_4cfef_29 2 rfl ?_
  refine gg_iload_n dJ1_indexOf_4cfef_30 3 rfl ?_
  refine gg_iload_n dJ1_indexOf_4cfef_31 1 rfl ?_
  refine gg_iload_n dJ1_indexOf_4cfef_32 0 rfl ?_
  refine gg_callSi (own := RJ1) (yt := gm_J1_indexOfChar_4cfef) rfl gl_RJ1_95 gk_J1_indexOfChar_4cfef gr_J1_indexOfChar_4cfef dJ1_indexOf_4cfef_33 (c_J1_indexOfChar_4cfef (d := d - 1) hch) rfl rfl (Nat.le_of_ble_eq_true rfl) (by show _ ≤ d; omega) ⟨Nat.le_refl _, Nat.le_refl _⟩ (fun e1 μ' hc => ?_)
  obtain ⟨rfl, he⟩ := hc
  refine gg_ireti dJ1_indexOf_4cfef_36 rfl ⟨rfl, rfl⟩ ?_
  exact ⟨rfl, he⟩

set_option maxRecDepth 10000 in
theorem c_J0_indexOf_7cf53 {l : Launch} {Γ : gC} {ad : Nat → Nat} {I : Nat → Nat → Int} {J : Nat → Nat → Int64} {d : Nat} {ch : Int} (hch : 0 ≤ ch ∧ ch ≤ 255) (hd : 2 ≤ d) : gKi l Γ gm_J0_indexOf_7cf53 d [.ref Γ.2.2.2.1.2.2.1, .int (iv ch), .int (iv 0)] (gSS ad, I, J) (fun e μ => μ = (gSS ad, I, J) ∧ ((0 ≤ e ∧ e ≤ 9 ∧ gSg ch) ∨ (e = -1 ∧ ¬ gSg ch))) := by
  refine gKi_of gk_J0_indexOf_7cf53.1 (Nat.le_of_ble_eq_true rfl) ?_
  show gG l Γ gm_J0_indexOf_7cf53 (d, 0, 0, 0, 0) 0 [(0, .ref Γ.2.2.2.1.2.2.1), (1, .int (iv ch)), (2, .int (iv 0))] [] _ _
  refine gg_aload_n dJ0_indexOf_7cf53_0 0 rfl ?_
  refine gg_callKi (own := RJ0) (yt := gm_J0_isLatin1_aae02) rfl gl_RJ0_492 gk_J0_isLatin1_aae02 gr_J0_isLatin1_aae02 dJ0_indexOf_7cf53_1 (c_J0_isLatin1_aae02 (d := d - 1)) rfl rfl rfl (Nat.le_of_ble_eq_true rfl) (by show _ ≤ d; omega) ⟨Nat.le_refl _, Nat.le_refl _⟩ (fun e1 μ' hc => ?_)
  obtain ⟨rfl, rfl⟩ := hc
  refine gg_if_eq_f (tgt := 23) dJ0_indexOf_7cf53_4 (by decide) (by decide) (by decide) ?_
  refine gg_aload_n dJ0_indexOf_7cf53_7 0 rfl ?_
  refine gg_svalue rfl dJ0_indexOf_7cf53_8 ?_
  refine gg_iload_n dJ0_indexOf_7cf53_11 1 rfl ?_
  refine gg_iload_n dJ0_indexOf_7cf53_12 2 rfl ?_
  refine gg_aload_n dJ0_indexOf_7cf53_13 0 rfl ?_
  refine gg_callKi (own := RJ0) (yt := gm_J0_length_8abf5) rfl gl_RJ0_505 gk_J0_length_8abf5 gr_J0_length_8abf5 dJ0_indexOf_7cf53_14 (c_J0_length_8abf5 (d := d - 1) (by omega)) rfl rfl rfl (Nat.le_of_ble_eq_true rfl) (by show _ ≤ d; omega) ⟨Nat.le_refl _, Nat.le_refl _⟩ (fun e2 μ' hc => ?_)
  obtain ⟨rfl, rfl⟩ := hc
  refine gg_callSi (own := RJ0) (yt := gm_J1_indexOf_4cfef) rfl gl_RJ0_637 gk_J1_indexOf_4cfef gr_J1_indexOf_4cfef dJ0_indexOf_7cf53_17 (c_J1_indexOf_4cfef (d := d - 1) hch (by omega)) rfl rfl (Nat.le_of_ble_eq_true rfl) (by show _ ≤ d; omega) ⟨Nat.le_refl _, Nat.le_refl _⟩ (fun e1 μ' hc => ?_)
  obtain ⟨rfl, he⟩ := hc
  refine gg_goto (tgt := 36) dJ0_indexOf_7cf53_20 (by decide) ?_
  refine gg_ireti dJ0_indexOf_7cf53_36 rfl ⟨rfl, rfl⟩ ?_
  exact ⟨rfl, he⟩

set_option maxRecDepth 10000 in
theorem c_J0_indexOf_0f7a4 {l : Launch} {Γ : gC} {ad : Nat → Nat} {I : Nat → Nat → Int} {J : Nat → Nat → Int64} {d : Nat} {ch : Int} (hch : 0 ≤ ch ∧ ch ≤ 255) (hd : 3 ≤ d) : gKi l Γ gm_J0_indexOf_0f7a4 d [.ref Γ.2.2.2.1.2.2.1, .int (iv ch)] (gSS ad, I, J) (fun e μ => μ = (gSS ad, I, J) ∧ ((0 ≤ e ∧ e ≤ 9 ∧ gSg ch) ∨ (e = -1 ∧ ¬ gSg ch))) := by
  refine gKi_of gk_J0_indexOf_0f7a4.1 (Nat.le_of_ble_eq_true rfl) ?_
  show gG l Γ gm_J0_indexOf_0f7a4 (d, 0, 0, 0, 0) 0 [(0, .ref Γ.2.2.2.1.2.2.1), (1, .int (iv ch))] [] _ _
  refine gg_aload_n dJ0_indexOf_0f7a4_0 0 rfl ?_
  refine gg_iload_n dJ0_indexOf_0f7a4_1 1 rfl ?_
  refine gg_iconst dJ0_indexOf_0f7a4_2 ?_
  refine gg_callKi (own := RJ0) (yt := gm_J0_indexOf_7cf53) rfl gl_RJ0_633 gk_J0_indexOf_7cf53 gr_J0_indexOf_7cf53 dJ0_indexOf_0f7a4_3 (c_J0_indexOf_7cf53 (d := d - 1) hch (by omega)) rfl rfl rfl (Nat.le_of_ble_eq_true rfl) (by show _ ≤ d; omega) ⟨Nat.le_refl _, Nat.le_refl _⟩ (fun e1 μ' hc => ?_)
  obtain ⟨rfl, he⟩ := hc
  refine gg_ireti dJ0_indexOf_0f7a4_6 rfl ⟨rfl, rfl⟩ ?_
  exact ⟨rfl, he⟩

