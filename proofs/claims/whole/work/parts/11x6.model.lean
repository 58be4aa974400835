/-! the reference's object (by program) -/
theorem gnmR_other {rf : Nat → Nat → Option Nat} {n N a : Nat} (h : a ≠ n) : gnmR rf n N a = rf a := by
  funext b
  simp [gnmR, h]
def gIm (I : Nat → Nat → Int) : Nat → Nat → Int := (gu (gu (gu (gu I 237 0 (-1)) 237 1 (-1)) 237 2 (-1)) 237 3 (-1))
set_option maxRecDepth 10000 in
theorem c_X10_init {l : Launch} {Γ : gC} {d : Nat} {ad : Nat → Nat} {I : Nat → Nat → Int} {J : Nat → Nat → Int64} (hg : gNew 146 (gRc 145) I J) (hd : 1 ≤ d) : gK l Γ gm_X10_init d 99 23188 [.ref (ad 145)] ((146, gSh, gRc 145, ad), I, J) (fun r μ' => r = none ∧ ∃ ad' : Nat → Nat, (∀ k, k < 146 → ad' k = ad k) ∧ μ' = (gSS ad', gIm I, J)) := by
  refine gK_of gk_X10_init.1 (Nat.le_of_ble_eq_true rfl) ?_
  show gG l Γ gm_X10_init (d, 99, 23188, 0, 0) 0 [(0, .ref (ad 145))] [] _ _
  refine gg_aload_n dX10_init_0 0 rfl ?_
  refine gg_obj rfl go_RX10 dX10_init_1 (by show 1 ≤ d; omega) ?_
  refine gg_aload_n dX10_init_4 0 rfl ?_
  refine gg_bipush dX10_init_5 (by decide) ?_
  refine gg_nI (n' := 147) (u' := 1) (v' := 12) (len := 12) rfl rfl ⟨rfl, rfl, rfl⟩ dX10_init_7 hg ⟨by omega, by decide, by decide, by decide⟩ (fun ad1 h1 g1 => ?_)
  rw [← h1 145 (by omega)]
  refine gg_pR (k := 145) (w := 146) rfl gf_RX10_9 dX10_init_9 rfl ⟨by omega, by omega, by decide, by decide⟩ (by decide) rfl rfl rfl g1 (fun g2 => ?_)
  refine gg_aload_n dX10_init_12 0 rfl ?_
  refine gg_bipush dX10_init_13 (by decide) ?_
  refine gg_sipush dX10_init_15 (by decide) ?_
  refine gg_nII (n' := 160) (u' := 14) (v' := 2424) (N := 12) (M := 200) rfl rfl (by decide +kernel) ⟨rfl, rfl⟩ ⟨rfl, rfl, rfl⟩ dX10_init_18 g2 ⟨by omega, by decide, by decide, by decide, by decide⟩ (fun ad3 h3 g3 => ?_)
  rw [← h3 145 (by omega)]
  refine gg_pR (k := 145) (w := 147) rfl gf_RX10_15 dX10_init_22 rfl ⟨by omega, by omega, by decide, by decide⟩ (by decide) rfl rfl rfl g3 (fun g4 => ?_)
  refine gg_aload_n dX10_init_25 0 rfl ?_
  refine gg_bipush dX10_init_26 (by decide) ?_
  refine gg_sipush dX10_init_28 (by decide) ?_
  refine gg_nJJ (n' := 173) (u' := 27) (v' := 4836) (N := 12) (M := 200) rfl rfl (by decide +kernel) ⟨rfl, rfl⟩ ⟨rfl, rfl, rfl⟩ dX10_init_31 g4 ⟨by omega, by decide, by decide, by decide, by decide⟩ (fun ad5 h5 g5 => ?_)
  rw [← h5 145 (by omega)]
  refine gg_pR (k := 145) (w := 160) rfl gf_RX10_20 dX10_init_35 rfl ⟨by omega, by omega, by decide, by decide⟩ (by decide) rfl rfl rfl g5 (fun g6 => ?_)
  refine gg_aload_n dX10_init_38 0 rfl ?_
  refine gg_bipush dX10_init_39 (by decide) ?_
  refine gg_sipush dX10_init_41 (by decide) ?_
  refine gg_nII (n' := 186) (u' := 40) (v' := 7248) (N := 12) (M := 200) rfl rfl (by decide +kernel) ⟨rfl, rfl⟩ ⟨rfl, rfl, rfl⟩ dX10_init_44 g6 ⟨by omega, by decide, by decide, by decide, by decide⟩ (fun ad7 h7 g7 => ?_)
  rw [← h7 145 (by omega)]
  refine gg_pR (k := 145) (w := 173) rfl gf_RX10_23 dX10_init_48 rfl ⟨by omega, by omega, by decide, by decide⟩ (by decide) rfl rfl rfl g7 (fun g8 => ?_)
  refine gg_aload_n dX10_init_51 0 rfl ?_
  refine gg_bipush dX10_init_52 (by decide) ?_
  refine gg_nI (n' := 187) (u' := 41) (v' := 7256) (len := 8) rfl rfl ⟨rfl, rfl, rfl⟩ dX10_init_54 g8 ⟨by omega, by decide, by decide, by decide⟩ (fun ad9 h9 g9 => ?_)
  rw [← h9 145 (by omega)]
  refine gg_pR (k := 145) (w := 186) rfl gf_RX10_26 dX10_init_56 rfl ⟨by omega, by omega, by decide, by decide⟩ (by decide) rfl rfl rfl g9 (fun g10 => ?_)
  refine gg_aload_n dX10_init_59 0 rfl ?_
  refine gg_sipush dX10_init_60 (by decide) ?_
  refine gg_nI (n' := 188) (u' := 42) (v' := 7516) (len := 260) rfl rfl ⟨rfl, rfl, rfl⟩ dX10_init_63 g10 ⟨by omega, by decide, by decide, by decide⟩ (fun ad11 h11 g11 => ?_)
  rw [← h11 145 (by omega)]
  refine gg_pR (k := 145) (w := 187) rfl gf_RX10_29 dX10_init_65 rfl ⟨by omega, by omega, by decide, by decide⟩ (by decide) rfl rfl rfl g11 (fun g12 => ?_)
  refine gg_aload_n dX10_init_68 0 rfl ?_
  refine gg_sipush dX10_init_69 (by decide) ?_
  refine gg_nJ (n' := 189) (u' := 43) (v' := 7776) (len := 260) rfl rfl ⟨rfl, rfl, rfl⟩ dX10_init_72 g12 ⟨by omega, by decide, by decide, by decide⟩ (fun ad13 h13 g13 => ?_)
  rw [← h13 145 (by omega)]
  refine gg_pR (k := 145) (w := 188) rfl gf_RX10_32 dX10_init_74 rfl ⟨by omega, by omega, by decide, by decide⟩ (by decide) rfl rfl rfl g13 (fun g14 => ?_)
  refine gg_aload_n dX10_init_77 0 rfl ?_
  refine gg_bipush dX10_init_78 (by decide) ?_
  refine gg_nI (n' := 190) (u' := 44) (v' := 7896) (len := 120) rfl rfl ⟨rfl, rfl, rfl⟩ dX10_init_80 g14 ⟨by omega, by decide, by decide, by decide⟩ (fun ad15 h15 g15 => ?_)
  rw [← h15 145 (by omega)]
  refine gg_pR (k := 145) (w := 189) rfl gf_RX10_36 dX10_init_82 rfl ⟨by omega, by omega, by decide, by decide⟩ (by decide) rfl rfl rfl g15 (fun g16 => ?_)
  refine gg_aload_n dX10_init_85 0 rfl ?_
  refine gg_bipush dX10_init_86 (by decide) ?_
  refine gg_nI (n' := 191) (u' := 45) (v' := 7904) (len := 8) rfl rfl ⟨rfl, rfl, rfl⟩ dX10_init_88 g16 ⟨by omega, by decide, by decide, by decide⟩ (fun ad17 h17 g17 => ?_)
  rw [← h17 145 (by omega)]
  refine gg_pR (k := 145) (w := 190) rfl gf_RX10_39 dX10_init_90 rfl ⟨by omega, by omega, by decide, by decide⟩ (by decide) rfl rfl rfl g17 (fun g18 => ?_)
  refine gg_aload_n dX10_init_93 0 rfl ?_
  refine gg_sipush dX10_init_94 (by decide) ?_
  refine gg_nI (n' := 192) (u' := 46) (v' := 13904) (len := 6000) rfl rfl ⟨rfl, rfl, rfl⟩ dX10_init_97 g18 ⟨by omega, by decide, by decide, by decide⟩ (fun ad19 h19 g19 => ?_)
  rw [← h19 145 (by omega)]
  refine gg_pR (k := 145) (w := 191) rfl gf_RX10_42 dX10_init_99 rfl ⟨by omega, by omega, by decide, by decide⟩ (by decide) rfl rfl rfl g19 (fun g20 => ?_)
  refine gg_aload_n dX10_init_102 0 rfl ?_
  refine gg_sipush dX10_init_103 (by decide) ?_
  refine gg_nI (n' := 193) (u' := 47) (v' := 14704) (len := 800) rfl rfl ⟨rfl, rfl, rfl⟩ dX10_init_106 g20 ⟨by omega, by decide, by decide, by decide⟩ (fun ad21 h21 g21 => ?_)
  rw [← h21 145 (by omega)]
  refine gg_pR (k := 145) (w := 192) rfl gf_RX10_45 dX10_init_108 rfl ⟨by omega, by omega, by decide, by decide⟩ (by decide) rfl rfl rfl g21 (fun g22 => ?_)
  refine gg_aload_n dX10_init_111 0 rfl ?_
  refine gg_sipush dX10_init_112 (by decide) ?_
  refine gg_nJ (n' := 194) (u' := 48) (v' := 15504) (len := 800) rfl rfl ⟨rfl, rfl, rfl⟩ dX10_init_115 g22 ⟨by omega, by decide, by decide, by decide⟩ (fun ad23 h23 g23 => ?_)
  rw [← h23 145 (by omega)]
  refine gg_pR (k := 145) (w := 193) rfl gf_RX10_48 dX10_init_117 rfl ⟨by omega, by omega, by decide, by decide⟩ (by decide) rfl rfl rfl g23 (fun g24 => ?_)
  refine gg_aload_n dX10_init_120 0 rfl ?_
  refine gg_sipush dX10_init_121 (by decide) ?_
  refine gg_nJ (n' := 195) (u' := 49) (v' := 15712) (len := 208) rfl rfl ⟨rfl, rfl, rfl⟩ dX10_init_124 g24 ⟨by omega, by decide, by decide, by decide⟩ (fun ad25 h25 g25 => ?_)
  rw [← h25 145 (by omega)]
  refine gg_pR (k := 145) (w := 194) rfl gf_RX10_51 dX10_init_126 rfl ⟨by omega, by omega, by decide, by decide⟩ (by decide) rfl rfl rfl g25 (fun g26 => ?_)
  refine gg_aload_n dX10_init_129 0 rfl ?_
  refine gg_bipush dX10_init_130 (by decide) ?_
  refine gg_nI (n' := 196) (u' := 50) (v' := 15720) (len := 8) rfl rfl ⟨rfl, rfl, rfl⟩ dX10_init_132 g26 ⟨by omega, by decide, by decide, by decide⟩ (fun ad27 h27 g27 => ?_)
  rw [← h27 145 (by omega)]
  refine gg_pR (k := 145) (w := 195) rfl gf_RX10_54 dX10_init_134 rfl ⟨by omega, by omega, by decide, by decide⟩ (by decide) rfl rfl rfl g27 (fun g28 => ?_)
  refine gg_aload_n dX10_init_137 0 rfl ?_
  refine gg_bipush dX10_init_138 (by decide) ?_
  refine gg_nI (n' := 197) (u' := 51) (v' := 15732) (len := 12) rfl rfl ⟨rfl, rfl, rfl⟩ dX10_init_140 g28 ⟨by omega, by decide, by decide, by decide⟩ (fun ad29 h29 g29 => ?_)
  rw [← h29 145 (by omega)]
  refine gg_pR (k := 145) (w := 196) rfl gf_RX10_57 dX10_init_142 rfl ⟨by omega, by omega, by decide, by decide⟩ (by decide) rfl rfl rfl g29 (fun g30 => ?_)
  refine gg_aload_n dX10_init_145 0 rfl ?_
  refine gg_bipush dX10_init_146 (by decide) ?_
  refine gg_nI (n' := 198) (u' := 52) (v' := 15740) (len := 8) rfl rfl ⟨rfl, rfl, rfl⟩ dX10_init_148 g30 ⟨by omega, by decide, by decide, by decide⟩ (fun ad31 h31 g31 => ?_)
  rw [← h31 145 (by omega)]
  refine gg_pR (k := 145) (w := 197) rfl gf_RX10_60 dX10_init_150 rfl ⟨by omega, by omega, by decide, by decide⟩ (by decide) rfl rfl rfl g31 (fun g32 => ?_)
  refine gg_aload_n dX10_init_153 0 rfl ?_
  refine gg_bipush dX10_init_154 (by decide) ?_
  refine gg_sipush dX10_init_156 (by decide) ?_
  refine gg_nII (n' := 211) (u' := 65) (v' := 18152) (N := 12) (M := 200) rfl rfl (by decide +kernel) ⟨rfl, rfl⟩ ⟨rfl, rfl, rfl⟩ dX10_init_159 g32 ⟨by omega, by decide, by decide, by decide, by decide⟩ (fun ad33 h33 g33 => ?_)
  rw [← h33 145 (by omega)]
  refine gg_pR (k := 145) (w := 198) rfl gf_RX10_63 dX10_init_163 rfl ⟨by omega, by omega, by decide, by decide⟩ (by decide) rfl rfl rfl g33 (fun g34 => ?_)
  refine gg_aload_n dX10_init_166 0 rfl ?_
  refine gg_bipush dX10_init_167 (by decide) ?_
  refine gg_sipush dX10_init_169 (by decide) ?_
  refine gg_nII (n' := 224) (u' := 78) (v' := 20564) (N := 12) (M := 200) rfl rfl (by decide +kernel) ⟨rfl, rfl⟩ ⟨rfl, rfl, rfl⟩ dX10_init_172 g34 ⟨by omega, by decide, by decide, by decide, by decide⟩ (fun ad35 h35 g35 => ?_)
  rw [← h35 145 (by omega)]
  refine gg_pR (k := 145) (w := 211) rfl gf_RX10_66 dX10_init_176 rfl ⟨by omega, by omega, by decide, by decide⟩ (by decide) rfl rfl rfl g35 (fun g36 => ?_)
  refine gg_aload_n dX10_init_179 0 rfl ?_
  refine gg_bipush dX10_init_180 (by decide) ?_
  refine gg_sipush dX10_init_182 (by decide) ?_
  refine gg_nJJ (n' := 237) (u' := 91) (v' := 22976) (N := 12) (M := 200) rfl rfl (by decide +kernel) ⟨rfl, rfl⟩ ⟨rfl, rfl, rfl⟩ dX10_init_185 g36 ⟨by omega, by decide, by decide, by decide, by decide⟩ (fun ad37 h37 g37 => ?_)
  rw [← h37 145 (by omega)]
  refine gg_pR (k := 145) (w := 224) rfl gf_RX10_69 dX10_init_189 rfl ⟨by omega, by omega, by decide, by decide⟩ (by decide) rfl rfl rfl g37 (fun g38 => ?_)
  refine gg_aload_n dX10_init_192 0 rfl ?_
  refine gg_iconst dX10_init_193 ?_
  refine gg_nI (n' := 238) (u' := 92) (v' := 22980) (len := 4) rfl rfl ⟨rfl, rfl, rfl⟩ dX10_init_194 g38 ⟨by omega, by decide, by decide, by decide⟩ (fun ad39 h39 g39 => ?_)
  rw [← h39 145 (by omega)]
  refine gg_dupr dX10_init_196 ?_
  refine gg_iconst dX10_init_197 ?_
  refine gg_iconst dX10_init_198 ?_
  refine gg_iastj (S := (238, gSh, (gnr (gnmR (gnr (gnmR (gnr (gnmR (gnr (gnr (gnr (gnr (gnr (gnr (gnr (gnr (gnr (gnr (gnr (gnr (gnr (gnmR (gnr (gnmR (gnr (gnmR (gnr (gRc 145) 145 0 146) 147 12) 145 1 147) 160 12) 145 2 160) 173 12) 145 3 173) 145 4 186) 145 7 187) 145 8 188) 145 9 189) 145 17 190) 145 18 191) 145 20 192) 145 21 193) 145 23 194) 145 26 195) 145 28 196) 145 29 197) 198 12) 145 30 198) 211 12) 145 31 211) 224 12) 145 32 224), ad39)) (k := 237) (n := 4) 0 dX10_init_199 rfl (by show _ < _; omega) (by decide) rfl (by decide) ?_
  have g40 := gNew_int (k := 237) (j := 0) (x := (-1)) g39 (by omega)
  refine gg_dupr dX10_init_200 ?_
  refine gg_iconst dX10_init_201 ?_
  refine gg_iconst dX10_init_202 ?_
  refine gg_iastj (S := (238, gSh, (gnr (gnmR (gnr (gnmR (gnr (gnmR (gnr (gnr (gnr (gnr (gnr (gnr (gnr (gnr (gnr (gnr (gnr (gnr (gnr (gnmR (gnr (gnmR (gnr (gnmR (gnr (gRc 145) 145 0 146) 147 12) 145 1 147) 160 12) 145 2 160) 173 12) 145 3 173) 145 4 186) 145 7 187) 145 8 188) 145 9 189) 145 17 190) 145 18 191) 145 20 192) 145 21 193) 145 23 194) 145 26 195) 145 28 196) 145 29 197) 198 12) 145 30 198) 211 12) 145 31 211) 224 12) 145 32 224), ad39)) (k := 237) (n := 4) 1 dX10_init_203 rfl (by show _ < _; omega) (by decide) rfl (by decide) ?_
  have g41 := gNew_int (k := 237) (j := 1) (x := (-1)) g40 (by omega)
  refine gg_dupr dX10_init_204 ?_
  refine gg_iconst dX10_init_205 ?_
  refine gg_iconst dX10_init_206 ?_
  refine gg_iastj (S := (238, gSh, (gnr (gnmR (gnr (gnmR (gnr (gnmR (gnr (gnr (gnr (gnr (gnr (gnr (gnr (gnr (gnr (gnr (gnr (gnr (gnr (gnmR (gnr (gnmR (gnr (gnmR (gnr (gRc 145) 145 0 146) 147 12) 145 1 147) 160 12) 145 2 160) 173 12) 145 3 173) 145 4 186) 145 7 187) 145 8 188) 145 9 189) 145 17 190) 145 18 191) 145 20 192) 145 21 193) 145 23 194) 145 26 195) 145 28 196) 145 29 197) 198 12) 145 30 198) 211 12) 145 31 211) 224 12) 145 32 224), ad39)) (k := 237) (n := 4) 2 dX10_init_207 rfl (by show _ < _; omega) (by decide) rfl (by decide) ?_
  have g42 := gNew_int (k := 237) (j := 2) (x := (-1)) g41 (by omega)
  refine gg_dupr dX10_init_208 ?_
  refine gg_iconst dX10_init_209 ?_
  refine gg_iconst dX10_init_210 ?_
  refine gg_iastj (S := (238, gSh, (gnr (gnmR (gnr (gnmR (gnr (gnmR (gnr (gnr (gnr (gnr (gnr (gnr (gnr (gnr (gnr (gnr (gnr (gnr (gnr (gnmR (gnr (gnmR (gnr (gnmR (gnr (gRc 145) 145 0 146) 147 12) 145 1 147) 160 12) 145 2 160) 173 12) 145 3 173) 145 4 186) 145 7 187) 145 8 188) 145 9 189) 145 17 190) 145 18 191) 145 20 192) 145 21 193) 145 23 194) 145 26 195) 145 28 196) 145 29 197) 198 12) 145 30 198) 211 12) 145 31 211) 224 12) 145 32 224), ad39)) (k := 237) (n := 4) 3 dX10_init_211 rfl (by show _ < _; omega) (by decide) rfl (by decide) ?_
  have g43 := gNew_int (k := 237) (j := 3) (x := (-1)) g42 (by omega)
  refine gg_pR (k := 145) (w := 237) rfl gf_RX10_72 dX10_init_212 rfl ⟨by omega, by omega, by decide, by decide⟩ (by decide) rfl rfl rfl g43 (fun g44 => ?_)
  refine gg_aload_n dX10_init_215 0 rfl ?_
  refine gg_iconst dX10_init_216 ?_
  refine gg_nI (n' := 239) (u' := 93) (v' := 22984) (len := 4) rfl rfl ⟨rfl, rfl, rfl⟩ dX10_init_217 g44 ⟨by omega, by decide, by decide, by decide⟩ (fun ad45 h45 g45 => ?_)
  rw [← h45 145 (by omega)]
  refine gg_pR (k := 145) (w := 238) rfl gf_RX10_75 dX10_init_219 rfl ⟨by omega, by omega, by decide, by decide⟩ (by decide) rfl rfl rfl g45 (fun g46 => ?_)
  refine gg_aload_n dX10_init_222 0 rfl ?_
  refine gg_iconst dX10_init_223 ?_
  refine gg_bipush dX10_init_224 (by decide) ?_
  refine gg_nII (n' := 244) (u' := 98) (v' := 23148) (N := 4) (M := 40) rfl rfl (by decide +kernel) ⟨rfl, rfl⟩ ⟨rfl, rfl, rfl⟩ dX10_init_226 g46 ⟨by omega, by decide, by decide, by decide, by decide⟩ (fun ad47 h47 g47 => ?_)
  rw [← h47 145 (by omega)]
  refine gg_pR (k := 145) (w := 239) rfl gf_RX10_78 dX10_init_230 rfl ⟨by omega, by omega, by decide, by decide⟩ (by decide) rfl rfl rfl g47 (fun g48 => ?_)
  refine gg_aload_n dX10_init_233 0 rfl ?_
  refine gg_bipush dX10_init_234 (by decide) ?_
  refine gg_nI (n' := 245) (u' := 99) (v' := 23188) (len := 40) rfl rfl ⟨rfl, rfl, rfl⟩ dX10_init_236 g48 ⟨by omega, by decide, by decide, by decide⟩ (fun ad49 h49 g49 => ?_)
  rw [← h49 145 (by omega)]
  refine gg_pR (k := 145) (w := 244) rfl gf_RX10_81 dX10_init_238 rfl ⟨by omega, by omega, by decide, by decide⟩ (by decide) rfl rfl rfl g49 (fun g50 => ?_)
  have hz : ∀ k, k < 245 → gRr k = (gnr (gnr (gnmR (gnr (gnr (gnr (gnmR (gnr (gnmR (gnr (gnmR (gnr (gnr (gnr (gnr (gnr (gnr (gnr (gnr (gnr (gnr (gnr (gnr (gnr (gnmR (gnr (gnmR (gnr (gnmR (gnr (gRc 145) 145 0 146) 147 12) 145 1 147) 160 12) 145 2 160) 173 12) 145 3 173) 145 4 186) 145 7 187) 145 8 188) 145 9 189) 145 17 190) 145 18 191) 145 20 192) 145 21 193) 145 23 194) 145 26 195) 145 28 196) 145 29 197) 198 12) 145 30 198) 211 12) 145 31 211) 224 12) 145 32 224) 145 33 237) 145 34 238) 239 4) 145 35 239) 145 36 244) k := gR_eq g50 (fun k j h => gRr_none h) (fun k hk j hj => by
    by_cases c : k < 145
    · rw [gnr_other (by omega), gnr_other (by omega), gnmR_other (by omega), gnr_other (by omega), gnr_other (by omega), gnr_other (by omega), gnmR_other (by omega), gnr_other (by omega), gnmR_other (by omega), gnr_other (by omega), gnmR_other (by omega), gnr_other (by omega), gnr_other (by omega), gnr_other (by omega), gnr_other (by omega), gnr_other (by omega), gnr_other (by omega), gnr_other (by omega), gnr_other (by omega), gnr_other (by omega), gnr_other (by omega), gnr_other (by omega), gnr_other (by omega), gnr_other (by omega), gnmR_other (by omega), gnr_other (by omega), gnmR_other (by omega), gnr_other (by omega), gnmR_other (by omega), gnr_other (by omega)]
      unfold gRc
      rw [if_pos c]
    · have z : ∀ k : Fin 100, ∀ j : Fin 40, (gnr (gnr (gnmR (gnr (gnr (gnr (gnmR (gnr (gnmR (gnr (gnmR (gnr (gnr (gnr (gnr (gnr (gnr (gnr (gnr (gnr (gnr (gnr (gnr (gnr (gnmR (gnr (gnmR (gnr (gnmR (gnr (gRc 145) 145 0 146) 147 12) 145 1 147) 160 12) 145 2 160) 173 12) 145 3 173) 145 4 186) 145 7 187) 145 8 188) 145 9 189) 145 17 190) 145 18 191) 145 20 192) 145 21 193) 145 23 194) 145 26 195) 145 28 196) 145 29 197) 198 12) 145 30 198) 211 12) 145 31 211) 224 12) 145 32 224) 145 33 237) 145 34 238) 239 4) 145 35 239) 145 36 244) (145 + k.val) j.val = gRr (145 + k.val) j.val := by decide +kernel
      have h := z ⟨k - 145, by omega⟩ ⟨j, hj⟩
      have h2 : 145 + (k - 145) = k := by omega
      simp only [h2] at h
      exact h)
  refine gg_world (μ' := (gSS ad49, gIm I, J)) (gWl_by hz) ?_
  refine gg_vret dX10_init_241 rfl ⟨rfl, rfl⟩ ?_
  exact ⟨rfl, ad49, fun k hk => (h49 k (by omega)).trans ((h47 k (by omega)).trans ((h45 k (by omega)).trans ((h39 k (by omega)).trans ((h37 k (by omega)).trans ((h35 k (by omega)).trans ((h33 k (by omega)).trans ((h31 k (by omega)).trans ((h29 k (by omega)).trans ((h27 k (by omega)).trans ((h25 k (by omega)).trans ((h23 k (by omega)).trans ((h21 k (by omega)).trans ((h19 k (by omega)).trans ((h17 k (by omega)).trans ((h15 k (by omega)).trans ((h13 k (by omega)).trans ((h11 k (by omega)).trans ((h9 k (by omega)).trans ((h7 k (by omega)).trans ((h5 k (by omega)).trans ((h3 k (by omega)).trans (h1 k (by omega))))))))))))))))))))))), rfl⟩
