/-! the places once both objects are made (by program, from the constructors): the class 0 .. 144, the reference 145 .. 244 -/
def gSh1 : List (Nat × Nat) := [(9, 16), (104, 12), (104, 12), (100, 8), (100, 8), (105, 4), (100, 5), (100, 8), (1, 4), (100, 200), (101, 200), (100, 200), (0, 9), (100, 1200), (101, 1200), (100, 1200), (100, 1200), (100, 1200), (100, 1200), (100, 600), (5, 8), (100, 120), (7, 3), (100, 200), (100, 200), (8, 2), (101, 200), (102, 200), (4, 5), (103, 4800), (100, 1600), (100, 20), (3, 9), (100, 400), (101, 400), (100, 200), (100, 200), (101, 400), (2, 2), (100, 200), (102, 200)]
def gSh2 : List (Nat × Nat) := [(10, 37), (100, 12), (106, 12), (100, 200), (100, 200), (100, 200), (100, 200), (100, 200), (100, 200), (100, 200), (100, 200), (100, 200), (100, 200), (100, 200), (100, 200), (107, 12), (101, 200), (101, 200), (101, 200), (101, 200), (101, 200), (101, 200), (101, 200), (101, 200), (101, 200), (101, 200), (101, 200), (101, 200), (106, 12), (100, 200), (100, 200), (100, 200), (100, 200), (100, 200), (100, 200), (100, 200), (100, 200), (100, 200), (100, 200), (100, 200), (100, 200), (100, 8), (100, 260), (101, 260), (100, 120), (100, 8), (100, 6000), (100, 800), (101, 800), (101, 208), (100, 8), (100, 12), (100, 8), (106, 12), (100, 200), (100, 200), (100, 200), (100, 200), (100, 200), (100, 200), (100, 200), (100, 200), (100, 200), (100, 200), (100, 200), (100, 200), (106, 12), (100, 200), (100, 200), (100, 200), (100, 200), (100, 200), (100, 200), (100, 200), (100, 200), (100, 200), (100, 200), (100, 200), (100, 200), (107, 12), (101, 200), (101, 200), (101, 200), (101, 200), (101, 200), (101, 200), (101, 200), (101, 200), (101, 200), (101, 200), (101, 200), (101, 200), (100, 4), (100, 4), (106, 4), (100, 40), (100, 40), (100, 40), (100, 40), (100, 40)]
def gSh (k : Nat) : Nat × Nat := if k < 41 then gSh1.getD k (0, 0) else if k < 137 then (if (k - 41) % 4 = 0 then (1, 4) else if (k - 41) % 4 = 2 then (101, 200) else (100, 200)) else if k < 145 then (if (k - 137) % 2 = 0 then (6, 3) else (100, 40)) else gSh2.getD (k - 145) (0, 0)
def gRr1 : List (List (Option Nat)) := [[some 1, some 2, some 3, some 4, none, some 5, some 6, some 7, some 8, some 12, some 20, some 22, some 25, some 28, some 32, some 38], [], [], [], [], [], [], [], [some 9, some 10, some 11, none], [], [], [], [some 13, some 14, some 15, some 16, some 17, some 18, none, some 19, none], [], [], [], [], [], [], [], [some 12, some 21, none, none, none, none, none, none], [], [some 12, some 23, some 24], [], [], [some 26, some 27], [], [], [some 29, none, some 30, none, some 31], [], [], [], [some 33, some 34, none, some 35, some 36, some 37, none, none, none], [], [], [], [], [], [some 39, some 40], [], []]
def gRr2 : List (Option Nat) := [some 146, some 147, some 160, some 173, some 186, none, none, some 187, some 188, some 189, none, none, none, none, none, none, none, some 190, some 191, none, some 192, some 193, none, some 194, none, none, some 195, none, some 196, some 197, some 198, some 211, some 224, some 237, some 238, some 239, some 244]
def gRr (k j : Nat) : Option Nat := if k = 1 then (if j < 12 then some (41 + 8 * j) else none) else if k = 2 then (if j < 12 then some (45 + 8 * j) else none) else if k = 5 then (if j < 4 then some (137 + 2 * j) else none) else if k < 41 then (gRr1.getD k []).getD j none else if k < 137 then (if (k - 41) % 4 = 0 then (if j < 3 then some (k + 1 + j) else none) else none) else if k < 145 then (if (k - 137) % 2 = 0 then (if j = 0 then some (k + 1) else none) else none) else if k = 145 then gRr2.getD j none else if k ∈ [147, 160, 173, 198, 211, 224, 239] then (if j < (gSh k).2 then some (k + 1 + j) else none) else none
def gSS (ad : Nat → Nat) : gS := (245, gSh, gRr, ad)
theorem sh_0 {ad : Nat → Nat} : (gSS ad).2.1 0 = (9, 16) := rfl
theorem sh_1 {ad : Nat → Nat} : (gSS ad).2.1 1 = (104, 12) := rfl
theorem sh_2 {ad : Nat → Nat} : (gSS ad).2.1 2 = (104, 12) := rfl
theorem sh_3 {ad : Nat → Nat} : (gSS ad).2.1 3 = (100, 8) := rfl
theorem sh_4 {ad : Nat → Nat} : (gSS ad).2.1 4 = (100, 8) := rfl
theorem sh_5 {ad : Nat → Nat} : (gSS ad).2.1 5 = (105, 4) := rfl
theorem sh_6 {ad : Nat → Nat} : (gSS ad).2.1 6 = (100, 5) := rfl
theorem sh_7 {ad : Nat → Nat} : (gSS ad).2.1 7 = (100, 8) := rfl
theorem sh_8 {ad : Nat → Nat} : (gSS ad).2.1 8 = (1, 4) := rfl
theorem sh_9 {ad : Nat → Nat} : (gSS ad).2.1 9 = (100, 200) := rfl
theorem sh_10 {ad : Nat → Nat} : (gSS ad).2.1 10 = (101, 200) := rfl
theorem sh_11 {ad : Nat → Nat} : (gSS ad).2.1 11 = (100, 200) := rfl
theorem sh_12 {ad : Nat → Nat} : (gSS ad).2.1 12 = (0, 9) := rfl
theorem sh_13 {ad : Nat → Nat} : (gSS ad).2.1 13 = (100, 1200) := rfl
theorem sh_14 {ad : Nat → Nat} : (gSS ad).2.1 14 = (101, 1200) := rfl
theorem sh_15 {ad : Nat → Nat} : (gSS ad).2.1 15 = (100, 1200) := rfl
theorem sh_16 {ad : Nat → Nat} : (gSS ad).2.1 16 = (100, 1200) := rfl
theorem sh_17 {ad : Nat → Nat} : (gSS ad).2.1 17 = (100, 1200) := rfl
theorem sh_18 {ad : Nat → Nat} : (gSS ad).2.1 18 = (100, 1200) := rfl
theorem sh_19 {ad : Nat → Nat} : (gSS ad).2.1 19 = (100, 600) := rfl
theorem sh_20 {ad : Nat → Nat} : (gSS ad).2.1 20 = (5, 8) := rfl
theorem sh_21 {ad : Nat → Nat} : (gSS ad).2.1 21 = (100, 120) := rfl
theorem sh_22 {ad : Nat → Nat} : (gSS ad).2.1 22 = (7, 3) := rfl
theorem sh_23 {ad : Nat → Nat} : (gSS ad).2.1 23 = (100, 200) := rfl
theorem sh_24 {ad : Nat → Nat} : (gSS ad).2.1 24 = (100, 200) := rfl
theorem sh_25 {ad : Nat → Nat} : (gSS ad).2.1 25 = (8, 2) := rfl
theorem sh_26 {ad : Nat → Nat} : (gSS ad).2.1 26 = (101, 200) := rfl
theorem sh_27 {ad : Nat → Nat} : (gSS ad).2.1 27 = (102, 200) := rfl
theorem sh_28 {ad : Nat → Nat} : (gSS ad).2.1 28 = (4, 5) := rfl
theorem sh_29 {ad : Nat → Nat} : (gSS ad).2.1 29 = (103, 4800) := rfl
theorem sh_30 {ad : Nat → Nat} : (gSS ad).2.1 30 = (100, 1600) := rfl
theorem sh_31 {ad : Nat → Nat} : (gSS ad).2.1 31 = (100, 20) := rfl
theorem sh_32 {ad : Nat → Nat} : (gSS ad).2.1 32 = (3, 9) := rfl
theorem sh_33 {ad : Nat → Nat} : (gSS ad).2.1 33 = (100, 400) := rfl
theorem sh_34 {ad : Nat → Nat} : (gSS ad).2.1 34 = (101, 400) := rfl
theorem sh_35 {ad : Nat → Nat} : (gSS ad).2.1 35 = (100, 200) := rfl
theorem sh_36 {ad : Nat → Nat} : (gSS ad).2.1 36 = (100, 200) := rfl
theorem sh_37 {ad : Nat → Nat} : (gSS ad).2.1 37 = (101, 400) := rfl
theorem sh_38 {ad : Nat → Nat} : (gSS ad).2.1 38 = (2, 2) := rfl
theorem sh_39 {ad : Nat → Nat} : (gSS ad).2.1 39 = (100, 200) := rfl
theorem sh_40 {ad : Nat → Nat} : (gSS ad).2.1 40 = (102, 200) := rfl
theorem sh_145 {ad : Nat → Nat} : (gSS ad).2.1 145 = (10, 37) := rfl
theorem sh_146 {ad : Nat → Nat} : (gSS ad).2.1 146 = (100, 12) := rfl
theorem sh_147 {ad : Nat → Nat} : (gSS ad).2.1 147 = (106, 12) := rfl
theorem sh_148 {ad : Nat → Nat} : (gSS ad).2.1 148 = (100, 200) := rfl
theorem sh_149 {ad : Nat → Nat} : (gSS ad).2.1 149 = (100, 200) := rfl
theorem sh_150 {ad : Nat → Nat} : (gSS ad).2.1 150 = (100, 200) := rfl
theorem sh_151 {ad : Nat → Nat} : (gSS ad).2.1 151 = (100, 200) := rfl
theorem sh_152 {ad : Nat → Nat} : (gSS ad).2.1 152 = (100, 200) := rfl
theorem sh_153 {ad : Nat → Nat} : (gSS ad).2.1 153 = (100, 200) := rfl
theorem sh_154 {ad : Nat → Nat} : (gSS ad).2.1 154 = (100, 200) := rfl
theorem sh_155 {ad : Nat → Nat} : (gSS ad).2.1 155 = (100, 200) := rfl
theorem sh_156 {ad : Nat → Nat} : (gSS ad).2.1 156 = (100, 200) := rfl
theorem sh_157 {ad : Nat → Nat} : (gSS ad).2.1 157 = (100, 200) := rfl
theorem sh_158 {ad : Nat → Nat} : (gSS ad).2.1 158 = (100, 200) := rfl
theorem sh_159 {ad : Nat → Nat} : (gSS ad).2.1 159 = (100, 200) := rfl
theorem sh_160 {ad : Nat → Nat} : (gSS ad).2.1 160 = (107, 12) := rfl
theorem sh_161 {ad : Nat → Nat} : (gSS ad).2.1 161 = (101, 200) := rfl
theorem sh_162 {ad : Nat → Nat} : (gSS ad).2.1 162 = (101, 200) := rfl
theorem sh_163 {ad : Nat → Nat} : (gSS ad).2.1 163 = (101, 200) := rfl
theorem sh_164 {ad : Nat → Nat} : (gSS ad).2.1 164 = (101, 200) := rfl
theorem sh_165 {ad : Nat → Nat} : (gSS ad).2.1 165 = (101, 200) := rfl
theorem sh_166 {ad : Nat → Nat} : (gSS ad).2.1 166 = (101, 200) := rfl
theorem sh_167 {ad : Nat → Nat} : (gSS ad).2.1 167 = (101, 200) := rfl
theorem sh_168 {ad : Nat → Nat} : (gSS ad).2.1 168 = (101, 200) := rfl
theorem sh_169 {ad : Nat → Nat} : (gSS ad).2.1 169 = (101, 200) := rfl
theorem sh_170 {ad : Nat → Nat} : (gSS ad).2.1 170 = (101, 200) := rfl
theorem sh_171 {ad : Nat → Nat} : (gSS ad).2.1 171 = (101, 200) := rfl
theorem sh_172 {ad : Nat → Nat} : (gSS ad).2.1 172 = (101, 200) := rfl
theorem sh_173 {ad : Nat → Nat} : (gSS ad).2.1 173 = (106, 12) := rfl
theorem sh_174 {ad : Nat → Nat} : (gSS ad).2.1 174 = (100, 200) := rfl
theorem sh_175 {ad : Nat → Nat} : (gSS ad).2.1 175 = (100, 200) := rfl
theorem sh_176 {ad : Nat → Nat} : (gSS ad).2.1 176 = (100, 200) := rfl
theorem sh_177 {ad : Nat → Nat} : (gSS ad).2.1 177 = (100, 200) := rfl
theorem sh_178 {ad : Nat → Nat} : (gSS ad).2.1 178 = (100, 200) := rfl
theorem sh_179 {ad : Nat → Nat} : (gSS ad).2.1 179 = (100, 200) := rfl
theorem sh_180 {ad : Nat → Nat} : (gSS ad).2.1 180 = (100, 200) := rfl
theorem sh_181 {ad : Nat → Nat} : (gSS ad).2.1 181 = (100, 200) := rfl
theorem sh_182 {ad : Nat → Nat} : (gSS ad).2.1 182 = (100, 200) := rfl
theorem sh_183 {ad : Nat → Nat} : (gSS ad).2.1 183 = (100, 200) := rfl
theorem sh_184 {ad : Nat → Nat} : (gSS ad).2.1 184 = (100, 200) := rfl
theorem sh_185 {ad : Nat → Nat} : (gSS ad).2.1 185 = (100, 200) := rfl
theorem sh_186 {ad : Nat → Nat} : (gSS ad).2.1 186 = (100, 8) := rfl
theorem sh_187 {ad : Nat → Nat} : (gSS ad).2.1 187 = (100, 260) := rfl
theorem sh_188 {ad : Nat → Nat} : (gSS ad).2.1 188 = (101, 260) := rfl
theorem sh_189 {ad : Nat → Nat} : (gSS ad).2.1 189 = (100, 120) := rfl
theorem sh_190 {ad : Nat → Nat} : (gSS ad).2.1 190 = (100, 8) := rfl
theorem sh_191 {ad : Nat → Nat} : (gSS ad).2.1 191 = (100, 6000) := rfl
theorem sh_192 {ad : Nat → Nat} : (gSS ad).2.1 192 = (100, 800) := rfl
theorem sh_193 {ad : Nat → Nat} : (gSS ad).2.1 193 = (101, 800) := rfl
theorem sh_194 {ad : Nat → Nat} : (gSS ad).2.1 194 = (101, 208) := rfl
theorem sh_195 {ad : Nat → Nat} : (gSS ad).2.1 195 = (100, 8) := rfl
theorem sh_196 {ad : Nat → Nat} : (gSS ad).2.1 196 = (100, 12) := rfl
theorem sh_197 {ad : Nat → Nat} : (gSS ad).2.1 197 = (100, 8) := rfl
theorem sh_198 {ad : Nat → Nat} : (gSS ad).2.1 198 = (106, 12) := rfl
theorem sh_199 {ad : Nat → Nat} : (gSS ad).2.1 199 = (100, 200) := rfl
theorem sh_200 {ad : Nat → Nat} : (gSS ad).2.1 200 = (100, 200) := rfl
theorem sh_201 {ad : Nat → Nat} : (gSS ad).2.1 201 = (100, 200) := rfl
theorem sh_202 {ad : Nat → Nat} : (gSS ad).2.1 202 = (100, 200) := rfl
theorem sh_203 {ad : Nat → Nat} : (gSS ad).2.1 203 = (100, 200) := rfl
theorem sh_204 {ad : Nat → Nat} : (gSS ad).2.1 204 = (100, 200) := rfl
theorem sh_205 {ad : Nat → Nat} : (gSS ad).2.1 205 = (100, 200) := rfl
theorem sh_206 {ad : Nat → Nat} : (gSS ad).2.1 206 = (100, 200) := rfl
theorem sh_207 {ad : Nat → Nat} : (gSS ad).2.1 207 = (100, 200) := rfl
theorem sh_208 {ad : Nat → Nat} : (gSS ad).2.1 208 = (100, 200) := rfl
theorem sh_209 {ad : Nat → Nat} : (gSS ad).2.1 209 = (100, 200) := rfl
theorem sh_210 {ad : Nat → Nat} : (gSS ad).2.1 210 = (100, 200) := rfl
theorem sh_211 {ad : Nat → Nat} : (gSS ad).2.1 211 = (106, 12) := rfl
theorem sh_212 {ad : Nat → Nat} : (gSS ad).2.1 212 = (100, 200) := rfl
theorem sh_213 {ad : Nat → Nat} : (gSS ad).2.1 213 = (100, 200) := rfl
theorem sh_214 {ad : Nat → Nat} : (gSS ad).2.1 214 = (100, 200) := rfl
theorem sh_215 {ad : Nat → Nat} : (gSS ad).2.1 215 = (100, 200) := rfl
theorem sh_216 {ad : Nat → Nat} : (gSS ad).2.1 216 = (100, 200) := rfl
theorem sh_217 {ad : Nat → Nat} : (gSS ad).2.1 217 = (100, 200) := rfl
theorem sh_218 {ad : Nat → Nat} : (gSS ad).2.1 218 = (100, 200) := rfl
theorem sh_219 {ad : Nat → Nat} : (gSS ad).2.1 219 = (100, 200) := rfl
theorem sh_220 {ad : Nat → Nat} : (gSS ad).2.1 220 = (100, 200) := rfl
theorem sh_221 {ad : Nat → Nat} : (gSS ad).2.1 221 = (100, 200) := rfl
theorem sh_222 {ad : Nat → Nat} : (gSS ad).2.1 222 = (100, 200) := rfl
theorem sh_223 {ad : Nat → Nat} : (gSS ad).2.1 223 = (100, 200) := rfl
theorem sh_224 {ad : Nat → Nat} : (gSS ad).2.1 224 = (107, 12) := rfl
theorem sh_225 {ad : Nat → Nat} : (gSS ad).2.1 225 = (101, 200) := rfl
theorem sh_226 {ad : Nat → Nat} : (gSS ad).2.1 226 = (101, 200) := rfl
theorem sh_227 {ad : Nat → Nat} : (gSS ad).2.1 227 = (101, 200) := rfl
theorem sh_228 {ad : Nat → Nat} : (gSS ad).2.1 228 = (101, 200) := rfl
theorem sh_229 {ad : Nat → Nat} : (gSS ad).2.1 229 = (101, 200) := rfl
theorem sh_230 {ad : Nat → Nat} : (gSS ad).2.1 230 = (101, 200) := rfl
theorem sh_231 {ad : Nat → Nat} : (gSS ad).2.1 231 = (101, 200) := rfl
theorem sh_232 {ad : Nat → Nat} : (gSS ad).2.1 232 = (101, 200) := rfl
theorem sh_233 {ad : Nat → Nat} : (gSS ad).2.1 233 = (101, 200) := rfl
theorem sh_234 {ad : Nat → Nat} : (gSS ad).2.1 234 = (101, 200) := rfl
theorem sh_235 {ad : Nat → Nat} : (gSS ad).2.1 235 = (101, 200) := rfl
theorem sh_236 {ad : Nat → Nat} : (gSS ad).2.1 236 = (101, 200) := rfl
theorem sh_237 {ad : Nat → Nat} : (gSS ad).2.1 237 = (100, 4) := rfl
theorem sh_238 {ad : Nat → Nat} : (gSS ad).2.1 238 = (100, 4) := rfl
theorem sh_239 {ad : Nat → Nat} : (gSS ad).2.1 239 = (106, 4) := rfl
theorem sh_240 {ad : Nat → Nat} : (gSS ad).2.1 240 = (100, 40) := rfl
theorem sh_241 {ad : Nat → Nat} : (gSS ad).2.1 241 = (100, 40) := rfl
theorem sh_242 {ad : Nat → Nat} : (gSS ad).2.1 242 = (100, 40) := rfl
theorem sh_243 {ad : Nat → Nat} : (gSS ad).2.1 243 = (100, 40) := rfl
theorem sh_244 {ad : Nat → Nat} : (gSS ad).2.1 244 = (100, 40) := rfl
theorem pl_0 {ad : Nat → Nat} : 0 < (gSS ad).1 := by show 0 < 245; decide
theorem pl_1 {ad : Nat → Nat} : 1 < (gSS ad).1 := by show 1 < 245; decide
theorem pl_2 {ad : Nat → Nat} : 2 < (gSS ad).1 := by show 2 < 245; decide
theorem pl_3 {ad : Nat → Nat} : 3 < (gSS ad).1 := by show 3 < 245; decide
theorem pl_4 {ad : Nat → Nat} : 4 < (gSS ad).1 := by show 4 < 245; decide
theorem pl_5 {ad : Nat → Nat} : 5 < (gSS ad).1 := by show 5 < 245; decide
theorem pl_6 {ad : Nat → Nat} : 6 < (gSS ad).1 := by show 6 < 245; decide
theorem pl_7 {ad : Nat → Nat} : 7 < (gSS ad).1 := by show 7 < 245; decide
theorem pl_8 {ad : Nat → Nat} : 8 < (gSS ad).1 := by show 8 < 245; decide
theorem pl_9 {ad : Nat → Nat} : 9 < (gSS ad).1 := by show 9 < 245; decide
theorem pl_10 {ad : Nat → Nat} : 10 < (gSS ad).1 := by show 10 < 245; decide
theorem pl_11 {ad : Nat → Nat} : 11 < (gSS ad).1 := by show 11 < 245; decide
theorem pl_12 {ad : Nat → Nat} : 12 < (gSS ad).1 := by show 12 < 245; decide
theorem pl_13 {ad : Nat → Nat} : 13 < (gSS ad).1 := by show 13 < 245; decide
theorem pl_14 {ad : Nat → Nat} : 14 < (gSS ad).1 := by show 14 < 245; decide
theorem pl_15 {ad : Nat → Nat} : 15 < (gSS ad).1 := by show 15 < 245; decide
theorem pl_16 {ad : Nat → Nat} : 16 < (gSS ad).1 := by show 16 < 245; decide
theorem pl_17 {ad : Nat → Nat} : 17 < (gSS ad).1 := by show 17 < 245; decide
theorem pl_18 {ad : Nat → Nat} : 18 < (gSS ad).1 := by show 18 < 245; decide
theorem pl_19 {ad : Nat → Nat} : 19 < (gSS ad).1 := by show 19 < 245; decide
theorem pl_20 {ad : Nat → Nat} : 20 < (gSS ad).1 := by show 20 < 245; decide
theorem pl_21 {ad : Nat → Nat} : 21 < (gSS ad).1 := by show 21 < 245; decide
theorem pl_22 {ad : Nat → Nat} : 22 < (gSS ad).1 := by show 22 < 245; decide
theorem pl_23 {ad : Nat → Nat} : 23 < (gSS ad).1 := by show 23 < 245; decide
theorem pl_24 {ad : Nat → Nat} : 24 < (gSS ad).1 := by show 24 < 245; decide
theorem pl_25 {ad : Nat → Nat} : 25 < (gSS ad).1 := by show 25 < 245; decide
theorem pl_26 {ad : Nat → Nat} : 26 < (gSS ad).1 := by show 26 < 245; decide
theorem pl_27 {ad : Nat → Nat} : 27 < (gSS ad).1 := by show 27 < 245; decide
theorem pl_28 {ad : Nat → Nat} : 28 < (gSS ad).1 := by show 28 < 245; decide
theorem pl_29 {ad : Nat → Nat} : 29 < (gSS ad).1 := by show 29 < 245; decide
theorem pl_30 {ad : Nat → Nat} : 30 < (gSS ad).1 := by show 30 < 245; decide
theorem pl_31 {ad : Nat → Nat} : 31 < (gSS ad).1 := by show 31 < 245; decide
theorem pl_32 {ad : Nat → Nat} : 32 < (gSS ad).1 := by show 32 < 245; decide
theorem pl_33 {ad : Nat → Nat} : 33 < (gSS ad).1 := by show 33 < 245; decide
theorem pl_34 {ad : Nat → Nat} : 34 < (gSS ad).1 := by show 34 < 245; decide
theorem pl_35 {ad : Nat → Nat} : 35 < (gSS ad).1 := by show 35 < 245; decide
theorem pl_36 {ad : Nat → Nat} : 36 < (gSS ad).1 := by show 36 < 245; decide
theorem pl_37 {ad : Nat → Nat} : 37 < (gSS ad).1 := by show 37 < 245; decide
theorem pl_38 {ad : Nat → Nat} : 38 < (gSS ad).1 := by show 38 < 245; decide
theorem pl_39 {ad : Nat → Nat} : 39 < (gSS ad).1 := by show 39 < 245; decide
theorem pl_40 {ad : Nat → Nat} : 40 < (gSS ad).1 := by show 40 < 245; decide
theorem pl_145 {ad : Nat → Nat} : 145 < (gSS ad).1 := by show 145 < 245; decide
theorem pl_146 {ad : Nat → Nat} : 146 < (gSS ad).1 := by show 146 < 245; decide
theorem pl_147 {ad : Nat → Nat} : 147 < (gSS ad).1 := by show 147 < 245; decide
theorem pl_148 {ad : Nat → Nat} : 148 < (gSS ad).1 := by show 148 < 245; decide
theorem pl_149 {ad : Nat → Nat} : 149 < (gSS ad).1 := by show 149 < 245; decide
theorem pl_150 {ad : Nat → Nat} : 150 < (gSS ad).1 := by show 150 < 245; decide
theorem pl_151 {ad : Nat → Nat} : 151 < (gSS ad).1 := by show 151 < 245; decide
theorem pl_152 {ad : Nat → Nat} : 152 < (gSS ad).1 := by show 152 < 245; decide
theorem pl_153 {ad : Nat → Nat} : 153 < (gSS ad).1 := by show 153 < 245; decide
theorem pl_154 {ad : Nat → Nat} : 154 < (gSS ad).1 := by show 154 < 245; decide
theorem pl_155 {ad : Nat → Nat} : 155 < (gSS ad).1 := by show 155 < 245; decide
theorem pl_156 {ad : Nat → Nat} : 156 < (gSS ad).1 := by show 156 < 245; decide
theorem pl_157 {ad : Nat → Nat} : 157 < (gSS ad).1 := by show 157 < 245; decide
theorem pl_158 {ad : Nat → Nat} : 158 < (gSS ad).1 := by show 158 < 245; decide
theorem pl_159 {ad : Nat → Nat} : 159 < (gSS ad).1 := by show 159 < 245; decide
theorem pl_160 {ad : Nat → Nat} : 160 < (gSS ad).1 := by show 160 < 245; decide
theorem pl_161 {ad : Nat → Nat} : 161 < (gSS ad).1 := by show 161 < 245; decide
theorem pl_162 {ad : Nat → Nat} : 162 < (gSS ad).1 := by show 162 < 245; decide
theorem pl_163 {ad : Nat → Nat} : 163 < (gSS ad).1 := by show 163 < 245; decide
theorem pl_164 {ad : Nat → Nat} : 164 < (gSS ad).1 := by show 164 < 245; decide
theorem pl_165 {ad : Nat → Nat} : 165 < (gSS ad).1 := by show 165 < 245; decide
theorem pl_166 {ad : Nat → Nat} : 166 < (gSS ad).1 := by show 166 < 245; decide
theorem pl_167 {ad : Nat → Nat} : 167 < (gSS ad).1 := by show 167 < 245; decide
theorem pl_168 {ad : Nat → Nat} : 168 < (gSS ad).1 := by show 168 < 245; decide
theorem pl_169 {ad : Nat → Nat} : 169 < (gSS ad).1 := by show 169 < 245; decide
theorem pl_170 {ad : Nat → Nat} : 170 < (gSS ad).1 := by show 170 < 245; decide
theorem pl_171 {ad : Nat → Nat} : 171 < (gSS ad).1 := by show 171 < 245; decide
theorem pl_172 {ad : Nat → Nat} : 172 < (gSS ad).1 := by show 172 < 245; decide
theorem pl_173 {ad : Nat → Nat} : 173 < (gSS ad).1 := by show 173 < 245; decide
theorem pl_174 {ad : Nat → Nat} : 174 < (gSS ad).1 := by show 174 < 245; decide
theorem pl_175 {ad : Nat → Nat} : 175 < (gSS ad).1 := by show 175 < 245; decide
theorem pl_176 {ad : Nat → Nat} : 176 < (gSS ad).1 := by show 176 < 245; decide
theorem pl_177 {ad : Nat → Nat} : 177 < (gSS ad).1 := by show 177 < 245; decide
theorem pl_178 {ad : Nat → Nat} : 178 < (gSS ad).1 := by show 178 < 245; decide
theorem pl_179 {ad : Nat → Nat} : 179 < (gSS ad).1 := by show 179 < 245; decide
theorem pl_180 {ad : Nat → Nat} : 180 < (gSS ad).1 := by show 180 < 245; decide
theorem pl_181 {ad : Nat → Nat} : 181 < (gSS ad).1 := by show 181 < 245; decide
theorem pl_182 {ad : Nat → Nat} : 182 < (gSS ad).1 := by show 182 < 245; decide
theorem pl_183 {ad : Nat → Nat} : 183 < (gSS ad).1 := by show 183 < 245; decide
theorem pl_184 {ad : Nat → Nat} : 184 < (gSS ad).1 := by show 184 < 245; decide
theorem pl_185 {ad : Nat → Nat} : 185 < (gSS ad).1 := by show 185 < 245; decide
theorem pl_186 {ad : Nat → Nat} : 186 < (gSS ad).1 := by show 186 < 245; decide
theorem pl_187 {ad : Nat → Nat} : 187 < (gSS ad).1 := by show 187 < 245; decide
theorem pl_188 {ad : Nat → Nat} : 188 < (gSS ad).1 := by show 188 < 245; decide
theorem pl_189 {ad : Nat → Nat} : 189 < (gSS ad).1 := by show 189 < 245; decide
theorem pl_190 {ad : Nat → Nat} : 190 < (gSS ad).1 := by show 190 < 245; decide
theorem pl_191 {ad : Nat → Nat} : 191 < (gSS ad).1 := by show 191 < 245; decide
theorem pl_192 {ad : Nat → Nat} : 192 < (gSS ad).1 := by show 192 < 245; decide
theorem pl_193 {ad : Nat → Nat} : 193 < (gSS ad).1 := by show 193 < 245; decide
theorem pl_194 {ad : Nat → Nat} : 194 < (gSS ad).1 := by show 194 < 245; decide
theorem pl_195 {ad : Nat → Nat} : 195 < (gSS ad).1 := by show 195 < 245; decide
theorem pl_196 {ad : Nat → Nat} : 196 < (gSS ad).1 := by show 196 < 245; decide
theorem pl_197 {ad : Nat → Nat} : 197 < (gSS ad).1 := by show 197 < 245; decide
theorem pl_198 {ad : Nat → Nat} : 198 < (gSS ad).1 := by show 198 < 245; decide
theorem pl_199 {ad : Nat → Nat} : 199 < (gSS ad).1 := by show 199 < 245; decide
theorem pl_200 {ad : Nat → Nat} : 200 < (gSS ad).1 := by show 200 < 245; decide
theorem pl_201 {ad : Nat → Nat} : 201 < (gSS ad).1 := by show 201 < 245; decide
theorem pl_202 {ad : Nat → Nat} : 202 < (gSS ad).1 := by show 202 < 245; decide
theorem pl_203 {ad : Nat → Nat} : 203 < (gSS ad).1 := by show 203 < 245; decide
theorem pl_204 {ad : Nat → Nat} : 204 < (gSS ad).1 := by show 204 < 245; decide
theorem pl_205 {ad : Nat → Nat} : 205 < (gSS ad).1 := by show 205 < 245; decide
theorem pl_206 {ad : Nat → Nat} : 206 < (gSS ad).1 := by show 206 < 245; decide
theorem pl_207 {ad : Nat → Nat} : 207 < (gSS ad).1 := by show 207 < 245; decide
theorem pl_208 {ad : Nat → Nat} : 208 < (gSS ad).1 := by show 208 < 245; decide
theorem pl_209 {ad : Nat → Nat} : 209 < (gSS ad).1 := by show 209 < 245; decide
theorem pl_210 {ad : Nat → Nat} : 210 < (gSS ad).1 := by show 210 < 245; decide
theorem pl_211 {ad : Nat → Nat} : 211 < (gSS ad).1 := by show 211 < 245; decide
theorem pl_212 {ad : Nat → Nat} : 212 < (gSS ad).1 := by show 212 < 245; decide
theorem pl_213 {ad : Nat → Nat} : 213 < (gSS ad).1 := by show 213 < 245; decide
theorem pl_214 {ad : Nat → Nat} : 214 < (gSS ad).1 := by show 214 < 245; decide
theorem pl_215 {ad : Nat → Nat} : 215 < (gSS ad).1 := by show 215 < 245; decide
theorem pl_216 {ad : Nat → Nat} : 216 < (gSS ad).1 := by show 216 < 245; decide
theorem pl_217 {ad : Nat → Nat} : 217 < (gSS ad).1 := by show 217 < 245; decide
theorem pl_218 {ad : Nat → Nat} : 218 < (gSS ad).1 := by show 218 < 245; decide
theorem pl_219 {ad : Nat → Nat} : 219 < (gSS ad).1 := by show 219 < 245; decide
theorem pl_220 {ad : Nat → Nat} : 220 < (gSS ad).1 := by show 220 < 245; decide
theorem pl_221 {ad : Nat → Nat} : 221 < (gSS ad).1 := by show 221 < 245; decide
theorem pl_222 {ad : Nat → Nat} : 222 < (gSS ad).1 := by show 222 < 245; decide
theorem pl_223 {ad : Nat → Nat} : 223 < (gSS ad).1 := by show 223 < 245; decide
theorem pl_224 {ad : Nat → Nat} : 224 < (gSS ad).1 := by show 224 < 245; decide
theorem pl_225 {ad : Nat → Nat} : 225 < (gSS ad).1 := by show 225 < 245; decide
theorem pl_226 {ad : Nat → Nat} : 226 < (gSS ad).1 := by show 226 < 245; decide
theorem pl_227 {ad : Nat → Nat} : 227 < (gSS ad).1 := by show 227 < 245; decide
theorem pl_228 {ad : Nat → Nat} : 228 < (gSS ad).1 := by show 228 < 245; decide
theorem pl_229 {ad : Nat → Nat} : 229 < (gSS ad).1 := by show 229 < 245; decide
theorem pl_230 {ad : Nat → Nat} : 230 < (gSS ad).1 := by show 230 < 245; decide
theorem pl_231 {ad : Nat → Nat} : 231 < (gSS ad).1 := by show 231 < 245; decide
theorem pl_232 {ad : Nat → Nat} : 232 < (gSS ad).1 := by show 232 < 245; decide
theorem pl_233 {ad : Nat → Nat} : 233 < (gSS ad).1 := by show 233 < 245; decide
theorem pl_234 {ad : Nat → Nat} : 234 < (gSS ad).1 := by show 234 < 245; decide
theorem pl_235 {ad : Nat → Nat} : 235 < (gSS ad).1 := by show 235 < 245; decide
theorem pl_236 {ad : Nat → Nat} : 236 < (gSS ad).1 := by show 236 < 245; decide
theorem pl_237 {ad : Nat → Nat} : 237 < (gSS ad).1 := by show 237 < 245; decide
theorem pl_238 {ad : Nat → Nat} : 238 < (gSS ad).1 := by show 238 < 245; decide
theorem pl_239 {ad : Nat → Nat} : 239 < (gSS ad).1 := by show 239 < 245; decide
theorem pl_240 {ad : Nat → Nat} : 240 < (gSS ad).1 := by show 240 < 245; decide
theorem pl_241 {ad : Nat → Nat} : 241 < (gSS ad).1 := by show 241 < 245; decide
theorem pl_242 {ad : Nat → Nat} : 242 < (gSS ad).1 := by show 242 < 245; decide
theorem pl_243 {ad : Nat → Nat} : 243 < (gSS ad).1 := by show 243 < 245; decide
theorem pl_244 {ad : Nat → Nat} : 244 < (gSS ad).1 := by show 244 < 245; decide
theorem rr_0_0 {ad : Nat → Nat} : (gSS ad).2.2.1 0 0 = some 1 := rfl
theorem rr_0_1 {ad : Nat → Nat} : (gSS ad).2.2.1 0 1 = some 2 := rfl
theorem rr_0_2 {ad : Nat → Nat} : (gSS ad).2.2.1 0 2 = some 3 := rfl
theorem rr_0_3 {ad : Nat → Nat} : (gSS ad).2.2.1 0 3 = some 4 := rfl
theorem rr_0_5 {ad : Nat → Nat} : (gSS ad).2.2.1 0 5 = some 5 := rfl
theorem rr_0_6 {ad : Nat → Nat} : (gSS ad).2.2.1 0 6 = some 6 := rfl
theorem rr_0_7 {ad : Nat → Nat} : (gSS ad).2.2.1 0 7 = some 7 := rfl
theorem rr_0_8 {ad : Nat → Nat} : (gSS ad).2.2.1 0 8 = some 8 := rfl
theorem rr_0_9 {ad : Nat → Nat} : (gSS ad).2.2.1 0 9 = some 12 := rfl
theorem rr_0_10 {ad : Nat → Nat} : (gSS ad).2.2.1 0 10 = some 20 := rfl
theorem rr_0_11 {ad : Nat → Nat} : (gSS ad).2.2.1 0 11 = some 22 := rfl
theorem rr_0_12 {ad : Nat → Nat} : (gSS ad).2.2.1 0 12 = some 25 := rfl
theorem rr_0_13 {ad : Nat → Nat} : (gSS ad).2.2.1 0 13 = some 28 := rfl
theorem rr_0_14 {ad : Nat → Nat} : (gSS ad).2.2.1 0 14 = some 32 := rfl
theorem rr_0_15 {ad : Nat → Nat} : (gSS ad).2.2.1 0 15 = some 38 := rfl
theorem rr_8_0 {ad : Nat → Nat} : (gSS ad).2.2.1 8 0 = some 9 := rfl
theorem rr_8_1 {ad : Nat → Nat} : (gSS ad).2.2.1 8 1 = some 10 := rfl
theorem rr_8_2 {ad : Nat → Nat} : (gSS ad).2.2.1 8 2 = some 11 := rfl
theorem rr_12_0 {ad : Nat → Nat} : (gSS ad).2.2.1 12 0 = some 13 := rfl
theorem rr_12_1 {ad : Nat → Nat} : (gSS ad).2.2.1 12 1 = some 14 := rfl
theorem rr_12_2 {ad : Nat → Nat} : (gSS ad).2.2.1 12 2 = some 15 := rfl
theorem rr_12_3 {ad : Nat → Nat} : (gSS ad).2.2.1 12 3 = some 16 := rfl
theorem rr_12_4 {ad : Nat → Nat} : (gSS ad).2.2.1 12 4 = some 17 := rfl
theorem rr_12_5 {ad : Nat → Nat} : (gSS ad).2.2.1 12 5 = some 18 := rfl
theorem rr_12_7 {ad : Nat → Nat} : (gSS ad).2.2.1 12 7 = some 19 := rfl
theorem rr_20_0 {ad : Nat → Nat} : (gSS ad).2.2.1 20 0 = some 12 := rfl
theorem rr_20_1 {ad : Nat → Nat} : (gSS ad).2.2.1 20 1 = some 21 := rfl
theorem rr_22_0 {ad : Nat → Nat} : (gSS ad).2.2.1 22 0 = some 12 := rfl
theorem rr_22_1 {ad : Nat → Nat} : (gSS ad).2.2.1 22 1 = some 23 := rfl
theorem rr_22_2 {ad : Nat → Nat} : (gSS ad).2.2.1 22 2 = some 24 := rfl
theorem rr_25_0 {ad : Nat → Nat} : (gSS ad).2.2.1 25 0 = some 26 := rfl
theorem rr_25_1 {ad : Nat → Nat} : (gSS ad).2.2.1 25 1 = some 27 := rfl
theorem rr_28_0 {ad : Nat → Nat} : (gSS ad).2.2.1 28 0 = some 29 := rfl
theorem rr_28_2 {ad : Nat → Nat} : (gSS ad).2.2.1 28 2 = some 30 := rfl
theorem rr_28_4 {ad : Nat → Nat} : (gSS ad).2.2.1 28 4 = some 31 := rfl
theorem rr_32_0 {ad : Nat → Nat} : (gSS ad).2.2.1 32 0 = some 33 := rfl
theorem rr_32_1 {ad : Nat → Nat} : (gSS ad).2.2.1 32 1 = some 34 := rfl
theorem rr_32_3 {ad : Nat → Nat} : (gSS ad).2.2.1 32 3 = some 35 := rfl
theorem rr_32_4 {ad : Nat → Nat} : (gSS ad).2.2.1 32 4 = some 36 := rfl
theorem rr_32_5 {ad : Nat → Nat} : (gSS ad).2.2.1 32 5 = some 37 := rfl
theorem rr_38_0 {ad : Nat → Nat} : (gSS ad).2.2.1 38 0 = some 39 := rfl
theorem rr_38_1 {ad : Nat → Nat} : (gSS ad).2.2.1 38 1 = some 40 := rfl
theorem rr_145_0 {ad : Nat → Nat} : (gSS ad).2.2.1 145 0 = some 146 := rfl
theorem rr_145_1 {ad : Nat → Nat} : (gSS ad).2.2.1 145 1 = some 147 := rfl
theorem rr_145_2 {ad : Nat → Nat} : (gSS ad).2.2.1 145 2 = some 160 := rfl
theorem rr_145_3 {ad : Nat → Nat} : (gSS ad).2.2.1 145 3 = some 173 := rfl
theorem rr_145_4 {ad : Nat → Nat} : (gSS ad).2.2.1 145 4 = some 186 := rfl
theorem rr_145_7 {ad : Nat → Nat} : (gSS ad).2.2.1 145 7 = some 187 := rfl
theorem rr_145_8 {ad : Nat → Nat} : (gSS ad).2.2.1 145 8 = some 188 := rfl
theorem rr_145_9 {ad : Nat → Nat} : (gSS ad).2.2.1 145 9 = some 189 := rfl
theorem rr_145_17 {ad : Nat → Nat} : (gSS ad).2.2.1 145 17 = some 190 := rfl
theorem rr_145_18 {ad : Nat → Nat} : (gSS ad).2.2.1 145 18 = some 191 := rfl
theorem rr_145_20 {ad : Nat → Nat} : (gSS ad).2.2.1 145 20 = some 192 := rfl
theorem rr_145_21 {ad : Nat → Nat} : (gSS ad).2.2.1 145 21 = some 193 := rfl
theorem rr_145_23 {ad : Nat → Nat} : (gSS ad).2.2.1 145 23 = some 194 := rfl
theorem rr_145_26 {ad : Nat → Nat} : (gSS ad).2.2.1 145 26 = some 195 := rfl
theorem rr_145_28 {ad : Nat → Nat} : (gSS ad).2.2.1 145 28 = some 196 := rfl
theorem rr_145_29 {ad : Nat → Nat} : (gSS ad).2.2.1 145 29 = some 197 := rfl
theorem rr_145_30 {ad : Nat → Nat} : (gSS ad).2.2.1 145 30 = some 198 := rfl
theorem rr_145_31 {ad : Nat → Nat} : (gSS ad).2.2.1 145 31 = some 211 := rfl
theorem rr_145_32 {ad : Nat → Nat} : (gSS ad).2.2.1 145 32 = some 224 := rfl
theorem rr_145_33 {ad : Nat → Nat} : (gSS ad).2.2.1 145 33 = some 237 := rfl
theorem rr_145_34 {ad : Nat → Nat} : (gSS ad).2.2.1 145 34 = some 238 := rfl
theorem rr_145_35 {ad : Nat → Nat} : (gSS ad).2.2.1 145 35 = some 239 := rfl
theorem rr_145_36 {ad : Nat → Nat} : (gSS ad).2.2.1 145 36 = some 244 := rfl
/-- a is the place of a Formula, its rows behind it -/
def gF (a : Nat) : Prop := gSh a = (1, 4) ∧ a + 3 < 245 ∧ gRr a 0 = some (a + 1) ∧ gRr a 1 = some (a + 2) ∧ gRr a 2 = some (a + 3) ∧ gSh (a + 1) = (100, 200) ∧ gSh (a + 2) = (101, 200) ∧ gSh (a + 3) = (100, 200)
theorem gF_8 : gF 8 := by unfold gF; decide
theorem gF_fo : ∀ f, f < 12 → gF (41 + 8 * f) := by
  intro f hf
  have h : ∀ f : Fin 12, gSh (41 + 8 * f.val) = (1, 4) ∧ 41 + 8 * f.val + 3 < 245 ∧ gRr (41 + 8 * f.val) 0 = some (41 + 8 * f.val + 1) ∧ gRr (41 + 8 * f.val) 1 = some (41 + 8 * f.val + 2) ∧ gRr (41 + 8 * f.val) 2 = some (41 + 8 * f.val + 3) ∧ gSh (41 + 8 * f.val + 1) = (100, 200) ∧ gSh (41 + 8 * f.val + 2) = (101, 200) ∧ gSh (41 + 8 * f.val + 3) = (100, 200) := by decide +kernel
  exact h ⟨f, hf⟩
theorem gF_ke : ∀ f, f < 12 → gF (45 + 8 * f) := by
  intro f hf
  have h : ∀ f : Fin 12, gSh (45 + 8 * f.val) = (1, 4) ∧ 45 + 8 * f.val + 3 < 245 ∧ gRr (45 + 8 * f.val) 0 = some (45 + 8 * f.val + 1) ∧ gRr (45 + 8 * f.val) 1 = some (45 + 8 * f.val + 2) ∧ gRr (45 + 8 * f.val) 2 = some (45 + 8 * f.val + 3) ∧ gSh (45 + 8 * f.val + 1) = (100, 200) ∧ gSh (45 + 8 * f.val + 2) = (101, 200) ∧ gSh (45 + 8 * f.val + 3) = (100, 200) := by decide +kernel
  exact h ⟨f, hf⟩
theorem gFsh {ad : Nat → Nat} {a : Nat} (h : gF a) : (gSS ad).2.1 a = (1, 4) := h.1
theorem gFlt {ad : Nat → Nat} {a : Nat} (h : gF a) : a < (gSS ad).1 := by have := h.2.1; show a < 245; omega
theorem gFr0 {ad : Nat → Nat} {a : Nat} (h : gF a) : (gSS ad).2.2.1 a 0 = some (a + 1) := h.2.2.1
theorem gFr1 {ad : Nat → Nat} {a : Nat} (h : gF a) : (gSS ad).2.2.1 a 1 = some (a + 2) := h.2.2.2.1
theorem gFr2 {ad : Nat → Nat} {a : Nat} (h : gF a) : (gSS ad).2.2.1 a 2 = some (a + 3) := h.2.2.2.2.1
theorem gFs1 {ad : Nat → Nat} {a : Nat} (h : gF a) : (gSS ad).2.1 (a + 1) = (100, 200) := h.2.2.2.2.2.1
theorem gFs2 {ad : Nat → Nat} {a : Nat} (h : gF a) : (gSS ad).2.1 (a + 2) = (101, 200) := h.2.2.2.2.2.2.1
theorem gFs3 {ad : Nat → Nat} {a : Nat} (h : gF a) : (gSS ad).2.1 (a + 3) = (100, 200) := h.2.2.2.2.2.2.2
theorem gFl1 {ad : Nat → Nat} {a : Nat} (h : gF a) : a + 1 < (gSS ad).1 := by have := h.2.1; show a + 1 < 245; omega
theorem gFl2 {ad : Nat → Nat} {a : Nat} (h : gF a) : a + 2 < (gSS ad).1 := by have := h.2.1; show a + 2 < 245; omega
theorem gFl3 {ad : Nat → Nat} {a : Nat} (h : gF a) : a + 3 < (gSS ad).1 := by have := h.2.1; show a + 3 < 245; omega
theorem gSt : ∀ s, s < 4 → gSh (137 + 2 * s) = (6, 3) ∧ gRr (137 + 2 * s) 0 = some (138 + 2 * s) ∧ gSh (138 + 2 * s) = (100, 40) := by
  intro s hs
  have h : ∀ s : Fin 4, gSh (137 + 2 * s.val) = (6, 3) ∧ gRr (137 + 2 * s.val) 0 = some (138 + 2 * s.val) ∧ gSh (138 + 2 * s.val) = (100, 40) := by decide +kernel
  exact h ⟨s, hs⟩
theorem rr_1 {ad : Nat → Nat} {f : Nat} (h : f < 12) : (gSS ad).2.2.1 1 f = some (41 + 8 * f) := by show gRr 1 f = _; simp [gRr, h]
theorem rr_2 {ad : Nat → Nat} {f : Nat} (h : f < 12) : (gSS ad).2.2.1 2 f = some (45 + 8 * f) := by show gRr 2 f = _; simp [gRr, h]
theorem rr_5 {ad : Nat → Nat} {s : Nat} (h : s < 4) : (gSS ad).2.2.1 5 s = some (137 + 2 * s) := by show gRr 5 s = _; simp [gRr, h]
theorem rr_147 {ad : Nat → Nat} {f : Nat} (h : f < 12) : (gSS ad).2.2.1 147 f = some (148 + f) := by
  have z : ∀ f : Fin 12, gRr 147 f.val = some (148 + f.val) := by decide +kernel
  exact z ⟨f, h⟩
theorem rs_147 {ad : Nat → Nat} {f : Nat} (h : f < 12) : (gSS ad).2.1 (148 + f) = (100, 200) := by
  have z : ∀ f : Fin 12, gSh (148 + f.val) = (100, 200) := by decide +kernel
  exact z ⟨f, h⟩
theorem rl_147 {ad : Nat → Nat} {f : Nat} (h : f < 12) : 148 + f < (gSS ad).1 := by show 148 + f < 245; omega
theorem rr_160 {ad : Nat → Nat} {f : Nat} (h : f < 12) : (gSS ad).2.2.1 160 f = some (161 + f) := by
  have z : ∀ f : Fin 12, gRr 160 f.val = some (161 + f.val) := by decide +kernel
  exact z ⟨f, h⟩
theorem rs_160 {ad : Nat → Nat} {f : Nat} (h : f < 12) : (gSS ad).2.1 (161 + f) = (101, 200) := by
  have z : ∀ f : Fin 12, gSh (161 + f.val) = (101, 200) := by decide +kernel
  exact z ⟨f, h⟩
theorem rl_160 {ad : Nat → Nat} {f : Nat} (h : f < 12) : 161 + f < (gSS ad).1 := by show 161 + f < 245; omega
theorem rr_173 {ad : Nat → Nat} {f : Nat} (h : f < 12) : (gSS ad).2.2.1 173 f = some (174 + f) := by
  have z : ∀ f : Fin 12, gRr 173 f.val = some (174 + f.val) := by decide +kernel
  exact z ⟨f, h⟩
theorem rs_173 {ad : Nat → Nat} {f : Nat} (h : f < 12) : (gSS ad).2.1 (174 + f) = (100, 200) := by
  have z : ∀ f : Fin 12, gSh (174 + f.val) = (100, 200) := by decide +kernel
  exact z ⟨f, h⟩
theorem rl_173 {ad : Nat → Nat} {f : Nat} (h : f < 12) : 174 + f < (gSS ad).1 := by show 174 + f < 245; omega
theorem rr_198 {ad : Nat → Nat} {f : Nat} (h : f < 12) : (gSS ad).2.2.1 198 f = some (199 + f) := by
  have z : ∀ f : Fin 12, gRr 198 f.val = some (199 + f.val) := by decide +kernel
  exact z ⟨f, h⟩
theorem rs_198 {ad : Nat → Nat} {f : Nat} (h : f < 12) : (gSS ad).2.1 (199 + f) = (100, 200) := by
  have z : ∀ f : Fin 12, gSh (199 + f.val) = (100, 200) := by decide +kernel
  exact z ⟨f, h⟩
theorem rl_198 {ad : Nat → Nat} {f : Nat} (h : f < 12) : 199 + f < (gSS ad).1 := by show 199 + f < 245; omega
theorem rr_211 {ad : Nat → Nat} {f : Nat} (h : f < 12) : (gSS ad).2.2.1 211 f = some (212 + f) := by
  have z : ∀ f : Fin 12, gRr 211 f.val = some (212 + f.val) := by decide +kernel
  exact z ⟨f, h⟩
theorem rs_211 {ad : Nat → Nat} {f : Nat} (h : f < 12) : (gSS ad).2.1 (212 + f) = (100, 200) := by
  have z : ∀ f : Fin 12, gSh (212 + f.val) = (100, 200) := by decide +kernel
  exact z ⟨f, h⟩
theorem rl_211 {ad : Nat → Nat} {f : Nat} (h : f < 12) : 212 + f < (gSS ad).1 := by show 212 + f < 245; omega
theorem rr_224 {ad : Nat → Nat} {f : Nat} (h : f < 12) : (gSS ad).2.2.1 224 f = some (225 + f) := by
  have z : ∀ f : Fin 12, gRr 224 f.val = some (225 + f.val) := by decide +kernel
  exact z ⟨f, h⟩
theorem rs_224 {ad : Nat → Nat} {f : Nat} (h : f < 12) : (gSS ad).2.1 (225 + f) = (101, 200) := by
  have z : ∀ f : Fin 12, gSh (225 + f.val) = (101, 200) := by decide +kernel
  exact z ⟨f, h⟩
theorem rl_224 {ad : Nat → Nat} {f : Nat} (h : f < 12) : 225 + f < (gSS ad).1 := by show 225 + f < 245; omega
theorem rr_239 {ad : Nat → Nat} {f : Nat} (h : f < 4) : (gSS ad).2.2.1 239 f = some (240 + f) := by
  have z : ∀ f : Fin 4, gRr 239 f.val = some (240 + f.val) := by decide +kernel
  exact z ⟨f, h⟩
theorem rs_239 {ad : Nat → Nat} {f : Nat} (h : f < 4) : (gSS ad).2.1 (240 + f) = (100, 40) := by
  have z : ∀ f : Fin 4, gSh (240 + f.val) = (100, 40) := by decide +kernel
  exact z ⟨f, h⟩
theorem rl_239 {ad : Nat → Nat} {f : Nat} (h : f < 4) : 240 + f < (gSS ad).1 := by show 240 + f < 245; omega
/-! contracts by their kind of answer: an int, a long, nothing -/
def gKi (l : Launch) (Γ : gC) (mt : gY) (d : Nat) (av : List Value) (μ : gM) (P : Int → gM → Prop) : Prop := gK l Γ mt d 0 0 av μ (fun r μ' => ∃ e : Int, r = some (.int (iv e)) ∧ P e μ')
def gKl (l : Launch) (Γ : gC) (mt : gY) (d : Nat) (av : List Value) (μ : gM) (P : Int64 → gM → Prop) : Prop := gK l Γ mt d 0 0 av μ (fun r μ' => ∃ e : Int64, r = some (.long e) ∧ P e μ')
def gKv (l : Launch) (Γ : gC) (mt : gY) (d : Nat) (av : List Value) (μ : gM) (P : gM → Prop) : Prop := gK l Γ mt d 0 0 av μ (fun r μ' => r = none ∧ P μ')
abbrev gDi (P : Int → gM → Prop) : Option Value → gM → Prop := fun r μ' => ∃ e : Int, r = some (.int (iv e)) ∧ P e μ'
abbrev gDl (P : Int64 → gM → Prop) : Option Value → gM → Prop := fun r μ' => ∃ e : Int64, r = some (.long e) ∧ P e μ'
abbrev gDv (P : gM → Prop) : Option Value → gM → Prop := fun r μ' => r = none ∧ P μ'
section GKK
variable {l : Launch} {Γ : gC} {mt yt : gY} {B : gB} {pc : Nat} {ls : List (Nat × Value)} {av st rest : List Value} {μ : gM} {S : gS} {I I0 : Nat → Nat → Int} {J J0 : Nat → Nat → Int64} {Q : Option Value → gM → Prop} {k n na ci idx d' : Nat} {own : String} {x : Int} {y : Int64}
theorem gKi_of {d : Nat} {P : Int → gM → Prop} (ok : gOk mt) (hn : (lg_sl av).length ≤ mt.2.2.1) (h : gG l Γ mt (d, 0, 0, 0, 0) 0 (lv_args 0 av) [] μ (gDi P)) : gKi l Γ mt d av μ P := gK_of ok hn h
theorem gKl_of {d : Nat} {P : Int64 → gM → Prop} (ok : gOk mt) (hn : (lg_sl av).length ≤ mt.2.2.1) (h : gG l Γ mt (d, 0, 0, 0, 0) 0 (lv_args 0 av) [] μ (gDl P)) : gKl l Γ mt d av μ P := gK_of ok hn h
theorem gKv_of {d : Nat} {P : gM → Prop} (ok : gOk mt) (hn : (lg_sl av).length ≤ mt.2.2.1) (h : gG l Γ mt (d, 0, 0, 0, 0) 0 (lv_args 0 av) [] μ (gDv P)) : gKv l Γ mt d av μ P := gK_of ok hn h
theorem gg_nameI (h : ∀ z : Int, z = x → gG l Γ mt B pc ls (.int (iv z) :: st) μ Q) : gG l Γ mt B pc ls (.int (iv x) :: st) μ Q := h x rfl
theorem gg_nameL (h : ∀ z : Int64, z = y → gG l Γ mt B pc ls (.long z :: st) μ Q) : gG l Γ mt B pc ls (.long y :: st) μ Q := h y rfl
theorem gg_memI (h : ∀ I' : Nat → Nat → Int, I' = I → gG l Γ mt B pc ls st (S, I', J) Q) : gG l Γ mt B pc ls st (S, I, J) Q := h I rfl
theorem gg_memJ (h : ∀ J' : Nat → Nat → Int64, J' = J → gG l Γ mt B pc ls st (S, I, J') Q) : gG l Γ mt B pc ls st (S, I, J) Q := h J rfl
theorem gg_ireti {P : Int → gM → Prop} (d : decode mt.2.1 pc = .ok (.ireturn, 1)) (hr : mt.2.2.2 = some .int) (hB : B.2.2.2.1 = B.2.1 ∧ B.2.2.2.2 = B.2.2.1) (k : P x μ) : gG l Γ mt B pc ls [.int (iv x)] μ (gDi P) := gg_iret d hr (vp_nar_int _) hB ⟨x, rfl, k⟩
theorem gg_iretz {P : Int → gM → Prop} (d : decode mt.2.1 pc = .ok (.ireturn, 1)) (hr : mt.2.2.2 = some .boolean) (hn : narrow .boolean (.int (iv x)) = .int (iv x)) (hB : B.2.2.2.1 = B.2.1 ∧ B.2.2.2.2 = B.2.2.1) (k : P x μ) : gG l Γ mt B pc ls [.int (iv x)] μ (gDi P) := gg_iret d hr hn hB ⟨x, rfl, k⟩
theorem gg_lretl {P : Int64 → gM → Prop} (d : decode mt.2.1 pc = .ok (.lreturn, 1)) (hr : mt.2.2.2 = some .long) (hB : B.2.2.2.1 = B.2.1 ∧ B.2.2.2.2 = B.2.2.1) (k : P y μ) : gG l Γ mt B pc ls [.long y] μ (gDl P) := gg_lret d hr hB ⟨y, rfl, k⟩
theorem gg_vretv {P : gM → Prop} (d : decode mt.2.1 pc = .ok (.return_, 1)) (hr : mt.2.2.2 = none) (hB : B.2.2.2.1 = B.2.1 ∧ B.2.2.2.2 = B.2.2.1) (k : P μ) : gG l Γ mt B pc ls [] μ (gDv P) := gg_vret d hr hB ⟨rfl, k⟩
theorem gg_callVi {P : Int → gM → Prop} (ho : mt.1.cls = own) (hlk : Cond.methodLink own idx yt.1 ∈ WT) (ok : gOkV yt) (har : gAr yt na) (d : decode mt.2.1 pc = .ok (.invokevirtual idx, 3)) (hC : gKi l Γ yt d' (.ref (gad S k) :: av) (S, I, J) P) (hs : S.2.1 k = (ci, n)) (hk : k < S.1) (hci : ci < 11) (hcl : (gcl ci).1 = yt.1.cls) (hna : av.length = na) (hst : st = av.reverse ++ .ref (gad S k) :: rest) (hcat : (rest.map fun v => v.category).sum ≤ 8) (hd : d' + 1 ≤ B.1) (hu : B.2.2.2.1 ≤ B.2.1 ∧ B.2.2.2.2 ≤ B.2.2.1) (kk : ∀ (e : Int) (μ' : gM), P e μ' → gG l Γ mt B (pc + 3) ls (.int (iv e) :: rest) μ' Q) : gG l Γ mt B pc ls st (S, I, J) Q := gg_callV ho hlk ok har d hC hs hk hci hcl hna hst hcat hd hu (fun r μ' h => by
  obtain ⟨e, rfl, h⟩ := h
  exact kk e μ' h)
theorem gg_callSi {P : Int → gM → Prop} (ho : mt.1.cls = own) (hlk : Cond.methodLink own idx yt.1 ∈ WT) (ok : gOkS yt) (har : gAr yt na) (d : decode mt.2.1 pc = .ok (.invokestatic idx, 3)) (hC : gKi l Γ yt d' av μ P) (hna : av.length = na) (hst : st = av.reverse ++ rest) (hcat : (rest.map fun v => v.category).sum ≤ 8) (hd : d' + 1 ≤ B.1) (hu : B.2.2.2.1 ≤ B.2.1 ∧ B.2.2.2.2 ≤ B.2.2.1) (kk : ∀ (e : Int) (μ' : gM), P e μ' → gG l Γ mt B (pc + 3) ls (.int (iv e) :: rest) μ' Q) : gG l Γ mt B pc ls st μ Q := gg_callS ho hlk ok har d hC hna hst hcat hd hu (fun r μ' h => by
  obtain ⟨e, rfl, h⟩ := h
  exact kk e μ' h)
theorem gg_callSNi {host : String} {P : Int → gM → Prop} (ho : mt.1.cls = own) (hlk : Cond.methodLinkNest own idx yt.1 host ∈ gNest) (ok : gOkS yt) (har : gAr yt na) (d : decode mt.2.1 pc = .ok (.invokestatic idx, 3)) (hC : gKi l Γ yt d' av μ P) (hna : av.length = na) (hst : st = av.reverse ++ rest) (hcat : (rest.map fun v => v.category).sum ≤ 8) (hd : d' + 1 ≤ B.1) (hu : B.2.2.2.1 ≤ B.2.1 ∧ B.2.2.2.2 ≤ B.2.2.1) (kk : ∀ (e : Int) (μ' : gM), P e μ' → gG l Γ mt B (pc + 3) ls (.int (iv e) :: rest) μ' Q) : gG l Γ mt B pc ls st μ Q := gg_callSN ho hlk ok har d hC hna hst hcat hd hu (fun r μ' h => by
  obtain ⟨e, rfl, h⟩ := h
  exact kk e μ' h)
theorem gg_callVl {P : Int64 → gM → Prop} (ho : mt.1.cls = own) (hlk : Cond.methodLink own idx yt.1 ∈ WT) (ok : gOkV yt) (har : gAr yt na) (d : decode mt.2.1 pc = .ok (.invokevirtual idx, 3)) (hC : gKl l Γ yt d' (.ref (gad S k) :: av) (S, I, J) P) (hs : S.2.1 k = (ci, n)) (hk : k < S.1) (hci : ci < 11) (hcl : (gcl ci).1 = yt.1.cls) (hna : av.length = na) (hst : st = av.reverse ++ .ref (gad S k) :: rest) (hcat : (rest.map fun v => v.category).sum ≤ 8) (hd : d' + 1 ≤ B.1) (hu : B.2.2.2.1 ≤ B.2.1 ∧ B.2.2.2.2 ≤ B.2.2.1) (kk : ∀ (e : Int64) (μ' : gM), P e μ' → gG l Γ mt B (pc + 3) ls (.long e :: rest) μ' Q) : gG l Γ mt B pc ls st (S, I, J) Q := gg_callV ho hlk ok har d hC hs hk hci hcl hna hst hcat hd hu (fun r μ' h => by
  obtain ⟨e, rfl, h⟩ := h
  exact kk e μ' h)
theorem gg_callSl {P : Int64 → gM → Prop} (ho : mt.1.cls = own) (hlk : Cond.methodLink own idx yt.1 ∈ WT) (ok : gOkS yt) (har : gAr yt na) (d : decode mt.2.1 pc = .ok (.invokestatic idx, 3)) (hC : gKl l Γ yt d' av μ P) (hna : av.length = na) (hst : st = av.reverse ++ rest) (hcat : (rest.map fun v => v.category).sum ≤ 8) (hd : d' + 1 ≤ B.1) (hu : B.2.2.2.1 ≤ B.2.1 ∧ B.2.2.2.2 ≤ B.2.2.1) (kk : ∀ (e : Int64) (μ' : gM), P e μ' → gG l Γ mt B (pc + 3) ls (.long e :: rest) μ' Q) : gG l Γ mt B pc ls st μ Q := gg_callS ho hlk ok har d hC hna hst hcat hd hu (fun r μ' h => by
  obtain ⟨e, rfl, h⟩ := h
  exact kk e μ' h)
theorem gg_callSNl {host : String} {P : Int64 → gM → Prop} (ho : mt.1.cls = own) (hlk : Cond.methodLinkNest own idx yt.1 host ∈ gNest) (ok : gOkS yt) (har : gAr yt na) (d : decode mt.2.1 pc = .ok (.invokestatic idx, 3)) (hC : gKl l Γ yt d' av μ P) (hna : av.length = na) (hst : st = av.reverse ++ rest) (hcat : (rest.map fun v => v.category).sum ≤ 8) (hd : d' + 1 ≤ B.1) (hu : B.2.2.2.1 ≤ B.2.1 ∧ B.2.2.2.2 ≤ B.2.2.1) (kk : ∀ (e : Int64) (μ' : gM), P e μ' → gG l Γ mt B (pc + 3) ls (.long e :: rest) μ' Q) : gG l Γ mt B pc ls st μ Q := gg_callSN ho hlk ok har d hC hna hst hcat hd hu (fun r μ' h => by
  obtain ⟨e, rfl, h⟩ := h
  exact kk e μ' h)
theorem gg_callVv {P : gM → Prop} (ho : mt.1.cls = own) (hlk : Cond.methodLink own idx yt.1 ∈ WT) (ok : gOkV yt) (har : gAr yt na) (d : decode mt.2.1 pc = .ok (.invokevirtual idx, 3)) (hC : gKv l Γ yt d' (.ref (gad S k) :: av) (S, I, J) P) (hs : S.2.1 k = (ci, n)) (hk : k < S.1) (hci : ci < 11) (hcl : (gcl ci).1 = yt.1.cls) (hna : av.length = na) (hst : st = av.reverse ++ .ref (gad S k) :: rest) (hcat : (rest.map fun v => v.category).sum ≤ 8) (hd : d' + 1 ≤ B.1) (hu : B.2.2.2.1 ≤ B.2.1 ∧ B.2.2.2.2 ≤ B.2.2.1) (kk : ∀ (μ' : gM), P μ' → gG l Γ mt B (pc + 3) ls rest μ' Q) : gG l Γ mt B pc ls st (S, I, J) Q := gg_callV ho hlk ok har d hC hs hk hci hcl hna hst hcat hd hu (fun r μ' h => by
  obtain ⟨rfl, h⟩ := h
  exact kk μ' h)
theorem gg_callSv {P : gM → Prop} (ho : mt.1.cls = own) (hlk : Cond.methodLink own idx yt.1 ∈ WT) (ok : gOkS yt) (har : gAr yt na) (d : decode mt.2.1 pc = .ok (.invokestatic idx, 3)) (hC : gKv l Γ yt d' av μ P) (hna : av.length = na) (hst : st = av.reverse ++ rest) (hcat : (rest.map fun v => v.category).sum ≤ 8) (hd : d' + 1 ≤ B.1) (hu : B.2.2.2.1 ≤ B.2.1 ∧ B.2.2.2.2 ≤ B.2.2.1) (kk : ∀ (μ' : gM), P μ' → gG l Γ mt B (pc + 3) ls rest μ' Q) : gG l Γ mt B pc ls st μ Q := gg_callS ho hlk ok har d hC hna hst hcat hd hu (fun r μ' h => by
  obtain ⟨rfl, h⟩ := h
  exact kk μ' h)
end GKK
