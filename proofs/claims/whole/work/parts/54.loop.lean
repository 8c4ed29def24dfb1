/-! the law, call by call -/
theorem full5 {G : gT} (hG : gOk G) (a : Nat → Nat) : Full (gW G a (rR 0 53)) := ⟨fun q hq => List.mem_range'_1.mpr ⟨Nat.zero_le _, by omega⟩, hG.1, hG.2.1, hG.2.2⟩
theorem full6 {G : gT} (hG : gOk G) (a : Nat → Nat) : FullR (gW G a (rR 53 32)) := ⟨fun q hq => List.mem_range'_1.mpr ⟨hq.1, by omega⟩, hG.1, hG.2.1, trivial⟩
def w2 (G : gT) (a5 a6 : Nat → Nat) (σ τ : mS) : va_W := wD (gW G a5 (rR 0 53)) σ ++ wD (gW G a6 (rR 53 32)) τ
def lvl (a5 a6 : Nat → Nat) (b : Nat) (i : Int32) : List (Nat × Value) := [(3, .int i), (2, .ref (a6 53)), (1, .ref (a5 0)), (0, .ref b)]
set_option maxHeartbeats 4000000 in
theorem L_act {l : Launch} {G : gT} {X : xT} {b L : Nat} {xs : Nat → Int32} (hG : gOk G) (a5 a6 : Nat → Nat) {σ τ : mS} (h : Rel σ τ) {B : Nat} (hI : RI B τ) (hb : B < 2 ^ 25) {i : Int32} (h1 : vp_in (i + 1) L) (h2 : vp_in (i + 2) L) (h3 : vp_in (i + 3) L) (h4 : vp_in (i + 4) L) (h5 : vp_in (i + 5) L) (kk : ∀ σ' τ', Rel σ' τ' → RI (B + 1200) τ' → Lb l G X b L xs (w2 G a5 a6 σ' τ') 523 (lvl a5 a6 b i) [] 85 1310) : Lb l G X b L xs (w2 G a5 a6 σ τ) 108 (lvl a5 a6 b i) [] 85 1310 := by
  refine Laload_n dL_law_108 2 rfl 109 rfl ?_
  refine Laload_n dL_law_109 3 rfl 110 rfl ?_
  refine Lload_n dL_law_110 0 rfl 111 rfl ?_
  refine Lconst dL_law_111 (1 : Int32) (by decide) 112 rfl ?_
  refine Ladd dL_law_112 113 rfl ?_
  refine Lsld dL_law_113 114 rfl h1 ?_
  refine Laload_n dL_law_114 3 rfl 115 rfl ?_
  refine Lload_n dL_law_115 0 rfl 116 rfl ?_
  refine Lconst dL_law_116 (2 : Int32) (by decide) 117 rfl ?_
  refine Ladd dL_law_117 118 rfl ?_
  refine Lsld dL_law_118 119 rfl h2 ?_
  refine Laload_n dL_law_119 3 rfl 120 rfl ?_
  refine Lload_n dL_law_120 0 rfl 121 rfl ?_
  refine Lconst dL_law_121 (3 : Int32) (by decide) 122 rfl ?_
  refine Ladd dL_law_122 123 rfl ?_
  refine Lsld dL_law_123 124 rfl h3 ?_
  refine Laload_n dL_law_124 3 rfl 125 rfl ?_
  refine Lload_n dL_law_125 0 rfl 126 rfl ?_
  refine Lconst dL_law_126 (4 : Int32) (by decide) 127 rfl ?_
  refine Ladd dL_law_127 128 rfl ?_
  refine Lsld dL_law_128 129 rfl h4 ?_
  refine Laload_n dL_law_129 3 rfl 130 rfl ?_
  refine Lload_n dL_law_130 0 rfl 131 rfl ?_
  refine Lconst dL_law_131 (5 : Int32) (by decide) 132 rfl ?_
  refine Ladd dL_law_132 133 rfl ?_
  refine Lsld dL_law_133 134 rfl h5 ?_
  refine Lcall (w1 := []) (w2 := wD (gW G a6 (rR 53 32)) τ) (w' := wD (gW G a5 (rR 0 53)) (f_X5_act σ (xs (i + 1).toNatClampNeg) (xs (i + 2).toNatClampNeg) (xs (i + 3).toNatClampNeg) (xs (i + 4).toNatClampNeg) (xs (i + 5).toNatClampNeg)).2 ++ wD (gW G a6 (rR 53 32)) τ) (q := 0) (ci := 5) (T := (f_X5_act σ (xs (i + 1).toNatClampNeg) (xs (i + 2).toNatClampNeg) (xs (i + 3).toNatClampNeg) (xs (i + 4).toNatClampNeg) (xs (i + 5).toNatClampNeg))) [.int (xs (i + 1).toNatClampNeg), .int (xs (i + 2).toNatClampNeg), .int (xs (i + 3).toNatClampNeg), .int (xs (i + 4).toNatClampNeg), .int (xs (i + 5).toNatClampNeg)] rfl rfl dL_law_134 (c_X5_act l (full5 hG a5) σ (xs (i + 1).toNatClampNeg) (xs (i + 2).toNatClampNeg) (xs (i + 3).toNatClampNeg) (xs (i + 4).toNatClampNeg) (xs (i + 5).toNatClampNeg)) mw_X5_act wd_im_yX5_act wd_se_yX5_act wd_ml_RL_13 (by decide) rfl rfl rfl (by decide) rfl rfl (Nat.le_of_ble_eq_true rfl) (Nat.le_of_ble_eq_true rfl) (Nat.le_of_ble_eq_true rfl) 137 rfl ?_
  refine Laload_n dL_law_137 1 rfl 138 rfl ?_
  refine Laload_n dL_law_138 3 rfl 139 rfl ?_
  refine Lload_n dL_law_139 0 rfl 140 rfl ?_
  refine Lconst dL_law_140 (1 : Int32) (by decide) 141 rfl ?_
  refine Ladd dL_law_141 142 rfl ?_
  refine Lsld dL_law_142 143 rfl h1 ?_
  refine Laload_n dL_law_143 3 rfl 144 rfl ?_
  refine Lload_n dL_law_144 0 rfl 145 rfl ?_
  refine Lconst dL_law_145 (2 : Int32) (by decide) 146 rfl ?_
  refine Ladd dL_law_146 147 rfl ?_
  refine Lsld dL_law_147 148 rfl h2 ?_
  refine Laload_n dL_law_148 3 rfl 149 rfl ?_
  refine Lload_n dL_law_149 0 rfl 150 rfl ?_
  refine Lconst dL_law_150 (3 : Int32) (by decide) 151 rfl ?_
  refine Ladd dL_law_151 152 rfl ?_
  refine Lsld dL_law_152 153 rfl h3 ?_
  refine Laload_n dL_law_153 3 rfl 154 rfl ?_
  refine Lload_n dL_law_154 0 rfl 155 rfl ?_
  refine Lconst dL_law_155 (4 : Int32) (by decide) 156 rfl ?_
  refine Ladd dL_law_156 157 rfl ?_
  refine Lsld dL_law_157 158 rfl h4 ?_
  refine Laload_n dL_law_158 3 rfl 159 rfl ?_
  refine Lload_n dL_law_159 0 rfl 160 rfl ?_
  refine Lconst dL_law_160 (5 : Int32) (by decide) 161 rfl ?_
  refine Ladd dL_law_161 162 rfl ?_
  refine Lsld dL_law_162 163 rfl h5 ?_
  refine Lcall (w1 := wD (gW G a5 (rR 0 53)) (f_X5_act σ (xs (i + 1).toNatClampNeg) (xs (i + 2).toNatClampNeg) (xs (i + 3).toNatClampNeg) (xs (i + 4).toNatClampNeg) (xs (i + 5).toNatClampNeg)).2) (w2 := []) (w' := w2 G a5 a6 (f_X5_act σ (xs (i + 1).toNatClampNeg) (xs (i + 2).toNatClampNeg) (xs (i + 3).toNatClampNeg) (xs (i + 4).toNatClampNeg) (xs (i + 5).toNatClampNeg)).2 (f_X6_act τ (xs (i + 1).toNatClampNeg) (xs (i + 2).toNatClampNeg) (xs (i + 3).toNatClampNeg) (xs (i + 4).toNatClampNeg) (xs (i + 5).toNatClampNeg)).2) (q := 53) (ci := 6) (T := (f_X6_act τ (xs (i + 1).toNatClampNeg) (xs (i + 2).toNatClampNeg) (xs (i + 3).toNatClampNeg) (xs (i + 4).toNatClampNeg) (xs (i + 5).toNatClampNeg))) [.int (xs (i + 1).toNatClampNeg), .int (xs (i + 2).toNatClampNeg), .int (xs (i + 3).toNatClampNeg), .int (xs (i + 4).toNatClampNeg), .int (xs (i + 5).toNatClampNeg)] (by rw [List.append_nil]) (by rw [List.append_nil]; rfl) dL_law_163 (c_X6_act l (full6 hG a6) τ (xs (i + 1).toNatClampNeg) (xs (i + 2).toNatClampNeg) (xs (i + 3).toNatClampNeg) (xs (i + 4).toNatClampNeg) (xs (i + 5).toNatClampNeg) hI.1.1) mw_X6_act wd_im_yX6_act wd_se_yX6_act wd_ml_RL_17 (by decide) rfl rfl rfl (by decide) rfl rfl (Nat.le_of_ble_eq_true rfl) (Nat.le_of_ble_eq_true rfl) (Nat.le_of_ble_eq_true rfl) 166 rfl ?_
  have hp := P_act h hI.1.1 (xs (i + 1).toNatClampNeg) (xs (i + 2).toNatClampNeg) (xs (i + 3).toNatClampNeg) (xs (i + 4).toNatClampNeg) (xs (i + 5).toNatClampNeg)
  refine Liceq dL_law_166 523 (by decide) hp.1 ?_
  exact kk _ _ hp.2 ((RI_act hI (xs (i + 1).toNatClampNeg) (xs (i + 2).toNatClampNeg) (xs (i + 3).toNatClampNeg) (xs (i + 4).toNatClampNeg) (xs (i + 5).toNatClampNeg)).mono (by omega))
set_option maxHeartbeats 4000000 in
theorem L_turn {l : Launch} {G : gT} {X : xT} {b L : Nat} {xs : Nat → Int32} (hG : gOk G) (a5 a6 : Nat → Nat) {σ τ : mS} (h : Rel σ τ) {B : Nat} (hI : RI B τ) (hb : B < 2 ^ 25) {i : Int32} (h1 : vp_in (i + 1) L) (kk : ∀ σ' τ', Rel σ' τ' → RI (B + 1200) τ' → Lb l G X b L xs (w2 G a5 a6 σ' τ') 523 (lvl a5 a6 b i) [] 85 1310) : Lb l G X b L xs (w2 G a5 a6 σ τ) 171 (lvl a5 a6 b i) [] 85 1310 := by
  refine Laload_n dL_law_171 2 rfl 172 rfl ?_
  refine Laload_n dL_law_172 3 rfl 173 rfl ?_
  refine Lload_n dL_law_173 0 rfl 174 rfl ?_
  refine Lconst dL_law_174 (1 : Int32) (by decide) 175 rfl ?_
  refine Ladd dL_law_175 176 rfl ?_
  refine Lsld dL_law_176 177 rfl h1 ?_
  refine Lcall (w1 := []) (w2 := wD (gW G a6 (rR 53 32)) τ) (w' := wD (gW G a5 (rR 0 53)) (f_X5_turn σ (xs (i + 1).toNatClampNeg)).2 ++ wD (gW G a6 (rR 53 32)) τ) (q := 0) (ci := 5) (T := (f_X5_turn σ (xs (i + 1).toNatClampNeg))) [.int (xs (i + 1).toNatClampNeg)] rfl rfl dL_law_177 (c_X5_turn l (full5 hG a5) σ (xs (i + 1).toNatClampNeg)) mw_X5_turn wd_im_yX5_turn wd_se_yX5_turn wd_ml_RL_18 (by decide) rfl rfl rfl (by decide) rfl rfl (Nat.le_of_ble_eq_true rfl) (Nat.le_of_ble_eq_true rfl) (Nat.le_of_ble_eq_true rfl) 180 rfl ?_
  refine Laload_n dL_law_180 1 rfl 181 rfl ?_
  refine Laload_n dL_law_181 3 rfl 182 rfl ?_
  refine Lload_n dL_law_182 0 rfl 183 rfl ?_
  refine Lconst dL_law_183 (1 : Int32) (by decide) 184 rfl ?_
  refine Ladd dL_law_184 185 rfl ?_
  refine Lsld dL_law_185 186 rfl h1 ?_
  refine Lcall (w1 := wD (gW G a5 (rR 0 53)) (f_X5_turn σ (xs (i + 1).toNatClampNeg)).2) (w2 := []) (w' := w2 G a5 a6 (f_X5_turn σ (xs (i + 1).toNatClampNeg)).2 (f_X6_turn τ (xs (i + 1).toNatClampNeg)).2) (q := 53) (ci := 6) (T := (f_X6_turn τ (xs (i + 1).toNatClampNeg))) [.int (xs (i + 1).toNatClampNeg)] (by rw [List.append_nil]) (by rw [List.append_nil]; rfl) dL_law_186 (c_X6_turn l (full6 hG a6) τ (xs (i + 1).toNatClampNeg) B hI (by omega)) mw_X6_turn wd_im_yX6_turn wd_se_yX6_turn wd_ml_RL_22 (by decide) rfl rfl rfl (by decide) rfl rfl (Nat.le_of_ble_eq_true rfl) (Nat.le_of_ble_eq_true rfl) (Nat.le_of_ble_eq_true rfl) 189 rfl ?_
  have hp := P_turn h hI (by omega) (xs (i + 1).toNatClampNeg)
  refine Liceq dL_law_189 523 (by decide) hp.1 ?_
  exact kk _ _ hp.2 ((RI_turn hI (xs (i + 1).toNatClampNeg)).mono (by omega))
set_option maxHeartbeats 4000000 in
theorem L_play {l : Launch} {G : gT} {X : xT} {b L : Nat} {xs : Nat → Int32} (hG : gOk G) (a5 a6 : Nat → Nat) {σ τ : mS} (h : Rel σ τ) {B : Nat} (hI : RI B τ) (hb : B < 2 ^ 25) {i : Int32} (h1 : vp_in (i + 1) L) (h2 : vp_in (i + 2) L) (kk : ∀ σ' τ', Rel σ' τ' → RI (B + 1200) τ' → Lb l G X b L xs (w2 G a5 a6 σ' τ') 523 (lvl a5 a6 b i) [] 85 1310) : Lb l G X b L xs (w2 G a5 a6 σ τ) 194 (lvl a5 a6 b i) [] 85 1310 := by
  refine Laload_n dL_law_194 2 rfl 195 rfl ?_
  refine Laload_n dL_law_195 3 rfl 196 rfl ?_
  refine Lload_n dL_law_196 0 rfl 197 rfl ?_
  refine Lconst dL_law_197 (1 : Int32) (by decide) 198 rfl ?_
  refine Ladd dL_law_198 199 rfl ?_
  refine Lsld dL_law_199 200 rfl h1 ?_
  refine Laload_n dL_law_200 3 rfl 201 rfl ?_
  refine Lload_n dL_law_201 0 rfl 202 rfl ?_
  refine Lconst dL_law_202 (2 : Int32) (by decide) 203 rfl ?_
  refine Ladd dL_law_203 204 rfl ?_
  refine Lsld dL_law_204 205 rfl h2 ?_
  refine Lcall (w1 := []) (w2 := wD (gW G a6 (rR 53 32)) τ) (w' := wD (gW G a5 (rR 0 53)) (f_X5_play σ (xs (i + 1).toNatClampNeg) (xs (i + 2).toNatClampNeg)).2 ++ wD (gW G a6 (rR 53 32)) τ) (q := 0) (ci := 5) (T := (f_X5_play σ (xs (i + 1).toNatClampNeg) (xs (i + 2).toNatClampNeg))) [.int (xs (i + 1).toNatClampNeg), .int (xs (i + 2).toNatClampNeg)] rfl rfl dL_law_205 (c_X5_play l (full5 hG a5) σ (xs (i + 1).toNatClampNeg) (xs (i + 2).toNatClampNeg)) mw_X5_play wd_im_yX5_play wd_se_yX5_play wd_ml_RL_23 (by decide) rfl rfl rfl (by decide) rfl rfl (Nat.le_of_ble_eq_true rfl) (Nat.le_of_ble_eq_true rfl) (Nat.le_of_ble_eq_true rfl) 208 rfl ?_
  refine Laload_n dL_law_208 1 rfl 209 rfl ?_
  refine Laload_n dL_law_209 3 rfl 210 rfl ?_
  refine Lload_n dL_law_210 0 rfl 211 rfl ?_
  refine Lconst dL_law_211 (1 : Int32) (by decide) 212 rfl ?_
  refine Ladd dL_law_212 213 rfl ?_
  refine Lsld dL_law_213 214 rfl h1 ?_
  refine Laload_n dL_law_214 3 rfl 215 rfl ?_
  refine Lload_n dL_law_215 0 rfl 216 rfl ?_
  refine Lconst dL_law_216 (2 : Int32) (by decide) 217 rfl ?_
  refine Ladd dL_law_217 218 rfl ?_
  refine Lsld dL_law_218 219 rfl h2 ?_
  refine Lcall (w1 := wD (gW G a5 (rR 0 53)) (f_X5_play σ (xs (i + 1).toNatClampNeg) (xs (i + 2).toNatClampNeg)).2) (w2 := []) (w' := w2 G a5 a6 (f_X5_play σ (xs (i + 1).toNatClampNeg) (xs (i + 2).toNatClampNeg)).2 (f_X6_play τ (xs (i + 1).toNatClampNeg) (xs (i + 2).toNatClampNeg)).2) (q := 53) (ci := 6) (T := (f_X6_play τ (xs (i + 1).toNatClampNeg) (xs (i + 2).toNatClampNeg))) [.int (xs (i + 1).toNatClampNeg), .int (xs (i + 2).toNatClampNeg)] (by rw [List.append_nil]) (by rw [List.append_nil]; rfl) dL_law_219 (c_X6_play l (full6 hG a6) τ (xs (i + 1).toNatClampNeg) (xs (i + 2).toNatClampNeg) B hI hb) mw_X6_play wd_im_yX6_play wd_se_yX6_play wd_ml_RL_27 (by decide) rfl rfl rfl (by decide) rfl rfl (Nat.le_of_ble_eq_true rfl) (Nat.le_of_ble_eq_true rfl) (Nat.le_of_ble_eq_true rfl) 222 rfl ?_
  have hp := P_play h hI (by omega) (xs (i + 1).toNatClampNeg) (xs (i + 2).toNatClampNeg)
  refine Liceq dL_law_222 523 (by decide) hp.1 ?_
  exact kk _ _ hp.2.1 hp.2.2
set_option maxHeartbeats 4000000 in
theorem L_told {l : Launch} {G : gT} {X : xT} {b L : Nat} {xs : Nat → Int32} (hG : gOk G) (a5 a6 : Nat → Nat) {σ τ : mS} (h : Rel σ τ) {B : Nat} (hI : RI B τ) (hb : B < 2 ^ 25) {i : Int32} (h1 : vp_in (i + 1) L) (h2 : vp_in (i + 2) L) (kk : ∀ σ' τ', Rel σ' τ' → RI (B + 1200) τ' → Lb l G X b L xs (w2 G a5 a6 σ' τ') 523 (lvl a5 a6 b i) [] 85 1310) : Lb l G X b L xs (w2 G a5 a6 σ τ) 227 (lvl a5 a6 b i) [] 85 1310 := by
  refine Laload_n dL_law_227 2 rfl 228 rfl ?_
  refine Laload_n dL_law_228 3 rfl 229 rfl ?_
  refine Lload_n dL_law_229 0 rfl 230 rfl ?_
  refine Lconst dL_law_230 (1 : Int32) (by decide) 231 rfl ?_
  refine Ladd dL_law_231 232 rfl ?_
  refine Lsld dL_law_232 233 rfl h1 ?_
  refine Laload_n dL_law_233 3 rfl 234 rfl ?_
  refine Lload_n dL_law_234 0 rfl 235 rfl ?_
  refine Lconst dL_law_235 (2 : Int32) (by decide) 236 rfl ?_
  refine Ladd dL_law_236 237 rfl ?_
  refine Lsld dL_law_237 238 rfl h2 ?_
  refine Lcall (w1 := []) (w2 := wD (gW G a6 (rR 53 32)) τ) (w' := wD (gW G a5 (rR 0 53)) σ ++ wD (gW G a6 (rR 53 32)) τ) (q := 0) (ci := 5) (T := (f_X5_told σ (xs (i + 1).toNatClampNeg) (xs (i + 2).toNatClampNeg), σ)) [.int (xs (i + 1).toNatClampNeg), .int (xs (i + 2).toNatClampNeg)] rfl rfl dL_law_238 (c_X5_told l (full5 hG a5) σ (xs (i + 1).toNatClampNeg) (xs (i + 2).toNatClampNeg)) mw_X5_told wd_im_yX5_told wd_se_yX5_told wd_ml_RL_28 (by decide) rfl rfl rfl (by decide) rfl rfl (Nat.le_of_ble_eq_true rfl) (Nat.le_of_ble_eq_true rfl) (Nat.le_of_ble_eq_true rfl) 241 rfl ?_
  refine Laload_n dL_law_241 1 rfl 242 rfl ?_
  refine Laload_n dL_law_242 3 rfl 243 rfl ?_
  refine Lload_n dL_law_243 0 rfl 244 rfl ?_
  refine Lconst dL_law_244 (1 : Int32) (by decide) 245 rfl ?_
  refine Ladd dL_law_245 246 rfl ?_
  refine Lsld dL_law_246 247 rfl h1 ?_
  refine Laload_n dL_law_247 3 rfl 248 rfl ?_
  refine Lload_n dL_law_248 0 rfl 249 rfl ?_
  refine Lconst dL_law_249 (2 : Int32) (by decide) 250 rfl ?_
  refine Ladd dL_law_250 251 rfl ?_
  refine Lsld dL_law_251 252 rfl h2 ?_
  refine Lcall (w1 := wD (gW G a5 (rR 0 53)) σ) (w2 := []) (w' := w2 G a5 a6 σ τ) (q := 53) (ci := 6) (T := (f_X6_told τ (xs (i + 1).toNatClampNeg) (xs (i + 2).toNatClampNeg), τ)) [.int (xs (i + 1).toNatClampNeg), .int (xs (i + 2).toNatClampNeg)] (by rw [List.append_nil]) (by rw [List.append_nil]; rfl) dL_law_252 (c_X6_told l (full6 hG a6) τ (xs (i + 1).toNatClampNeg) (xs (i + 2).toNatClampNeg)) mw_X6_told wd_im_yX6_told wd_se_yX6_told wd_ml_RL_31 (by decide) rfl rfl rfl (by decide) rfl rfl (Nat.le_of_ble_eq_true rfl) (Nat.le_of_ble_eq_true rfl) (Nat.le_of_ble_eq_true rfl) 255 rfl ?_
  have hp := P_told h (xs (i + 1).toNatClampNeg) (xs (i + 2).toNatClampNeg)
  refine Liceq dL_law_255 523 (by decide) hp ?_
  exact kk _ _ h (hI.mono (by omega))
set_option maxHeartbeats 4000000 in
theorem L_register {l : Launch} {G : gT} {X : xT} {b L : Nat} {xs : Nat → Int32} (hG : gOk G) (a5 a6 : Nat → Nat) {σ τ : mS} (h : Rel σ τ) {B : Nat} (hI : RI B τ) (hb : B < 2 ^ 25) {i : Int32} (h1 : vp_in (i + 1) L) (h2 : vp_in (i + 2) L) (kk : ∀ σ' τ', Rel σ' τ' → RI (B + 1200) τ' → Lb l G X b L xs (w2 G a5 a6 σ' τ') 523 (lvl a5 a6 b i) [] 85 1310) : Lb l G X b L xs (w2 G a5 a6 σ τ) 260 (lvl a5 a6 b i) [] 85 1310 := by
  refine Laload_n dL_law_260 2 rfl 261 rfl ?_
  refine Laload_n dL_law_261 3 rfl 262 rfl ?_
  refine Lload_n dL_law_262 0 rfl 263 rfl ?_
  refine Lconst dL_law_263 (1 : Int32) (by decide) 264 rfl ?_
  refine Ladd dL_law_264 265 rfl ?_
  refine Lsld dL_law_265 266 rfl h1 ?_
  refine Laload_n dL_law_266 3 rfl 267 rfl ?_
  refine Lload_n dL_law_267 0 rfl 268 rfl ?_
  refine Lconst dL_law_268 (2 : Int32) (by decide) 269 rfl ?_
  refine Ladd dL_law_269 270 rfl ?_
  refine Lsld dL_law_270 271 rfl h2 ?_
  refine Lcall (w1 := []) (w2 := wD (gW G a6 (rR 53 32)) τ) (w' := wD (gW G a5 (rR 0 53)) σ ++ wD (gW G a6 (rR 53 32)) τ) (q := 0) (ci := 5) (T := (f_X5_register σ (xs (i + 1).toNatClampNeg) (xs (i + 2).toNatClampNeg), σ)) [.int (xs (i + 1).toNatClampNeg), .int (xs (i + 2).toNatClampNeg)] rfl rfl dL_law_271 (c_X5_register l (full5 hG a5) σ (xs (i + 1).toNatClampNeg) (xs (i + 2).toNatClampNeg)) mw_X5_register wd_im_yX5_register wd_se_yX5_register wd_ml_RL_32 (by decide) rfl rfl rfl (by decide) rfl rfl (Nat.le_of_ble_eq_true rfl) (Nat.le_of_ble_eq_true rfl) (Nat.le_of_ble_eq_true rfl) 274 rfl ?_
  refine Laload_n dL_law_274 1 rfl 275 rfl ?_
  refine Laload_n dL_law_275 3 rfl 276 rfl ?_
  refine Lload_n dL_law_276 0 rfl 277 rfl ?_
  refine Lconst dL_law_277 (1 : Int32) (by decide) 278 rfl ?_
  refine Ladd dL_law_278 279 rfl ?_
  refine Lsld dL_law_279 280 rfl h1 ?_
  refine Laload_n dL_law_280 3 rfl 281 rfl ?_
  refine Lload_n dL_law_281 0 rfl 282 rfl ?_
  refine Lconst dL_law_282 (2 : Int32) (by decide) 283 rfl ?_
  refine Ladd dL_law_283 284 rfl ?_
  refine Lsld dL_law_284 285 rfl h2 ?_
  refine Lcall (w1 := wD (gW G a5 (rR 0 53)) σ) (w2 := []) (w' := w2 G a5 a6 σ τ) (q := 53) (ci := 6) (T := (f_X6_register τ (xs (i + 1).toNatClampNeg) (xs (i + 2).toNatClampNeg), τ)) [.int (xs (i + 1).toNatClampNeg), .int (xs (i + 2).toNatClampNeg)] (by rw [List.append_nil]) (by rw [List.append_nil]; rfl) dL_law_285 (c_X6_register l (full6 hG a6) τ (xs (i + 1).toNatClampNeg) (xs (i + 2).toNatClampNeg)) mw_X6_register wd_im_yX6_register wd_se_yX6_register wd_ml_RL_35 (by decide) rfl rfl rfl (by decide) rfl rfl (Nat.le_of_ble_eq_true rfl) (Nat.le_of_ble_eq_true rfl) (Nat.le_of_ble_eq_true rfl) 288 rfl ?_
  have hp := P_register h (xs (i + 1).toNatClampNeg) (xs (i + 2).toNatClampNeg)
  refine Liceq dL_law_288 523 (by decide) hp ?_
  exact kk _ _ h (hI.mono (by omega))
set_option maxHeartbeats 4000000 in
theorem L_cell {l : Launch} {G : gT} {X : xT} {b L : Nat} {xs : Nat → Int32} (hG : gOk G) (a5 a6 : Nat → Nat) {σ τ : mS} (h : Rel σ τ) {B : Nat} (hI : RI B τ) (hb : B < 2 ^ 25) {i : Int32} (h1 : vp_in (i + 1) L) (kk : ∀ σ' τ', Rel σ' τ' → RI (B + 1200) τ' → Lb l G X b L xs (w2 G a5 a6 σ' τ') 523 (lvl a5 a6 b i) [] 85 1310) : Lb l G X b L xs (w2 G a5 a6 σ τ) 293 (lvl a5 a6 b i) [] 85 1310 := by
  refine Laload_n dL_law_293 2 rfl 294 rfl ?_
  refine Laload_n dL_law_294 3 rfl 295 rfl ?_
  refine Lload_n dL_law_295 0 rfl 296 rfl ?_
  refine Lconst dL_law_296 (1 : Int32) (by decide) 297 rfl ?_
  refine Ladd dL_law_297 298 rfl ?_
  refine Lsld dL_law_298 299 rfl h1 ?_
  refine Lcall (w1 := []) (w2 := wD (gW G a6 (rR 53 32)) τ) (w' := wD (gW G a5 (rR 0 53)) σ ++ wD (gW G a6 (rR 53 32)) τ) (q := 0) (ci := 5) (T := (f_X5_cell σ (xs (i + 1).toNatClampNeg), σ)) [.int (xs (i + 1).toNatClampNeg)] rfl rfl dL_law_299 (c_X5_cell l (full5 hG a5) σ (xs (i + 1).toNatClampNeg)) mw_X5_cell wd_im_yX5_cell wd_se_yX5_cell wd_ml_RL_36 (by decide) rfl rfl rfl (by decide) rfl rfl (Nat.le_of_ble_eq_true rfl) (Nat.le_of_ble_eq_true rfl) (Nat.le_of_ble_eq_true rfl) 302 rfl ?_
  refine Laload_n dL_law_302 1 rfl 303 rfl ?_
  refine Laload_n dL_law_303 3 rfl 304 rfl ?_
  refine Lload_n dL_law_304 0 rfl 305 rfl ?_
  refine Lconst dL_law_305 (1 : Int32) (by decide) 306 rfl ?_
  refine Ladd dL_law_306 307 rfl ?_
  refine Lsld dL_law_307 308 rfl h1 ?_
  refine Lcall (w1 := wD (gW G a5 (rR 0 53)) σ) (w2 := []) (w' := w2 G a5 a6 σ τ) (q := 53) (ci := 6) (T := (f_X6_cell τ (xs (i + 1).toNatClampNeg), τ)) [.int (xs (i + 1).toNatClampNeg)] (by rw [List.append_nil]) (by rw [List.append_nil]; rfl) dL_law_308 (c_X6_cell l (full6 hG a6) τ (xs (i + 1).toNatClampNeg)) mw_X6_cell wd_im_yX6_cell wd_se_yX6_cell wd_ml_RL_39 (by decide) rfl rfl rfl (by decide) rfl rfl (Nat.le_of_ble_eq_true rfl) (Nat.le_of_ble_eq_true rfl) (Nat.le_of_ble_eq_true rfl) 311 rfl ?_
  have hp := P_cell h (xs (i + 1).toNatClampNeg)
  refine Liceq dL_law_311 523 (by decide) hp ?_
  exact kk _ _ h (hI.mono (by omega))
set_option maxHeartbeats 4000000 in
theorem L_lazy {l : Launch} {G : gT} {X : xT} {b L : Nat} {xs : Nat → Int32} (hG : gOk G) (a5 a6 : Nat → Nat) {σ τ : mS} (h : Rel σ τ) {B : Nat} (hI : RI B τ) (hb : B < 2 ^ 25) {i : Int32} (h1 : vp_in (i + 1) L) (kk : ∀ σ' τ', Rel σ' τ' → RI (B + 1200) τ' → Lb l G X b L xs (w2 G a5 a6 σ' τ') 523 (lvl a5 a6 b i) [] 85 1310) : Lb l G X b L xs (w2 G a5 a6 σ τ) 316 (lvl a5 a6 b i) [] 85 1310 := by
  refine Laload_n dL_law_316 2 rfl 317 rfl ?_
  refine Laload_n dL_law_317 3 rfl 318 rfl ?_
  refine Lload_n dL_law_318 0 rfl 319 rfl ?_
  refine Lconst dL_law_319 (1 : Int32) (by decide) 320 rfl ?_
  refine Ladd dL_law_320 321 rfl ?_
  refine Lsld dL_law_321 322 rfl h1 ?_
  refine Lcall (w1 := []) (w2 := wD (gW G a6 (rR 53 32)) τ) (w' := wD (gW G a5 (rR 0 53)) σ ++ wD (gW G a6 (rR 53 32)) τ) (q := 0) (ci := 5) (T := (f_X5_lazy σ (xs (i + 1).toNatClampNeg), σ)) [.int (xs (i + 1).toNatClampNeg)] rfl rfl dL_law_322 (c_X5_lazy l (full5 hG a5) σ (xs (i + 1).toNatClampNeg)) mw_X5_lazy wd_im_yX5_lazy wd_se_yX5_lazy wd_ml_RL_40 (by decide) rfl rfl rfl (by decide) rfl rfl (Nat.le_of_ble_eq_true rfl) (Nat.le_of_ble_eq_true rfl) (Nat.le_of_ble_eq_true rfl) 325 rfl ?_
  refine Laload_n dL_law_325 1 rfl 326 rfl ?_
  refine Laload_n dL_law_326 3 rfl 327 rfl ?_
  refine Lload_n dL_law_327 0 rfl 328 rfl ?_
  refine Lconst dL_law_328 (1 : Int32) (by decide) 329 rfl ?_
  refine Ladd dL_law_329 330 rfl ?_
  refine Lsld dL_law_330 331 rfl h1 ?_
  refine Lcall (w1 := wD (gW G a5 (rR 0 53)) σ) (w2 := []) (w' := w2 G a5 a6 σ τ) (q := 53) (ci := 6) (T := (f_X6_lazy τ (xs (i + 1).toNatClampNeg), τ)) [.int (xs (i + 1).toNatClampNeg)] (by rw [List.append_nil]) (by rw [List.append_nil]; rfl) dL_law_331 (c_X6_lazy l (full6 hG a6) τ (xs (i + 1).toNatClampNeg)) mw_X6_lazy wd_im_yX6_lazy wd_se_yX6_lazy wd_ml_RL_43 (by decide) rfl rfl rfl (by decide) rfl rfl (Nat.le_of_ble_eq_true rfl) (Nat.le_of_ble_eq_true rfl) (Nat.le_of_ble_eq_true rfl) 334 rfl ?_
  have hp := P_lazy h (xs (i + 1).toNatClampNeg)
  refine Liceq dL_law_334 523 (by decide) hp ?_
  exact kk _ _ h (hI.mono (by omega))
set_option maxHeartbeats 4000000 in
theorem L_size {l : Launch} {G : gT} {X : xT} {b L : Nat} {xs : Nat → Int32} (hG : gOk G) (a5 a6 : Nat → Nat) {σ τ : mS} (h : Rel σ τ) {B : Nat} (hI : RI B τ) (hb : B < 2 ^ 25) {i : Int32} (h1 : vp_in (i + 1) L) (kk : ∀ σ' τ', Rel σ' τ' → RI (B + 1200) τ' → Lb l G X b L xs (w2 G a5 a6 σ' τ') 523 (lvl a5 a6 b i) [] 85 1310) : Lb l G X b L xs (w2 G a5 a6 σ τ) 339 (lvl a5 a6 b i) [] 85 1310 := by
  refine Laload_n dL_law_339 2 rfl 340 rfl ?_
  refine Laload_n dL_law_340 3 rfl 341 rfl ?_
  refine Lload_n dL_law_341 0 rfl 342 rfl ?_
  refine Lconst dL_law_342 (1 : Int32) (by decide) 343 rfl ?_
  refine Ladd dL_law_343 344 rfl ?_
  refine Lsld dL_law_344 345 rfl h1 ?_
  refine Lcall (w1 := []) (w2 := wD (gW G a6 (rR 53 32)) τ) (w' := wD (gW G a5 (rR 0 53)) σ ++ wD (gW G a6 (rR 53 32)) τ) (q := 0) (ci := 5) (T := (f_X5_size σ (xs (i + 1).toNatClampNeg), σ)) [.int (xs (i + 1).toNatClampNeg)] rfl rfl dL_law_345 (c_X5_size l (full5 hG a5) σ (xs (i + 1).toNatClampNeg)) mw_X5_size wd_im_yX5_size wd_se_yX5_size wd_ml_RL_44 (by decide) rfl rfl rfl (by decide) rfl rfl (Nat.le_of_ble_eq_true rfl) (Nat.le_of_ble_eq_true rfl) (Nat.le_of_ble_eq_true rfl) 348 rfl ?_
  refine Laload_n dL_law_348 1 rfl 349 rfl ?_
  refine Laload_n dL_law_349 3 rfl 350 rfl ?_
  refine Lload_n dL_law_350 0 rfl 351 rfl ?_
  refine Lconst dL_law_351 (1 : Int32) (by decide) 352 rfl ?_
  refine Ladd dL_law_352 353 rfl ?_
  refine Lsld dL_law_353 354 rfl h1 ?_
  refine Lcall (w1 := wD (gW G a5 (rR 0 53)) σ) (w2 := []) (w' := w2 G a5 a6 σ τ) (q := 53) (ci := 6) (T := (f_X6_size τ (xs (i + 1).toNatClampNeg), τ)) [.int (xs (i + 1).toNatClampNeg)] (by rw [List.append_nil]) (by rw [List.append_nil]; rfl) dL_law_354 (c_X6_size l (full6 hG a6) τ (xs (i + 1).toNatClampNeg)) mw_X6_size wd_im_yX6_size wd_se_yX6_size wd_ml_RL_47 (by decide) rfl rfl rfl (by decide) rfl rfl (Nat.le_of_ble_eq_true rfl) (Nat.le_of_ble_eq_true rfl) (Nat.le_of_ble_eq_true rfl) 357 rfl ?_
  have hp := P_size h (xs (i + 1).toNatClampNeg)
  refine Liceq dL_law_357 523 (by decide) hp ?_
  exact kk _ _ h (hI.mono (by omega))
set_option maxHeartbeats 4000000 in
theorem L_item {l : Launch} {G : gT} {X : xT} {b L : Nat} {xs : Nat → Int32} (hG : gOk G) (a5 a6 : Nat → Nat) {σ τ : mS} (h : Rel σ τ) {B : Nat} (hI : RI B τ) (hb : B < 2 ^ 25) {i : Int32} (h1 : vp_in (i + 1) L) (h2 : vp_in (i + 2) L) (kk : ∀ σ' τ', Rel σ' τ' → RI (B + 1200) τ' → Lb l G X b L xs (w2 G a5 a6 σ' τ') 523 (lvl a5 a6 b i) [] 85 1310) : Lb l G X b L xs (w2 G a5 a6 σ τ) 362 (lvl a5 a6 b i) [] 85 1310 := by
  refine Laload_n dL_law_362 2 rfl 363 rfl ?_
  refine Laload_n dL_law_363 3 rfl 364 rfl ?_
  refine Lload_n dL_law_364 0 rfl 365 rfl ?_
  refine Lconst dL_law_365 (1 : Int32) (by decide) 366 rfl ?_
  refine Ladd dL_law_366 367 rfl ?_
  refine Lsld dL_law_367 368 rfl h1 ?_
  refine Laload_n dL_law_368 3 rfl 369 rfl ?_
  refine Lload_n dL_law_369 0 rfl 370 rfl ?_
  refine Lconst dL_law_370 (2 : Int32) (by decide) 371 rfl ?_
  refine Ladd dL_law_371 372 rfl ?_
  refine Lsld dL_law_372 373 rfl h2 ?_
  refine Lcall (w1 := []) (w2 := wD (gW G a6 (rR 53 32)) τ) (w' := wD (gW G a5 (rR 0 53)) σ ++ wD (gW G a6 (rR 53 32)) τ) (q := 0) (ci := 5) (T := (f_X5_item σ (xs (i + 1).toNatClampNeg) (xs (i + 2).toNatClampNeg), σ)) [.int (xs (i + 1).toNatClampNeg), .int (xs (i + 2).toNatClampNeg)] rfl rfl dL_law_373 (c_X5_item l (full5 hG a5) σ (xs (i + 1).toNatClampNeg) (xs (i + 2).toNatClampNeg)) mw_X5_item wd_im_yX5_item wd_se_yX5_item wd_ml_RL_48 (by decide) rfl rfl rfl (by decide) rfl rfl (Nat.le_of_ble_eq_true rfl) (Nat.le_of_ble_eq_true rfl) (Nat.le_of_ble_eq_true rfl) 376 rfl ?_
  refine Laload_n dL_law_376 1 rfl 377 rfl ?_
  refine Laload_n dL_law_377 3 rfl 378 rfl ?_
  refine Lload_n dL_law_378 0 rfl 379 rfl ?_
  refine Lconst dL_law_379 (1 : Int32) (by decide) 380 rfl ?_
  refine Ladd dL_law_380 381 rfl ?_
  refine Lsld dL_law_381 382 rfl h1 ?_
  refine Laload_n dL_law_382 3 rfl 383 rfl ?_
  refine Lload_n dL_law_383 0 rfl 384 rfl ?_
  refine Lconst dL_law_384 (2 : Int32) (by decide) 385 rfl ?_
  refine Ladd dL_law_385 386 rfl ?_
  refine Lsld dL_law_386 387 rfl h2 ?_
  refine Lcall (w1 := wD (gW G a5 (rR 0 53)) σ) (w2 := []) (w' := w2 G a5 a6 σ τ) (q := 53) (ci := 6) (T := (f_X6_item τ (xs (i + 1).toNatClampNeg) (xs (i + 2).toNatClampNeg), τ)) [.int (xs (i + 1).toNatClampNeg), .int (xs (i + 2).toNatClampNeg)] (by rw [List.append_nil]) (by rw [List.append_nil]; rfl) dL_law_387 (c_X6_item l (full6 hG a6) τ (xs (i + 1).toNatClampNeg) (xs (i + 2).toNatClampNeg) hI.1.2.2.2.2.2.1) mw_X6_item wd_im_yX6_item wd_se_yX6_item wd_ml_RL_51 (by decide) rfl rfl rfl (by decide) rfl rfl (Nat.le_of_ble_eq_true rfl) (Nat.le_of_ble_eq_true rfl) (Nat.le_of_ble_eq_true rfl) 390 rfl ?_
  have hp := P_item h hI.1.2.2.2.2.2.1 (xs (i + 1).toNatClampNeg) (xs (i + 2).toNatClampNeg)
  refine Liceq dL_law_390 523 (by decide) hp ?_
  exact kk _ _ h (hI.mono (by omega))
set_option maxHeartbeats 4000000 in
theorem L_frozen {l : Launch} {G : gT} {X : xT} {b L : Nat} {xs : Nat → Int32} (hG : gOk G) (a5 a6 : Nat → Nat) {σ τ : mS} (h : Rel σ τ) {B : Nat} (hI : RI B τ) (hb : B < 2 ^ 25) {i : Int32} (h1 : vp_in (i + 1) L) (kk : ∀ σ' τ', Rel σ' τ' → RI (B + 1200) τ' → Lb l G X b L xs (w2 G a5 a6 σ' τ') 523 (lvl a5 a6 b i) [] 85 1310) : Lb l G X b L xs (w2 G a5 a6 σ τ) 395 (lvl a5 a6 b i) [] 85 1310 := by
  refine Laload_n dL_law_395 2 rfl 396 rfl ?_
  refine Laload_n dL_law_396 3 rfl 397 rfl ?_
  refine Lload_n dL_law_397 0 rfl 398 rfl ?_
  refine Lconst dL_law_398 (1 : Int32) (by decide) 399 rfl ?_
  refine Ladd dL_law_399 400 rfl ?_
  refine Lsld dL_law_400 401 rfl h1 ?_
  refine Lcall (w1 := []) (w2 := wD (gW G a6 (rR 53 32)) τ) (w' := wD (gW G a5 (rR 0 53)) σ ++ wD (gW G a6 (rR 53 32)) τ) (q := 0) (ci := 5) (T := (f_X5_frozen σ (xs (i + 1).toNatClampNeg), σ)) [.int (xs (i + 1).toNatClampNeg)] rfl rfl dL_law_401 (c_X5_frozen l (full5 hG a5) σ (xs (i + 1).toNatClampNeg)) mw_X5_frozen wd_im_yX5_frozen wd_se_yX5_frozen wd_ml_RL_52 (by decide) rfl rfl rfl (by decide) rfl rfl (Nat.le_of_ble_eq_true rfl) (Nat.le_of_ble_eq_true rfl) (Nat.le_of_ble_eq_true rfl) 404 rfl ?_
  refine Laload_n dL_law_404 1 rfl 405 rfl ?_
  refine Laload_n dL_law_405 3 rfl 406 rfl ?_
  refine Lload_n dL_law_406 0 rfl 407 rfl ?_
  refine Lconst dL_law_407 (1 : Int32) (by decide) 408 rfl ?_
  refine Ladd dL_law_408 409 rfl ?_
  refine Lsld dL_law_409 410 rfl h1 ?_
  refine Lcall (w1 := wD (gW G a5 (rR 0 53)) σ) (w2 := []) (w' := w2 G a5 a6 σ τ) (q := 53) (ci := 6) (T := (f_X6_frozen τ (xs (i + 1).toNatClampNeg), τ)) [.int (xs (i + 1).toNatClampNeg)] (by rw [List.append_nil]) (by rw [List.append_nil]; rfl) dL_law_410 (c_X6_frozen l (full6 hG a6) τ (xs (i + 1).toNatClampNeg)) mw_X6_frozen wd_im_yX6_frozen wd_se_yX6_frozen wd_ml_RL_55 (by decide) rfl rfl rfl (by decide) rfl rfl (Nat.le_of_ble_eq_true rfl) (Nat.le_of_ble_eq_true rfl) (Nat.le_of_ble_eq_true rfl) 413 rfl ?_
  have hp := P_frozen h (xs (i + 1).toNatClampNeg)
  refine Liceq dL_law_413 523 (by decide) hp ?_
  exact kk _ _ h (hI.mono (by omega))
set_option maxHeartbeats 4000000 in
theorem L_put {l : Launch} {G : gT} {X : xT} {b L : Nat} {xs : Nat → Int32} (hG : gOk G) (a5 a6 : Nat → Nat) {σ τ : mS} (h : Rel σ τ) {B : Nat} (hI : RI B τ) (hb : B < 2 ^ 25) {i : Int32} (h1 : vp_in (i + 1) L) (h2 : vp_in (i + 2) L) (kk : ∀ σ' τ', Rel σ' τ' → RI (B + 1200) τ' → Lb l G X b L xs (w2 G a5 a6 σ' τ') 523 (lvl a5 a6 b i) [] 85 1310) : Lb l G X b L xs (w2 G a5 a6 σ τ) 418 (lvl a5 a6 b i) [] 85 1310 := by
  refine Laload_n dL_law_418 2 rfl 419 rfl ?_
  refine Laload_n dL_law_419 3 rfl 420 rfl ?_
  refine Lload_n dL_law_420 0 rfl 421 rfl ?_
  refine Lconst dL_law_421 (1 : Int32) (by decide) 422 rfl ?_
  refine Ladd dL_law_422 423 rfl ?_
  refine Lsld dL_law_423 424 rfl h1 ?_
  refine Laload_n dL_law_424 3 rfl 425 rfl ?_
  refine Lload_n dL_law_425 0 rfl 426 rfl ?_
  refine Lconst dL_law_426 (2 : Int32) (by decide) 427 rfl ?_
  refine Ladd dL_law_427 428 rfl ?_
  refine Lsld dL_law_428 429 rfl h2 ?_
  refine Lcall (w1 := []) (w2 := wD (gW G a6 (rR 53 32)) τ) (w' := wD (gW G a5 (rR 0 53)) (f_X5_put σ (xs (i + 1).toNatClampNeg) (xs (i + 2).toNatClampNeg)).2 ++ wD (gW G a6 (rR 53 32)) τ) (q := 0) (ci := 5) (T := (f_X5_put σ (xs (i + 1).toNatClampNeg) (xs (i + 2).toNatClampNeg))) [.int (xs (i + 1).toNatClampNeg), .int (xs (i + 2).toNatClampNeg)] rfl rfl dL_law_429 (c_X5_put l (full5 hG a5) σ (xs (i + 1).toNatClampNeg) (xs (i + 2).toNatClampNeg)) mw_X5_put wd_im_yX5_put wd_se_yX5_put wd_ml_RL_56 (by decide) rfl rfl rfl (by decide) rfl rfl (Nat.le_of_ble_eq_true rfl) (Nat.le_of_ble_eq_true rfl) (Nat.le_of_ble_eq_true rfl) 432 rfl ?_
  refine Laload_n dL_law_432 1 rfl 433 rfl ?_
  refine Laload_n dL_law_433 3 rfl 434 rfl ?_
  refine Lload_n dL_law_434 0 rfl 435 rfl ?_
  refine Lconst dL_law_435 (1 : Int32) (by decide) 436 rfl ?_
  refine Ladd dL_law_436 437 rfl ?_
  refine Lsld dL_law_437 438 rfl h1 ?_
  refine Laload_n dL_law_438 3 rfl 439 rfl ?_
  refine Lload_n dL_law_439 0 rfl 440 rfl ?_
  refine Lconst dL_law_440 (2 : Int32) (by decide) 441 rfl ?_
  refine Ladd dL_law_441 442 rfl ?_
  refine Lsld dL_law_442 443 rfl h2 ?_
  refine Lcall (w1 := wD (gW G a5 (rR 0 53)) (f_X5_put σ (xs (i + 1).toNatClampNeg) (xs (i + 2).toNatClampNeg)).2) (w2 := []) (w' := w2 G a5 a6 (f_X5_put σ (xs (i + 1).toNatClampNeg) (xs (i + 2).toNatClampNeg)).2 (f_X6_put τ (xs (i + 1).toNatClampNeg) (xs (i + 2).toNatClampNeg)).2) (q := 53) (ci := 6) (T := (f_X6_put τ (xs (i + 1).toNatClampNeg) (xs (i + 2).toNatClampNeg))) [.int (xs (i + 1).toNatClampNeg), .int (xs (i + 2).toNatClampNeg)] (by rw [List.append_nil]) (by rw [List.append_nil]; rfl) dL_law_443 (c_X6_put l (full6 hG a6) τ (xs (i + 1).toNatClampNeg) (xs (i + 2).toNatClampNeg)) mw_X6_put wd_im_yX6_put wd_se_yX6_put wd_ml_RL_59 (by decide) rfl rfl rfl (by decide) rfl rfl (Nat.le_of_ble_eq_true rfl) (Nat.le_of_ble_eq_true rfl) (Nat.le_of_ble_eq_true rfl) 446 rfl ?_
  have hp := P_put h (xs (i + 1).toNatClampNeg) (xs (i + 2).toNatClampNeg)
  refine Liceq dL_law_446 523 (by decide) hp.1 ?_
  exact kk _ _ hp.2 ((RI_put hI (xs (i + 1).toNatClampNeg) (xs (i + 2).toNatClampNeg)).mono (by omega))
set_option maxHeartbeats 4000000 in
theorem L_writes {l : Launch} {G : gT} {X : xT} {b L : Nat} {xs : Nat → Int32} (hG : gOk G) (a5 a6 : Nat → Nat) {σ τ : mS} (h : Rel σ τ) {B : Nat} (hI : RI B τ) (hb : B < 2 ^ 25) {i : Int32} (kk : ∀ σ' τ', Rel σ' τ' → RI (B + 1200) τ' → Lb l G X b L xs (w2 G a5 a6 σ' τ') 523 (lvl a5 a6 b i) [] 85 1310) : Lb l G X b L xs (w2 G a5 a6 σ τ) 451 (lvl a5 a6 b i) [] 85 1310 := by
  refine Laload_n dL_law_451 2 rfl 452 rfl ?_
  refine Lcall (w1 := []) (w2 := wD (gW G a6 (rR 53 32)) τ) (w' := wD (gW G a5 (rR 0 53)) σ ++ wD (gW G a6 (rR 53 32)) τ) (q := 0) (ci := 5) (T := (f_X5_writes σ, σ)) [] rfl rfl dL_law_452 (c_X5_writes l (full5 hG a5) σ ) mw_X5_writes wd_im_yX5_writes wd_se_yX5_writes wd_ml_RL_60 (by decide) rfl rfl rfl (by decide) rfl rfl (Nat.le_of_ble_eq_true rfl) (Nat.le_of_ble_eq_true rfl) (Nat.le_of_ble_eq_true rfl) 455 rfl ?_
  refine Laload_n dL_law_455 1 rfl 456 rfl ?_
  refine Lcall (w1 := wD (gW G a5 (rR 0 53)) σ) (w2 := []) (w' := w2 G a5 a6 σ τ) (q := 53) (ci := 6) (T := (f_X6_writes τ, τ)) [] (by rw [List.append_nil]) (by rw [List.append_nil]; rfl) dL_law_456 (c_X6_writes l (full6 hG a6) τ ) mw_X6_writes wd_im_yX6_writes wd_se_yX6_writes wd_ml_RL_64 (by decide) rfl rfl rfl (by decide) rfl rfl (Nat.le_of_ble_eq_true rfl) (Nat.le_of_ble_eq_true rfl) (Nat.le_of_ble_eq_true rfl) 459 rfl ?_
  have hp := P_writes h
  refine Liceq dL_law_459 523 (by decide) hp ?_
  exact kk _ _ h (hI.mono (by omega))
set_option maxHeartbeats 4000000 in
theorem L_write {l : Launch} {G : gT} {X : xT} {b L : Nat} {xs : Nat → Int32} (hG : gOk G) (a5 a6 : Nat → Nat) {σ τ : mS} (h : Rel σ τ) {B : Nat} (hI : RI B τ) (hb : B < 2 ^ 25) {i : Int32} (h1 : vp_in (i + 1) L) (h2 : vp_in (i + 2) L) (kk : ∀ σ' τ', Rel σ' τ' → RI (B + 1200) τ' → Lb l G X b L xs (w2 G a5 a6 σ' τ') 523 (lvl a5 a6 b i) [] 85 1310) : Lb l G X b L xs (w2 G a5 a6 σ τ) 464 (lvl a5 a6 b i) [] 85 1310 := by
  refine Laload_n dL_law_464 2 rfl 465 rfl ?_
  refine Laload_n dL_law_465 3 rfl 466 rfl ?_
  refine Lload_n dL_law_466 0 rfl 467 rfl ?_
  refine Lconst dL_law_467 (1 : Int32) (by decide) 468 rfl ?_
  refine Ladd dL_law_468 469 rfl ?_
  refine Lsld dL_law_469 470 rfl h1 ?_
  refine Laload_n dL_law_470 3 rfl 471 rfl ?_
  refine Lload_n dL_law_471 0 rfl 472 rfl ?_
  refine Lconst dL_law_472 (2 : Int32) (by decide) 473 rfl ?_
  refine Ladd dL_law_473 474 rfl ?_
  refine Lsld dL_law_474 475 rfl h2 ?_
  refine Lcall (w1 := []) (w2 := wD (gW G a6 (rR 53 32)) τ) (w' := wD (gW G a5 (rR 0 53)) σ ++ wD (gW G a6 (rR 53 32)) τ) (q := 0) (ci := 5) (T := (f_X5_write σ (xs (i + 1).toNatClampNeg) (xs (i + 2).toNatClampNeg), σ)) [.int (xs (i + 1).toNatClampNeg), .int (xs (i + 2).toNatClampNeg)] rfl rfl dL_law_475 (c_X5_write l (full5 hG a5) σ (xs (i + 1).toNatClampNeg) (xs (i + 2).toNatClampNeg)) mw_X5_write wd_im_yX5_write wd_se_yX5_write wd_ml_RL_65 (by decide) rfl rfl rfl (by decide) rfl rfl (Nat.le_of_ble_eq_true rfl) (Nat.le_of_ble_eq_true rfl) (Nat.le_of_ble_eq_true rfl) 478 rfl ?_
  refine Laload_n dL_law_478 1 rfl 479 rfl ?_
  refine Laload_n dL_law_479 3 rfl 480 rfl ?_
  refine Lload_n dL_law_480 0 rfl 481 rfl ?_
  refine Lconst dL_law_481 (1 : Int32) (by decide) 482 rfl ?_
  refine Ladd dL_law_482 483 rfl ?_
  refine Lsld dL_law_483 484 rfl h1 ?_
  refine Laload_n dL_law_484 3 rfl 485 rfl ?_
  refine Lload_n dL_law_485 0 rfl 486 rfl ?_
  refine Lconst dL_law_486 (2 : Int32) (by decide) 487 rfl ?_
  refine Ladd dL_law_487 488 rfl ?_
  refine Lsld dL_law_488 489 rfl h2 ?_
  refine Lcall (w1 := wD (gW G a5 (rR 0 53)) σ) (w2 := []) (w' := w2 G a5 a6 σ τ) (q := 53) (ci := 6) (T := (f_X6_write_ τ (xs (i + 1).toNatClampNeg) (xs (i + 2).toNatClampNeg), τ)) [.int (xs (i + 1).toNatClampNeg), .int (xs (i + 2).toNatClampNeg)] (by rw [List.append_nil]) (by rw [List.append_nil]; rfl) dL_law_489 (c_X6_write_ l (full6 hG a6) τ (xs (i + 1).toNatClampNeg) (xs (i + 2).toNatClampNeg) B hI.2.2 (by omega)) mw_X6_write_ wd_im_yX6_write_ wd_se_yX6_write_ wd_ml_RL_68 (by decide) rfl rfl rfl (by decide) rfl rfl (Nat.le_of_ble_eq_true rfl) (Nat.le_of_ble_eq_true rfl) (Nat.le_of_ble_eq_true rfl) 492 rfl ?_
  have hp := P_write h (xs (i + 1).toNatClampNeg) (xs (i + 2).toNatClampNeg)
  refine Liceq dL_law_492 523 (by decide) hp ?_
  exact kk _ _ h (hI.mono (by omega))
set_option maxHeartbeats 4000000 in
theorem L_again {l : Launch} {G : gT} {X : xT} {b L : Nat} {xs : Nat → Int32} (hG : gOk G) (a5 a6 : Nat → Nat) {σ τ : mS} (h : Rel σ τ) {B : Nat} (hI : RI B τ) (hb : B < 2 ^ 25) {i : Int32} (kk : ∀ σ' τ', Rel σ' τ' → RI (B + 1200) τ' → Lb l G X b L xs (w2 G a5 a6 σ' τ') 523 (lvl a5 a6 b i) [] 85 1310) : Lb l G X b L xs (w2 G a5 a6 σ τ) 497 (lvl a5 a6 b i) [] 85 1310 := by
  refine Laload_n dL_law_497 2 rfl 498 rfl ?_
  refine Lcall (w1 := []) (w2 := wD (gW G a6 (rR 53 32)) τ) (w' := wD (gW G a5 (rR 0 53)) (f_X5_again σ).2 ++ wD (gW G a6 (rR 53 32)) τ) (q := 0) (ci := 5) (T := (f_X5_again σ)) [] rfl rfl dL_law_498 (c_X5_again l (full5 hG a5) σ ) mw_X5_again wd_im_yX5_again wd_se_yX5_again wd_ml_RL_69 (by decide) rfl rfl rfl (by decide) rfl rfl (Nat.le_of_ble_eq_true rfl) (Nat.le_of_ble_eq_true rfl) (Nat.le_of_ble_eq_true rfl) 501 rfl ?_
  refine Laload_n dL_law_501 1 rfl 502 rfl ?_
  refine Lcall (w1 := wD (gW G a5 (rR 0 53)) (f_X5_again σ).2) (w2 := []) (w' := w2 G a5 a6 (f_X5_again σ).2 (f_X6_again τ).2) (q := 53) (ci := 6) (T := (f_X6_again τ)) [] (by rw [List.append_nil]) (by rw [List.append_nil]; rfl) dL_law_502 (c_X6_again l (full6 hG a6) τ ) mw_X6_again wd_im_yX6_again wd_se_yX6_again wd_ml_RL_72 (by decide) rfl rfl rfl (by decide) rfl rfl (Nat.le_of_ble_eq_true rfl) (Nat.le_of_ble_eq_true rfl) (Nat.le_of_ble_eq_true rfl) 505 rfl ?_
  have hp := P_again h
  refine Liceq dL_law_505 523 (by decide) hp.1 ?_
  exact kk _ _ hp.2 ((RI_again hI).mono (by omega))
set_option maxHeartbeats 4000000 in
theorem L_clear {l : Launch} {G : gT} {X : xT} {b L : Nat} {xs : Nat → Int32} (hG : gOk G) (a5 a6 : Nat → Nat) {σ τ : mS} (h : Rel σ τ) {B : Nat} (hI : RI B τ) (hb : B < 2 ^ 25) {i : Int32} (kk : ∀ σ' τ', Rel σ' τ' → RI (B + 1200) τ' → Lb l G X b L xs (w2 G a5 a6 σ' τ') 523 (lvl a5 a6 b i) [] 85 1310) : Lb l G X b L xs (w2 G a5 a6 σ τ) 510 (lvl a5 a6 b i) [] 85 1310 := by
  refine Laload_n dL_law_510 2 rfl 511 rfl ?_
  refine Lcall (w1 := []) (w2 := wD (gW G a6 (rR 53 32)) τ) (w' := wD (gW G a5 (rR 0 53)) (f_X5_clear σ).2 ++ wD (gW G a6 (rR 53 32)) τ) (q := 0) (ci := 5) (T := (f_X5_clear σ)) [] rfl rfl dL_law_511 (c_X5_clear l (full5 hG a5) σ ) mw_X5_clear wd_im_yX5_clear wd_se_yX5_clear wd_ml_RL_73 (by decide) rfl rfl rfl (by decide) rfl rfl (Nat.le_of_ble_eq_true rfl) (Nat.le_of_ble_eq_true rfl) (Nat.le_of_ble_eq_true rfl) 514 rfl ?_
  refine Laload_n dL_law_514 1 rfl 515 rfl ?_
  refine Lcall (w1 := wD (gW G a5 (rR 0 53)) (f_X5_clear σ).2) (w2 := []) (w' := w2 G a5 a6 (f_X5_clear σ).2 (f_X6_clear τ).2) (q := 53) (ci := 6) (T := (f_X6_clear τ)) [] (by rw [List.append_nil]) (by rw [List.append_nil]; rfl) dL_law_515 (c_X6_clear l (full6 hG a6) τ ) mw_X6_clear wd_im_yX6_clear wd_se_yX6_clear wd_ml_RL_76 (by decide) rfl rfl rfl (by decide) rfl rfl (Nat.le_of_ble_eq_true rfl) (Nat.le_of_ble_eq_true rfl) (Nat.le_of_ble_eq_true rfl) 518 rfl ?_
  have hp := P_clear h
  refine Liceq dL_law_518 523 (by decide) hp.1 ?_
  exact kk _ _ hp.2 ((RI_clear hI).mono (by omega))
theorem and15 (v : Int32) : ∃ j : Nat, j < 16 ∧ v &&& (15 : Int32) = nI j := by
  refine ⟨(v &&& (15 : Int32)).toBitVec.toNat, ?_, ?_⟩
  · have h : (v &&& (15 : Int32)).toBitVec.toNat = v.toBitVec.toNat &&& (15 : Int32).toBitVec.toNat := by rw [Int32.toBitVec_and, BitVec.toNat_and]
    rw [h]
    have h2 : v.toBitVec.toNat &&& (15 : Int32).toBitVec.toNat ≤ (15 : Int32).toBitVec.toNat := Nat.and_le_right
    have h3 : (15 : Int32).toBitVec.toNat = 15 := by decide
    omega
  · generalize v &&& (15 : Int32) = z
    apply Int32.toBitVec_inj.mp
    show z.toBitVec = BitVec.ofNat 32 z.toBitVec.toNat
    simp
theorem room_at {L i : Nat} (hL : L ≤ 3072) (hi : i ≤ 4000) (h : ¬ nI L - (6 : Int32) < nI i) : i + 6 ≤ L := by
  by_cases c : 6 ≤ L
  · rw [show (6 : Int32) = nI 6 from rfl, nI_sub c, i32_lt, nI_toInt (by omega), nI_toInt (by omega)] at h
    omega
  · exfalso
    apply h
    have hn : (nI L - (6 : Int32)).toInt < 0 := by
      rcases (show L = 0 ∨ L = 1 ∨ L = 2 ∨ L = 3 ∨ L = 4 ∨ L = 5 by omega) with rfl | rfl | rfl | rfl | rfl | rfl <;> decide
    rw [i32_lt, nI_toInt (by omega)]
    omega
set_option maxHeartbeats 4000000 in
theorem law_loop {l : Launch} {G : gT} {X : xT} {b L : Nat} {xs : Nat → Int32} (hL : L ≤ 3072) (hG : gOk G) (a5 a6 : Nat → Nat) : ∀ (n j : Nat) (σ τ : mS), n + j = 513 → j ≤ 512 → Rel σ τ → RI (1200 * j) τ → Lb l G X b L xs (w2 G a5 a6 σ τ) 18 (lvl a5 a6 b (nI (6 * j))) [] 85 1310 := by
  intro n
  induction n with
  | zero => intro j σ τ hn hj; exact absurd hn (by omega)
  | succ n ih =>
    intro j σ τ hn hj h hI
    refine Lload_n dL_law_18 0 rfl 19 rfl ?_
    refine Laload_n dL_law_19 3 rfl 20 rfl ?_
    refine Lslen dL_law_20 21 rfl ?_
    refine Lbipush dL_law_21 (6 : Int32) (by decide) 23 rfl ?_
    refine Lsub dL_law_23 24 rfl ?_
    refine Licgt dL_law_24 529 27 (by decide) rfl (fun _ => ?_) (fun hc => ?_)
    · refine Lconst dL_law_529 (1 : Int32) (by decide) 530 rfl ?_
      exact Lret dL_law_530 (Nat.le_of_ble_eq_true rfl) (Nat.le_of_ble_eq_true rfl)
    have hr := room_at hL (by omega) hc
    have hin : ∀ k : Nat, k < 6 → vp_in (nI (6 * j) + nI k) L := fun k hk => by rw [nI_add]; exact vp_in_nI (by omega) (by omega)
    have h0 : vp_in (nI (6 * j)) L := vp_in_nI (by omega) (by omega)
    have kk : ∀ σ' τ', Rel σ' τ' → RI (1200 * j + 1200) τ' → Lb l G X b L xs (w2 G a5 a6 σ' τ') 523 (lvl a5 a6 b (nI (6 * j))) [] 85 1310 := by
      intro σ' τ' h' hI'
      refine Liinc dL_law_523 (nI (6 * (j + 1))) 0 (lvl a5 a6 b (nI (6 * (j + 1)))) 526 rfl rfl (by rw [show Int32.ofInt 6 = nI 6 from rfl, nI_add]; rfl) (by decide) rfl ?_
      refine Lgoto dL_law_526 18 (by decide) ?_
      exact ih (j + 1) σ' τ' (by omega) (by omega) h' (hI'.mono (by omega))
    refine Laload_n dL_law_27 3 rfl 28 rfl ?_
    refine Lload_n dL_law_28 0 rfl 29 rfl ?_
    refine Lsld dL_law_29 30 rfl h0 ?_
    refine Lbipush dL_law_30 (15 : Int32) (by decide) 32 rfl ?_
    refine Land dL_law_32 33 rfl ?_
    obtain ⟨v, hv, ev⟩ := and15 (xs (nI (6 * j)).toNatClampNeg)
    rw [ev]
    have hb : 1200 * j < 2 ^ 25 := by omega
    rcases (show v = 0 ∨ v = 1 ∨ v = 2 ∨ v = 3 ∨ v = 4 ∨ v = 5 ∨ v = 6 ∨ v = 7 ∨ v = 8 ∨ v = 9 ∨ v = 10 ∨ v = 11 ∨ v = 12 ∨ v = 13 ∨ v = 14 ∨ v = 15 by omega) with rfl | rfl | rfl | rfl | rfl | rfl | rfl | rfl | rfl | rfl | rfl | rfl | rfl | rfl | rfl | rfl
    · refine Lswin (off := 75) dL_law_33 108 (by decide) (by decide) (by decide +kernel) (by decide) ?_
      exact L_act hG a5 a6 h hI hb (hin 1 (by decide)) (hin 2 (by decide)) (hin 3 (by decide)) (hin 4 (by decide)) (hin 5 (by decide)) kk
    · refine Lswin (off := 138) dL_law_33 171 (by decide) (by decide) (by decide +kernel) (by decide) ?_
      exact L_turn hG a5 a6 h hI hb (hin 1 (by decide)) kk
    · refine Lswin (off := 161) dL_law_33 194 (by decide) (by decide) (by decide +kernel) (by decide) ?_
      exact L_play hG a5 a6 h hI hb (hin 1 (by decide)) (hin 2 (by decide)) kk
    · refine Lswin (off := 194) dL_law_33 227 (by decide) (by decide) (by decide +kernel) (by decide) ?_
      exact L_told hG a5 a6 h hI hb (hin 1 (by decide)) (hin 2 (by decide)) kk
    · refine Lswin (off := 227) dL_law_33 260 (by decide) (by decide) (by decide +kernel) (by decide) ?_
      exact L_register hG a5 a6 h hI hb (hin 1 (by decide)) (hin 2 (by decide)) kk
    · refine Lswin (off := 260) dL_law_33 293 (by decide) (by decide) (by decide +kernel) (by decide) ?_
      exact L_cell hG a5 a6 h hI hb (hin 1 (by decide)) kk
    · refine Lswin (off := 283) dL_law_33 316 (by decide) (by decide) (by decide +kernel) (by decide) ?_
      exact L_lazy hG a5 a6 h hI hb (hin 1 (by decide)) kk
    · refine Lswin (off := 306) dL_law_33 339 (by decide) (by decide) (by decide +kernel) (by decide) ?_
      exact L_size hG a5 a6 h hI hb (hin 1 (by decide)) kk
    · refine Lswin (off := 329) dL_law_33 362 (by decide) (by decide) (by decide +kernel) (by decide) ?_
      exact L_item hG a5 a6 h hI hb (hin 1 (by decide)) (hin 2 (by decide)) kk
    · refine Lswin (off := 362) dL_law_33 395 (by decide) (by decide) (by decide +kernel) (by decide) ?_
      exact L_frozen hG a5 a6 h hI hb (hin 1 (by decide)) kk
    · refine Lswin (off := 385) dL_law_33 418 (by decide) (by decide) (by decide +kernel) (by decide) ?_
      exact L_put hG a5 a6 h hI hb (hin 1 (by decide)) (hin 2 (by decide)) kk
    · refine Lswin (off := 418) dL_law_33 451 (by decide) (by decide) (by decide +kernel) (by decide) ?_
      exact L_writes hG a5 a6 h hI hb kk
    · refine Lswin (off := 431) dL_law_33 464 (by decide) (by decide) (by decide +kernel) (by decide) ?_
      exact L_write hG a5 a6 h hI hb (hin 1 (by decide)) (hin 2 (by decide)) kk
    · refine Lswin (off := 464) dL_law_33 497 (by decide) (by decide) (by decide +kernel) (by decide) ?_
      exact L_again hG a5 a6 h hI hb kk
    · refine Lswin (off := 477) dL_law_33 510 (by decide) (by decide) (by decide +kernel) (by decide) ?_
      exact L_clear hG a5 a6 h hI hb kk
    · refine Lswout dL_law_33 523 (by decide) (by decide) ?_
      exact kk σ τ h (hI.mono (by omega))
