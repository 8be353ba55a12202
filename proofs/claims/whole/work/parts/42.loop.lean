/-! ===== the law's loop ===== -/
theorem l_in {k j L : Nat} (h : k + j < L) (hL : L < 2 ^ 31) : vp_in (nI k + nI j) L := by rw [nI_add]; exact vp_in_nI h hL
section LP
variable {C : q_C} {p : Program} {l : Launch} {e : Env} {s : State} {m : MethodId} {below : List Frame} {meth : Method} {c9 : Code} {b L : Nat} {xs : Nat → Int32}
abbrev q_lv (C : q_C) (b k : Nat) : List (Nat × Value) := [(0, .ref b), (1, .ref (q_a C 0)), (2, .ref (q_a C 122)), (3, .int (nI k))]
set_option maxRecDepth 100000 in
set_option maxHeartbeats 4000000 in
theorem w_camp (h0 : q_LX C p s m meth c9 b L xs) (hL : L ≤ 3072) {k : Nat} (hk : k + 6 ≤ L) {bb : Bool} {μ : q_M} (hS : q_Sim bb μ) (nx : ∀ bb μ, q_Sim bb μ → q_L C p l e s m below meth c9 b 142 μ (q_ρ bb) (q_lv C b k) [] 637) : q_L C p l e s m below meth c9 b 142 μ (q_ρ bb) (q_lv C b k) [] 116 := by
  obtain ⟨d1, K, hd1, hc1, hk2⟩ := a_camp (C := C) (l := l) hS (xs (nI k + 1).toNatClampNeg) (xs (nI k + 2).toNatClampNeg)
  refine l_aload_n h0 117 dL_law_116 rfl rfl ?_
  refine l_aload_n h0 118 dL_law_117 rfl rfl ?_
  refine l_iload_n h0 119 dL_law_118 rfl rfl ?_
  refine l_iconst h0 120 1 dL_law_119 rfl (by decide) ?_
  refine l_iadd h0 121 dL_law_120 rfl ?_
  refine l_sld h0 122 dL_law_121 rfl (l_in (k := k) (j := 1) (by omega) (by omega)) ?_
  refine l_aload_n h0 123 dL_law_122 rfl rfl ?_
  refine l_iload_n h0 124 dL_law_123 rfl rfl ?_
  refine l_iconst h0 125 2 dL_law_124 rfl (by decide) ?_
  refine l_iadd h0 126 dL_law_125 rfl ?_
  refine l_sld h0 127 dL_law_126 rfl (l_in (k := k) (j := 2) (by omega) (by omega)) ?_
  refine l_Vi h0 130 0 [_, _] [] dL_law_127 rfl m_X7_camp l_L_13 (by decide) rfl rfl hc1 rfl rfl (Nat.le_of_ble_eq_true rfl) hd1 (fun v1 μ1 ρ1 hc9 => ?_)
  obtain ⟨b1, rfl, hK⟩ := hc9
  obtain ⟨d2, hd2, hc2⟩ := hk2 _ _ _ hK
  refine l_aload_n h0 131 dL_law_130 rfl rfl ?_
  refine l_aload_n h0 132 dL_law_131 rfl rfl ?_
  refine l_iload_n h0 133 dL_law_132 rfl rfl ?_
  refine l_iconst h0 134 1 dL_law_133 rfl (by decide) ?_
  refine l_iadd h0 135 dL_law_134 rfl ?_
  refine l_sld h0 136 dL_law_135 rfl (l_in (k := k) (j := 1) (by omega) (by omega)) ?_
  refine l_aload_n h0 137 dL_law_136 rfl rfl ?_
  refine l_iload_n h0 138 dL_law_137 rfl rfl ?_
  refine l_iconst h0 139 2 dL_law_138 rfl (by decide) ?_
  refine l_iadd h0 140 dL_law_139 rfl ?_
  refine l_sld h0 141 dL_law_140 rfl (l_in (k := k) (j := 2) (by omega) (by omega)) ?_
  refine l_Vi h0 144 122 [_, _] [_] dL_law_141 rfl m_X8_camp l_L_17 (by decide) rfl rfl hc2 rfl rfl (Nat.le_of_ble_eq_true rfl) hd2 (fun v2 μ2 ρ2 hc9 => ?_)
  obtain ⟨ev, b2, rfl, hS2⟩ := hc9
  refine l_icmp_eq h0 637 147 dL_law_144 rfl (by decide) (fun h9 => ?_) (fun h9 => ?_)
  · exact nx b2 μ2 hS2
  · exact absurd ev h9
set_option maxRecDepth 100000 in
set_option maxHeartbeats 4000000 in
theorem w_hour (h0 : q_LX C p s m meth c9 b L xs) (hL : L ≤ 3072) {k : Nat} (hk : k + 6 ≤ L) {bb : Bool} {μ : q_M} (hS : q_Sim bb μ) (nx : ∀ bb μ, q_Sim bb μ → q_L C p l e s m below meth c9 b 142 μ (q_ρ bb) (q_lv C b k) [] 637) : q_L C p l e s m below meth c9 b 142 μ (q_ρ bb) (q_lv C b k) [] 149 := by
  obtain ⟨d1, K, hd1, hc1, hk2⟩ := a_hour (C := C) (l := l) hS (xs (nI k + 1).toNatClampNeg) (xs (nI k + 2).toNatClampNeg)
  refine l_aload_n h0 150 dL_law_149 rfl rfl ?_
  refine l_aload_n h0 151 dL_law_150 rfl rfl ?_
  refine l_iload_n h0 152 dL_law_151 rfl rfl ?_
  refine l_iconst h0 153 1 dL_law_152 rfl (by decide) ?_
  refine l_iadd h0 154 dL_law_153 rfl ?_
  refine l_sld h0 155 dL_law_154 rfl (l_in (k := k) (j := 1) (by omega) (by omega)) ?_
  refine l_aload_n h0 156 dL_law_155 rfl rfl ?_
  refine l_iload_n h0 157 dL_law_156 rfl rfl ?_
  refine l_iconst h0 158 2 dL_law_157 rfl (by decide) ?_
  refine l_iadd h0 159 dL_law_158 rfl ?_
  refine l_sld h0 160 dL_law_159 rfl (l_in (k := k) (j := 2) (by omega) (by omega)) ?_
  refine l_Vi h0 163 0 [_, _] [] dL_law_160 rfl m_X7_hour l_L_18 (by decide) rfl rfl hc1 rfl rfl (Nat.le_of_ble_eq_true rfl) hd1 (fun v1 μ1 ρ1 hc9 => ?_)
  obtain ⟨b1, rfl, hK⟩ := hc9
  obtain ⟨d2, hd2, hc2⟩ := hk2 _ _ _ hK
  refine l_aload_n h0 164 dL_law_163 rfl rfl ?_
  refine l_aload_n h0 165 dL_law_164 rfl rfl ?_
  refine l_iload_n h0 166 dL_law_165 rfl rfl ?_
  refine l_iconst h0 167 1 dL_law_166 rfl (by decide) ?_
  refine l_iadd h0 168 dL_law_167 rfl ?_
  refine l_sld h0 169 dL_law_168 rfl (l_in (k := k) (j := 1) (by omega) (by omega)) ?_
  refine l_aload_n h0 170 dL_law_169 rfl rfl ?_
  refine l_iload_n h0 171 dL_law_170 rfl rfl ?_
  refine l_iconst h0 172 2 dL_law_171 rfl (by decide) ?_
  refine l_iadd h0 173 dL_law_172 rfl ?_
  refine l_sld h0 174 dL_law_173 rfl (l_in (k := k) (j := 2) (by omega) (by omega)) ?_
  refine l_Vi h0 177 122 [_, _] [_] dL_law_174 rfl m_X8_hour l_L_21 (by decide) rfl rfl hc2 rfl rfl (Nat.le_of_ble_eq_true rfl) hd2 (fun v2 μ2 ρ2 hc9 => ?_)
  obtain ⟨ev, b2, rfl, hS2⟩ := hc9
  refine l_icmp_eq h0 637 180 dL_law_177 rfl (by decide) (fun h9 => ?_) (fun h9 => ?_)
  · exact nx b2 μ2 hS2
  · exact absurd ev h9
set_option maxRecDepth 100000 in
set_option maxHeartbeats 4000000 in
theorem w_racer (h0 : q_LX C p s m meth c9 b L xs) (hL : L ≤ 3072) {k : Nat} (hk : k + 6 ≤ L) {bb : Bool} {μ : q_M} (hS : q_Sim bb μ) (nx : ∀ bb μ, q_Sim bb μ → q_L C p l e s m below meth c9 b 142 μ (q_ρ bb) (q_lv C b k) [] 637) : q_L C p l e s m below meth c9 b 142 μ (q_ρ bb) (q_lv C b k) [] 182 := by
  obtain ⟨d1, K, hd1, hc1, hk2⟩ := a_racer (C := C) (l := l) hS (xs (nI k + 1).toNatClampNeg)
  refine l_aload_n h0 183 dL_law_182 rfl rfl ?_
  refine l_aload_n h0 184 dL_law_183 rfl rfl ?_
  refine l_iload_n h0 185 dL_law_184 rfl rfl ?_
  refine l_iconst h0 186 1 dL_law_185 rfl (by decide) ?_
  refine l_iadd h0 187 dL_law_186 rfl ?_
  refine l_sld h0 188 dL_law_187 rfl (l_in (k := k) (j := 1) (by omega) (by omega)) ?_
  refine l_Vi h0 191 0 [_] [] dL_law_188 rfl m_X7_racer l_L_22 (by decide) rfl rfl hc1 rfl rfl (Nat.le_of_ble_eq_true rfl) hd1 (fun v1 μ1 ρ1 hc9 => ?_)
  obtain ⟨b1, rfl, hK⟩ := hc9
  obtain ⟨d2, hd2, hc2⟩ := hk2 _ _ _ hK
  refine l_aload_n h0 192 dL_law_191 rfl rfl ?_
  refine l_aload_n h0 193 dL_law_192 rfl rfl ?_
  refine l_iload_n h0 194 dL_law_193 rfl rfl ?_
  refine l_iconst h0 195 1 dL_law_194 rfl (by decide) ?_
  refine l_iadd h0 196 dL_law_195 rfl ?_
  refine l_sld h0 197 dL_law_196 rfl (l_in (k := k) (j := 1) (by omega) (by omega)) ?_
  refine l_Vi h0 200 122 [_] [_] dL_law_197 rfl m_X8_racer l_L_26 (by decide) rfl rfl hc2 rfl rfl (Nat.le_of_ble_eq_true rfl) hd2 (fun v2 μ2 ρ2 hc9 => ?_)
  obtain ⟨ev, b2, rfl, hS2⟩ := hc9
  refine l_icmp_eq h0 637 203 dL_law_200 rfl (by decide) (fun h9 => ?_) (fun h9 => ?_)
  · exact nx b2 μ2 hS2
  · exact absurd ev h9
set_option maxRecDepth 100000 in
set_option maxHeartbeats 4000000 in
theorem w_breaks (h0 : q_LX C p s m meth c9 b L xs) (hL : L ≤ 3072) {k : Nat} (hk : k + 6 ≤ L) {bb : Bool} {μ : q_M} (hS : q_Sim bb μ) (nx : ∀ bb μ, q_Sim bb μ → q_L C p l e s m below meth c9 b 142 μ (q_ρ bb) (q_lv C b k) [] 637) : q_L C p l e s m below meth c9 b 142 μ (q_ρ bb) (q_lv C b k) [] 205 := by
  obtain ⟨d1, K, hd1, hc1, hk2⟩ := a_breaks (C := C) (l := l) hS (xs (nI k + 1).toNatClampNeg) (xs (nI k + 2).toNatClampNeg) (xs (nI k + 3).toNatClampNeg)
  refine l_aload_n h0 206 dL_law_205 rfl rfl ?_
  refine l_aload_n h0 207 dL_law_206 rfl rfl ?_
  refine l_iload_n h0 208 dL_law_207 rfl rfl ?_
  refine l_iconst h0 209 1 dL_law_208 rfl (by decide) ?_
  refine l_iadd h0 210 dL_law_209 rfl ?_
  refine l_sld h0 211 dL_law_210 rfl (l_in (k := k) (j := 1) (by omega) (by omega)) ?_
  refine l_aload_n h0 212 dL_law_211 rfl rfl ?_
  refine l_iload_n h0 213 dL_law_212 rfl rfl ?_
  refine l_iconst h0 214 2 dL_law_213 rfl (by decide) ?_
  refine l_iadd h0 215 dL_law_214 rfl ?_
  refine l_sld h0 216 dL_law_215 rfl (l_in (k := k) (j := 2) (by omega) (by omega)) ?_
  refine l_aload_n h0 217 dL_law_216 rfl rfl ?_
  refine l_iload_n h0 218 dL_law_217 rfl rfl ?_
  refine l_iconst h0 219 3 dL_law_218 rfl (by decide) ?_
  refine l_iadd h0 220 dL_law_219 rfl ?_
  refine l_sld h0 221 dL_law_220 rfl (l_in (k := k) (j := 3) (by omega) (by omega)) ?_
  refine l_Vi h0 224 0 [_, _, _] [] dL_law_221 rfl m_X7_breaks l_L_27 (by decide) rfl rfl hc1 rfl rfl (Nat.le_of_ble_eq_true rfl) hd1 (fun v1 μ1 ρ1 hc9 => ?_)
  obtain ⟨b1, rfl, hK⟩ := hc9
  obtain ⟨d2, hd2, hc2⟩ := hk2 _ _ _ hK
  refine l_aload_n h0 225 dL_law_224 rfl rfl ?_
  refine l_aload_n h0 226 dL_law_225 rfl rfl ?_
  refine l_iload_n h0 227 dL_law_226 rfl rfl ?_
  refine l_iconst h0 228 1 dL_law_227 rfl (by decide) ?_
  refine l_iadd h0 229 dL_law_228 rfl ?_
  refine l_sld h0 230 dL_law_229 rfl (l_in (k := k) (j := 1) (by omega) (by omega)) ?_
  refine l_aload_n h0 231 dL_law_230 rfl rfl ?_
  refine l_iload_n h0 232 dL_law_231 rfl rfl ?_
  refine l_iconst h0 233 2 dL_law_232 rfl (by decide) ?_
  refine l_iadd h0 234 dL_law_233 rfl ?_
  refine l_sld h0 235 dL_law_234 rfl (l_in (k := k) (j := 2) (by omega) (by omega)) ?_
  refine l_aload_n h0 236 dL_law_235 rfl rfl ?_
  refine l_iload_n h0 237 dL_law_236 rfl rfl ?_
  refine l_iconst h0 238 3 dL_law_237 rfl (by decide) ?_
  refine l_iadd h0 239 dL_law_238 rfl ?_
  refine l_sld h0 240 dL_law_239 rfl (l_in (k := k) (j := 3) (by omega) (by omega)) ?_
  refine l_Vi h0 243 122 [_, _, _] [_] dL_law_240 rfl m_X8_breaks l_L_31 (by decide) rfl rfl hc2 rfl rfl (Nat.le_of_ble_eq_true rfl) hd2 (fun v2 μ2 ρ2 hc9 => ?_)
  obtain ⟨ev, b2, rfl, hS2⟩ := hc9
  refine l_icmp_eq h0 637 246 dL_law_243 rfl (by decide) (fun h9 => ?_) (fun h9 => ?_)
  · exact nx b2 μ2 hS2
  · exact absurd ev h9
set_option maxRecDepth 100000 in
set_option maxHeartbeats 4000000 in
theorem w_set (h0 : q_LX C p s m meth c9 b L xs) (hL : L ≤ 3072) {k : Nat} (hk : k + 6 ≤ L) {bb : Bool} {μ : q_M} (hS : q_Sim bb μ) (nx : ∀ bb μ, q_Sim bb μ → q_L C p l e s m below meth c9 b 142 μ (q_ρ bb) (q_lv C b k) [] 637) : q_L C p l e s m below meth c9 b 142 μ (q_ρ bb) (q_lv C b k) [] 248 := by
  obtain ⟨d1, K, hd1, hc1, hk2⟩ := a_set (C := C) (l := l) hS (xs (nI k + 1).toNatClampNeg) (xs (nI k + 2).toNatClampNeg)
  refine l_aload_n h0 249 dL_law_248 rfl rfl ?_
  refine l_aload_n h0 250 dL_law_249 rfl rfl ?_
  refine l_iload_n h0 251 dL_law_250 rfl rfl ?_
  refine l_iconst h0 252 1 dL_law_251 rfl (by decide) ?_
  refine l_iadd h0 253 dL_law_252 rfl ?_
  refine l_sld h0 254 dL_law_253 rfl (l_in (k := k) (j := 1) (by omega) (by omega)) ?_
  refine l_aload_n h0 255 dL_law_254 rfl rfl ?_
  refine l_iload_n h0 256 dL_law_255 rfl rfl ?_
  refine l_iconst h0 257 2 dL_law_256 rfl (by decide) ?_
  refine l_iadd h0 258 dL_law_257 rfl ?_
  refine l_sld h0 259 dL_law_258 rfl (l_in (k := k) (j := 2) (by omega) (by omega)) ?_
  refine l_Vi h0 262 0 [_, _] [] dL_law_259 rfl m_X7_set l_L_32 (by decide) rfl rfl hc1 rfl rfl (Nat.le_of_ble_eq_true rfl) hd1 (fun v1 μ1 ρ1 hc9 => ?_)
  obtain ⟨b1, rfl, hK⟩ := hc9
  obtain ⟨d2, hd2, hc2⟩ := hk2 _ _ _ hK
  refine l_aload_n h0 263 dL_law_262 rfl rfl ?_
  refine l_aload_n h0 264 dL_law_263 rfl rfl ?_
  refine l_iload_n h0 265 dL_law_264 rfl rfl ?_
  refine l_iconst h0 266 1 dL_law_265 rfl (by decide) ?_
  refine l_iadd h0 267 dL_law_266 rfl ?_
  refine l_sld h0 268 dL_law_267 rfl (l_in (k := k) (j := 1) (by omega) (by omega)) ?_
  refine l_aload_n h0 269 dL_law_268 rfl rfl ?_
  refine l_iload_n h0 270 dL_law_269 rfl rfl ?_
  refine l_iconst h0 271 2 dL_law_270 rfl (by decide) ?_
  refine l_iadd h0 272 dL_law_271 rfl ?_
  refine l_sld h0 273 dL_law_272 rfl (l_in (k := k) (j := 2) (by omega) (by omega)) ?_
  refine l_Vi h0 276 122 [_, _] [_] dL_law_273 rfl m_X8_set l_L_35 (by decide) rfl rfl hc2 rfl rfl (Nat.le_of_ble_eq_true rfl) hd2 (fun v2 μ2 ρ2 hc9 => ?_)
  obtain ⟨ev, b2, rfl, hS2⟩ := hc9
  refine l_icmp_eq h0 637 279 dL_law_276 rfl (by decide) (fun h9 => ?_) (fun h9 => ?_)
  · exact nx b2 μ2 hS2
  · exact absurd ev h9
set_option maxRecDepth 100000 in
set_option maxHeartbeats 4000000 in
theorem w_feed (h0 : q_LX C p s m meth c9 b L xs) (hL : L ≤ 3072) {k : Nat} (hk : k + 6 ≤ L) {bb : Bool} {μ : q_M} (hS : q_Sim bb μ) (nx : ∀ bb μ, q_Sim bb μ → q_L C p l e s m below meth c9 b 142 μ (q_ρ bb) (q_lv C b k) [] 637) : q_L C p l e s m below meth c9 b 142 μ (q_ρ bb) (q_lv C b k) [] 281 := by
  obtain ⟨d1, K, hd1, hc1, hk2⟩ := a_feed (C := C) (l := l) hS (xs (nI k + 1).toNatClampNeg) (xs (nI k + 2).toNatClampNeg) (xs (nI k + 3).toNatClampNeg) (xs (nI k + 4).toNatClampNeg) (xs (nI k + 5).toNatClampNeg)
  refine l_aload_n h0 282 dL_law_281 rfl rfl ?_
  refine l_aload_n h0 283 dL_law_282 rfl rfl ?_
  refine l_iload_n h0 284 dL_law_283 rfl rfl ?_
  refine l_iconst h0 285 1 dL_law_284 rfl (by decide) ?_
  refine l_iadd h0 286 dL_law_285 rfl ?_
  refine l_sld h0 287 dL_law_286 rfl (l_in (k := k) (j := 1) (by omega) (by omega)) ?_
  refine l_aload_n h0 288 dL_law_287 rfl rfl ?_
  refine l_iload_n h0 289 dL_law_288 rfl rfl ?_
  refine l_iconst h0 290 2 dL_law_289 rfl (by decide) ?_
  refine l_iadd h0 291 dL_law_290 rfl ?_
  refine l_sld h0 292 dL_law_291 rfl (l_in (k := k) (j := 2) (by omega) (by omega)) ?_
  refine l_aload_n h0 293 dL_law_292 rfl rfl ?_
  refine l_iload_n h0 294 dL_law_293 rfl rfl ?_
  refine l_iconst h0 295 3 dL_law_294 rfl (by decide) ?_
  refine l_iadd h0 296 dL_law_295 rfl ?_
  refine l_sld h0 297 dL_law_296 rfl (l_in (k := k) (j := 3) (by omega) (by omega)) ?_
  refine l_aload_n h0 298 dL_law_297 rfl rfl ?_
  refine l_iload_n h0 299 dL_law_298 rfl rfl ?_
  refine l_iconst h0 300 4 dL_law_299 rfl (by decide) ?_
  refine l_iadd h0 301 dL_law_300 rfl ?_
  refine l_sld h0 302 dL_law_301 rfl (l_in (k := k) (j := 4) (by omega) (by omega)) ?_
  refine l_aload_n h0 303 dL_law_302 rfl rfl ?_
  refine l_iload_n h0 304 dL_law_303 rfl rfl ?_
  refine l_iconst h0 305 5 dL_law_304 rfl (by decide) ?_
  refine l_iadd h0 306 dL_law_305 rfl ?_
  refine l_sld h0 307 dL_law_306 rfl (l_in (k := k) (j := 5) (by omega) (by omega)) ?_
  refine l_Vi h0 310 0 [_, _, _, _, _] [] dL_law_307 rfl m_X7_feed l_L_36 (by decide) rfl rfl hc1 rfl rfl (Nat.le_of_ble_eq_true rfl) hd1 (fun v1 μ1 ρ1 hc9 => ?_)
  obtain ⟨b1, rfl, hK⟩ := hc9
  obtain ⟨d2, hd2, hc2⟩ := hk2 _ _ _ hK
  refine l_aload_n h0 311 dL_law_310 rfl rfl ?_
  refine l_aload_n h0 312 dL_law_311 rfl rfl ?_
  refine l_iload_n h0 313 dL_law_312 rfl rfl ?_
  refine l_iconst h0 314 1 dL_law_313 rfl (by decide) ?_
  refine l_iadd h0 315 dL_law_314 rfl ?_
  refine l_sld h0 316 dL_law_315 rfl (l_in (k := k) (j := 1) (by omega) (by omega)) ?_
  refine l_aload_n h0 317 dL_law_316 rfl rfl ?_
  refine l_iload_n h0 318 dL_law_317 rfl rfl ?_
  refine l_iconst h0 319 2 dL_law_318 rfl (by decide) ?_
  refine l_iadd h0 320 dL_law_319 rfl ?_
  refine l_sld h0 321 dL_law_320 rfl (l_in (k := k) (j := 2) (by omega) (by omega)) ?_
  refine l_aload_n h0 322 dL_law_321 rfl rfl ?_
  refine l_iload_n h0 323 dL_law_322 rfl rfl ?_
  refine l_iconst h0 324 3 dL_law_323 rfl (by decide) ?_
  refine l_iadd h0 325 dL_law_324 rfl ?_
  refine l_sld h0 326 dL_law_325 rfl (l_in (k := k) (j := 3) (by omega) (by omega)) ?_
  refine l_aload_n h0 327 dL_law_326 rfl rfl ?_
  refine l_iload_n h0 328 dL_law_327 rfl rfl ?_
  refine l_iconst h0 329 4 dL_law_328 rfl (by decide) ?_
  refine l_iadd h0 330 dL_law_329 rfl ?_
  refine l_sld h0 331 dL_law_330 rfl (l_in (k := k) (j := 4) (by omega) (by omega)) ?_
  refine l_aload_n h0 332 dL_law_331 rfl rfl ?_
  refine l_iload_n h0 333 dL_law_332 rfl rfl ?_
  refine l_iconst h0 334 5 dL_law_333 rfl (by decide) ?_
  refine l_iadd h0 335 dL_law_334 rfl ?_
  refine l_sld h0 336 dL_law_335 rfl (l_in (k := k) (j := 5) (by omega) (by omega)) ?_
  refine l_Vi h0 339 122 [_, _, _, _, _] [_] dL_law_336 rfl m_X8_feed l_L_40 (by decide) rfl rfl hc2 rfl rfl (Nat.le_of_ble_eq_true rfl) hd2 (fun v2 μ2 ρ2 hc9 => ?_)
  obtain ⟨ev, b2, rfl, hS2⟩ := hc9
  refine l_icmp_eq h0 637 342 dL_law_339 rfl (by decide) (fun h9 => ?_) (fun h9 => ?_)
  · exact nx b2 μ2 hS2
  · exact absurd ev h9
set_option maxRecDepth 100000 in
set_option maxHeartbeats 4000000 in
theorem w_end (h0 : q_LX C p s m meth c9 b L xs) (hL : L ≤ 3072) {k : Nat} (hk : k + 6 ≤ L) {bb : Bool} {μ : q_M} (hS : q_Sim bb μ) (nx : ∀ bb μ, q_Sim bb μ → q_L C p l e s m below meth c9 b 142 μ (q_ρ bb) (q_lv C b k) [] 637) : q_L C p l e s m below meth c9 b 142 μ (q_ρ bb) (q_lv C b k) [] 344 := by
  obtain ⟨d1, K, hd1, hc1, hk2⟩ := a_end (C := C) (l := l) hS (xs (nI k + 1).toNatClampNeg)
  refine l_aload_n h0 345 dL_law_344 rfl rfl ?_
  refine l_aload_n h0 346 dL_law_345 rfl rfl ?_
  refine l_iload_n h0 347 dL_law_346 rfl rfl ?_
  refine l_iconst h0 348 1 dL_law_347 rfl (by decide) ?_
  refine l_iadd h0 349 dL_law_348 rfl ?_
  refine l_sld h0 350 dL_law_349 rfl (l_in (k := k) (j := 1) (by omega) (by omega)) ?_
  refine l_Vi h0 353 0 [_] [] dL_law_350 rfl m_X7_end l_L_41 (by decide) rfl rfl hc1 rfl rfl (Nat.le_of_ble_eq_true rfl) hd1 (fun v1 μ1 ρ1 hc9 => ?_)
  obtain ⟨b1, rfl, hK⟩ := hc9
  obtain ⟨d2, hd2, hc2⟩ := hk2 _ _ _ hK
  refine l_aload_n h0 354 dL_law_353 rfl rfl ?_
  refine l_aload_n h0 355 dL_law_354 rfl rfl ?_
  refine l_iload_n h0 356 dL_law_355 rfl rfl ?_
  refine l_iconst h0 357 1 dL_law_356 rfl (by decide) ?_
  refine l_iadd h0 358 dL_law_357 rfl ?_
  refine l_sld h0 359 dL_law_358 rfl (l_in (k := k) (j := 1) (by omega) (by omega)) ?_
  refine l_Vi h0 362 122 [_] [_] dL_law_359 rfl m_X8_end l_L_45 (by decide) rfl rfl hc2 rfl rfl (Nat.le_of_ble_eq_true rfl) hd2 (fun v2 μ2 ρ2 hc9 => ?_)
  obtain ⟨ev, b2, rfl, hS2⟩ := hc9
  refine l_icmp_eq h0 637 365 dL_law_362 rfl (by decide) (fun h9 => ?_) (fun h9 => ?_)
  · exact nx b2 μ2 hS2
  · exact absurd ev h9
set_option maxRecDepth 100000 in
set_option maxHeartbeats 4000000 in
theorem w_book (h0 : q_LX C p s m meth c9 b L xs) (hL : L ≤ 3072) {k : Nat} (hk : k + 6 ≤ L) {bb : Bool} {μ : q_M} (hS : q_Sim bb μ) (nx : ∀ bb μ, q_Sim bb μ → q_L C p l e s m below meth c9 b 142 μ (q_ρ bb) (q_lv C b k) [] 637) : q_L C p l e s m below meth c9 b 142 μ (q_ρ bb) (q_lv C b k) [] 367 := by
  obtain ⟨d1, K, hd1, hc1, hk2⟩ := a_book (C := C) (l := l) hS 
  refine l_aload_n h0 368 dL_law_367 rfl rfl ?_
  refine l_Vi h0 371 0 [] [] dL_law_368 rfl m_X7_book l_L_46 (by decide) rfl rfl hc1 rfl rfl (Nat.le_of_ble_eq_true rfl) hd1 (fun v1 μ1 ρ1 hc9 => ?_)
  obtain ⟨b1, rfl, hK⟩ := hc9
  obtain ⟨d2, hd2, hc2⟩ := hk2 _ _ _ hK
  refine l_aload_n h0 372 dL_law_371 rfl rfl ?_
  refine l_Vi h0 375 122 [] [_] dL_law_372 rfl m_X8_book l_L_50 (by decide) rfl rfl hc2 rfl rfl (Nat.le_of_ble_eq_true rfl) hd2 (fun v2 μ2 ρ2 hc9 => ?_)
  obtain ⟨ev, b2, rfl, hS2⟩ := hc9
  refine l_icmp_eq h0 637 378 dL_law_375 rfl (by decide) (fun h9 => ?_) (fun h9 => ?_)
  · exact nx b2 μ2 hS2
  · exact absurd ev h9
set_option maxRecDepth 100000 in
set_option maxHeartbeats 4000000 in
theorem w_fault (h0 : q_LX C p s m meth c9 b L xs) (hL : L ≤ 3072) {k : Nat} (hk : k + 6 ≤ L) {bb : Bool} {μ : q_M} (hS : q_Sim bb μ) (nx : ∀ bb μ, q_Sim bb μ → q_L C p l e s m below meth c9 b 142 μ (q_ρ bb) (q_lv C b k) [] 637) : q_L C p l e s m below meth c9 b 142 μ (q_ρ bb) (q_lv C b k) [] 380 := by
  obtain ⟨d1, K, hd1, hc1, hk2⟩ := a_fault (C := C) (l := l) hS (xs (nI k + 1).toNatClampNeg)
  refine l_aload_n h0 381 dL_law_380 rfl rfl ?_
  refine l_aload_n h0 382 dL_law_381 rfl rfl ?_
  refine l_iload_n h0 383 dL_law_382 rfl rfl ?_
  refine l_iconst h0 384 1 dL_law_383 rfl (by decide) ?_
  refine l_iadd h0 385 dL_law_384 rfl ?_
  refine l_sld h0 386 dL_law_385 rfl (l_in (k := k) (j := 1) (by omega) (by omega)) ?_
  refine l_Vi h0 389 0 [_] [] dL_law_386 rfl m_X7_fault l_L_51 (by decide) rfl rfl hc1 rfl rfl (Nat.le_of_ble_eq_true rfl) hd1 (fun v1 μ1 ρ1 hc9 => ?_)
  obtain ⟨b1, rfl, hK⟩ := hc9
  obtain ⟨d2, hd2, hc2⟩ := hk2 _ _ _ hK
  refine l_aload_n h0 390 dL_law_389 rfl rfl ?_
  refine l_aload_n h0 391 dL_law_390 rfl rfl ?_
  refine l_iload_n h0 392 dL_law_391 rfl rfl ?_
  refine l_iconst h0 393 1 dL_law_392 rfl (by decide) ?_
  refine l_iadd h0 394 dL_law_393 rfl ?_
  refine l_sld h0 395 dL_law_394 rfl (l_in (k := k) (j := 1) (by omega) (by omega)) ?_
  refine l_Vi h0 398 122 [_] [_] dL_law_395 rfl m_X8_fault l_L_54 (by decide) rfl rfl hc2 rfl rfl (Nat.le_of_ble_eq_true rfl) hd2 (fun v2 μ2 ρ2 hc9 => ?_)
  obtain ⟨ev, b2, rfl, hS2⟩ := hc9
  refine l_icmp_eq h0 637 401 dL_law_398 rfl (by decide) (fun h9 => ?_) (fun h9 => ?_)
  · exact nx b2 μ2 hS2
  · exact absurd ev h9
set_option maxRecDepth 100000 in
set_option maxHeartbeats 4000000 in
theorem w_look (h0 : q_LX C p s m meth c9 b L xs) (hL : L ≤ 3072) {k : Nat} (hk : k + 6 ≤ L) {bb : Bool} {μ : q_M} (hS : q_Sim bb μ) (nx : ∀ bb μ, q_Sim bb μ → q_L C p l e s m below meth c9 b 142 μ (q_ρ bb) (q_lv C b k) [] 637) : q_L C p l e s m below meth c9 b 142 μ (q_ρ bb) (q_lv C b k) [] 403 := by
  obtain ⟨d1, K, hd1, hc1, hk2⟩ := a_look (C := C) (l := l) hS (xs (nI k + 1).toNatClampNeg)
  refine l_aload_n h0 404 dL_law_403 rfl rfl ?_
  refine l_aload_n h0 405 dL_law_404 rfl rfl ?_
  refine l_iload_n h0 406 dL_law_405 rfl rfl ?_
  refine l_iconst h0 407 1 dL_law_406 rfl (by decide) ?_
  refine l_iadd h0 408 dL_law_407 rfl ?_
  refine l_sld h0 409 dL_law_408 rfl (l_in (k := k) (j := 1) (by omega) (by omega)) ?_
  refine l_Vi h0 412 0 [_] [] dL_law_409 rfl m_X7_look l_L_55 (by decide) rfl rfl hc1 rfl rfl (Nat.le_of_ble_eq_true rfl) hd1 (fun v1 μ1 ρ1 hc9 => ?_)
  obtain ⟨b1, rfl, hK⟩ := hc9
  obtain ⟨d2, hd2, hc2⟩ := hk2 _ _ _ hK
  refine l_aload_n h0 413 dL_law_412 rfl rfl ?_
  refine l_aload_n h0 414 dL_law_413 rfl rfl ?_
  refine l_iload_n h0 415 dL_law_414 rfl rfl ?_
  refine l_iconst h0 416 1 dL_law_415 rfl (by decide) ?_
  refine l_iadd h0 417 dL_law_416 rfl ?_
  refine l_sld h0 418 dL_law_417 rfl (l_in (k := k) (j := 1) (by omega) (by omega)) ?_
  refine l_Vi h0 421 122 [_] [_] dL_law_418 rfl m_X8_look l_L_58 (by decide) rfl rfl hc2 rfl rfl (Nat.le_of_ble_eq_true rfl) hd2 (fun v2 μ2 ρ2 hc9 => ?_)
  obtain ⟨ev, b2, rfl, hS2⟩ := hc9
  refine l_icmp_eq h0 637 424 dL_law_421 rfl (by decide) (fun h9 => ?_) (fun h9 => ?_)
  · exact nx b2 μ2 hS2
  · exact absurd ev h9
set_option maxRecDepth 100000 in
set_option maxHeartbeats 4000000 in
theorem w_time (h0 : q_LX C p s m meth c9 b L xs) (hL : L ≤ 3072) {k : Nat} (hk : k + 6 ≤ L) {bb : Bool} {μ : q_M} (hS : q_Sim bb μ) (nx : ∀ bb μ, q_Sim bb μ → q_L C p l e s m below meth c9 b 142 μ (q_ρ bb) (q_lv C b k) [] 637) : q_L C p l e s m below meth c9 b 142 μ (q_ρ bb) (q_lv C b k) [] 426 := by
  obtain ⟨d1, K, hd1, hc1, hk2⟩ := a_time (C := C) (l := l) hS (xs (nI k + 1).toNatClampNeg) (xs (nI k + 2).toNatClampNeg)
  refine l_aload_n h0 427 dL_law_426 rfl rfl ?_
  refine l_aload_n h0 428 dL_law_427 rfl rfl ?_
  refine l_iload_n h0 429 dL_law_428 rfl rfl ?_
  refine l_iconst h0 430 1 dL_law_429 rfl (by decide) ?_
  refine l_iadd h0 431 dL_law_430 rfl ?_
  refine l_sld h0 432 dL_law_431 rfl (l_in (k := k) (j := 1) (by omega) (by omega)) ?_
  refine l_aload_n h0 433 dL_law_432 rfl rfl ?_
  refine l_iload_n h0 434 dL_law_433 rfl rfl ?_
  refine l_iconst h0 435 2 dL_law_434 rfl (by decide) ?_
  refine l_iadd h0 436 dL_law_435 rfl ?_
  refine l_sld h0 437 dL_law_436 rfl (l_in (k := k) (j := 2) (by omega) (by omega)) ?_
  refine l_Vi h0 440 0 [_, _] [] dL_law_437 rfl m_X7_time l_L_59 (by decide) rfl rfl hc1 rfl rfl (Nat.le_of_ble_eq_true rfl) hd1 (fun v1 μ1 ρ1 hc9 => ?_)
  obtain ⟨b1, rfl, hK⟩ := hc9
  obtain ⟨d2, hd2, hc2⟩ := hk2 _ _ _ hK
  refine l_aload_n h0 441 dL_law_440 rfl rfl ?_
  refine l_aload_n h0 442 dL_law_441 rfl rfl ?_
  refine l_iload_n h0 443 dL_law_442 rfl rfl ?_
  refine l_iconst h0 444 1 dL_law_443 rfl (by decide) ?_
  refine l_iadd h0 445 dL_law_444 rfl ?_
  refine l_sld h0 446 dL_law_445 rfl (l_in (k := k) (j := 1) (by omega) (by omega)) ?_
  refine l_aload_n h0 447 dL_law_446 rfl rfl ?_
  refine l_iload_n h0 448 dL_law_447 rfl rfl ?_
  refine l_iconst h0 449 2 dL_law_448 rfl (by decide) ?_
  refine l_iadd h0 450 dL_law_449 rfl ?_
  refine l_sld h0 451 dL_law_450 rfl (l_in (k := k) (j := 2) (by omega) (by omega)) ?_
  refine l_Vi h0 454 122 [_, _] [_] dL_law_451 rfl m_X8_time l_L_63 (by decide) rfl rfl hc2 rfl rfl (Nat.le_of_ble_eq_true rfl) hd2 (fun v2 μ2 ρ2 hc9 => ?_)
  obtain ⟨ev, b2, rfl, hS2⟩ := hc9
  refine l_icmp_eq h0 637 457 dL_law_454 rfl (by decide) (fun h9 => ?_) (fun h9 => ?_)
  · exact nx b2 μ2 hS2
  · exact absurd ev h9
set_option maxRecDepth 100000 in
set_option maxHeartbeats 4000000 in
theorem w_ran (h0 : q_LX C p s m meth c9 b L xs) (hL : L ≤ 3072) {k : Nat} (hk : k + 6 ≤ L) {bb : Bool} {μ : q_M} (hS : q_Sim bb μ) (nx : ∀ bb μ, q_Sim bb μ → q_L C p l e s m below meth c9 b 142 μ (q_ρ bb) (q_lv C b k) [] 637) : q_L C p l e s m below meth c9 b 142 μ (q_ρ bb) (q_lv C b k) [] 459 := by
  obtain ⟨d1, K, hd1, hc1, hk2⟩ := a_ran (C := C) (l := l) hS (xs (nI k + 1).toNatClampNeg) (xs (nI k + 2).toNatClampNeg) (xs (nI k + 3).toNatClampNeg)
  refine l_aload_n h0 460 dL_law_459 rfl rfl ?_
  refine l_aload_n h0 461 dL_law_460 rfl rfl ?_
  refine l_iload_n h0 462 dL_law_461 rfl rfl ?_
  refine l_iconst h0 463 1 dL_law_462 rfl (by decide) ?_
  refine l_iadd h0 464 dL_law_463 rfl ?_
  refine l_sld h0 465 dL_law_464 rfl (l_in (k := k) (j := 1) (by omega) (by omega)) ?_
  refine l_aload_n h0 466 dL_law_465 rfl rfl ?_
  refine l_iload_n h0 467 dL_law_466 rfl rfl ?_
  refine l_iconst h0 468 2 dL_law_467 rfl (by decide) ?_
  refine l_iadd h0 469 dL_law_468 rfl ?_
  refine l_sld h0 470 dL_law_469 rfl (l_in (k := k) (j := 2) (by omega) (by omega)) ?_
  refine l_aload_n h0 471 dL_law_470 rfl rfl ?_
  refine l_iload_n h0 472 dL_law_471 rfl rfl ?_
  refine l_iconst h0 473 3 dL_law_472 rfl (by decide) ?_
  refine l_iadd h0 474 dL_law_473 rfl ?_
  refine l_sld h0 475 dL_law_474 rfl (l_in (k := k) (j := 3) (by omega) (by omega)) ?_
  refine l_Vi h0 478 0 [_, _, _] [] dL_law_475 rfl m_X7_ran l_L_64 (by decide) rfl rfl hc1 rfl rfl (Nat.le_of_ble_eq_true rfl) hd1 (fun v1 μ1 ρ1 hc9 => ?_)
  obtain ⟨b1, rfl, hK⟩ := hc9
  obtain ⟨d2, hd2, hc2⟩ := hk2 _ _ _ hK
  refine l_aload_n h0 479 dL_law_478 rfl rfl ?_
  refine l_aload_n h0 480 dL_law_479 rfl rfl ?_
  refine l_iload_n h0 481 dL_law_480 rfl rfl ?_
  refine l_iconst h0 482 1 dL_law_481 rfl (by decide) ?_
  refine l_iadd h0 483 dL_law_482 rfl ?_
  refine l_sld h0 484 dL_law_483 rfl (l_in (k := k) (j := 1) (by omega) (by omega)) ?_
  refine l_aload_n h0 485 dL_law_484 rfl rfl ?_
  refine l_iload_n h0 486 dL_law_485 rfl rfl ?_
  refine l_iconst h0 487 2 dL_law_486 rfl (by decide) ?_
  refine l_iadd h0 488 dL_law_487 rfl ?_
  refine l_sld h0 489 dL_law_488 rfl (l_in (k := k) (j := 2) (by omega) (by omega)) ?_
  refine l_aload_n h0 490 dL_law_489 rfl rfl ?_
  refine l_iload_n h0 491 dL_law_490 rfl rfl ?_
  refine l_iconst h0 492 3 dL_law_491 rfl (by decide) ?_
  refine l_iadd h0 493 dL_law_492 rfl ?_
  refine l_sld h0 494 dL_law_493 rfl (l_in (k := k) (j := 3) (by omega) (by omega)) ?_
  refine l_Vi h0 497 122 [_, _, _] [_] dL_law_494 rfl m_X8_ran l_L_68 (by decide) rfl rfl hc2 rfl rfl (Nat.le_of_ble_eq_true rfl) hd2 (fun v2 μ2 ρ2 hc9 => ?_)
  obtain ⟨ev, b2, rfl, hS2⟩ := hc9
  refine l_icmp_eq h0 637 500 dL_law_497 rfl (by decide) (fun h9 => ?_) (fun h9 => ?_)
  · exact nx b2 μ2 hS2
  · exact absurd ev h9
set_option maxRecDepth 100000 in
set_option maxHeartbeats 4000000 in
theorem w_standing (h0 : q_LX C p s m meth c9 b L xs) (hL : L ≤ 3072) {k : Nat} (hk : k + 6 ≤ L) {bb : Bool} {μ : q_M} (hS : q_Sim bb μ) (nx : ∀ bb μ, q_Sim bb μ → q_L C p l e s m below meth c9 b 142 μ (q_ρ bb) (q_lv C b k) [] 637) : q_L C p l e s m below meth c9 b 142 μ (q_ρ bb) (q_lv C b k) [] 502 := by
  obtain ⟨d1, K, hd1, hc1, hk2⟩ := a_standing (C := C) (l := l) hS (xs (nI k + 1).toNatClampNeg) (xs (nI k + 2).toNatClampNeg)
  refine l_aload_n h0 503 dL_law_502 rfl rfl ?_
  refine l_aload_n h0 504 dL_law_503 rfl rfl ?_
  refine l_iload_n h0 505 dL_law_504 rfl rfl ?_
  refine l_iconst h0 506 1 dL_law_505 rfl (by decide) ?_
  refine l_iadd h0 507 dL_law_506 rfl ?_
  refine l_sld h0 508 dL_law_507 rfl (l_in (k := k) (j := 1) (by omega) (by omega)) ?_
  refine l_aload_n h0 509 dL_law_508 rfl rfl ?_
  refine l_iload_n h0 510 dL_law_509 rfl rfl ?_
  refine l_iconst h0 511 2 dL_law_510 rfl (by decide) ?_
  refine l_iadd h0 512 dL_law_511 rfl ?_
  refine l_sld h0 513 dL_law_512 rfl (l_in (k := k) (j := 2) (by omega) (by omega)) ?_
  refine l_Vi h0 516 0 [_, _] [] dL_law_513 rfl m_X7_standing l_L_69 (by decide) rfl rfl hc1 rfl rfl (Nat.le_of_ble_eq_true rfl) hd1 (fun v1 μ1 ρ1 hc9 => ?_)
  obtain ⟨b1, rfl, hK⟩ := hc9
  obtain ⟨d2, hd2, hc2⟩ := hk2 _ _ _ hK
  refine l_aload_n h0 517 dL_law_516 rfl rfl ?_
  refine l_aload_n h0 518 dL_law_517 rfl rfl ?_
  refine l_iload_n h0 519 dL_law_518 rfl rfl ?_
  refine l_iconst h0 520 1 dL_law_519 rfl (by decide) ?_
  refine l_iadd h0 521 dL_law_520 rfl ?_
  refine l_sld h0 522 dL_law_521 rfl (l_in (k := k) (j := 1) (by omega) (by omega)) ?_
  refine l_aload_n h0 523 dL_law_522 rfl rfl ?_
  refine l_iload_n h0 524 dL_law_523 rfl rfl ?_
  refine l_iconst h0 525 2 dL_law_524 rfl (by decide) ?_
  refine l_iadd h0 526 dL_law_525 rfl ?_
  refine l_sld h0 527 dL_law_526 rfl (l_in (k := k) (j := 2) (by omega) (by omega)) ?_
  refine l_Vi h0 530 122 [_, _] [_] dL_law_527 rfl m_X8_standing l_L_72 (by decide) rfl rfl hc2 rfl rfl (Nat.le_of_ble_eq_true rfl) hd2 (fun v2 μ2 ρ2 hc9 => ?_)
  obtain ⟨ev, b2, rfl, hS2⟩ := hc9
  refine l_icmp_eq h0 637 533 dL_law_530 rfl (by decide) (fun h9 => ?_) (fun h9 => ?_)
  · exact nx b2 μ2 hS2
  · exact absurd ev h9
set_option maxRecDepth 100000 in
set_option maxHeartbeats 4000000 in
theorem w_of (h0 : q_LX C p s m meth c9 b L xs) (hL : L ≤ 3072) {k : Nat} (hk : k + 6 ≤ L) {bb : Bool} {μ : q_M} (hS : q_Sim bb μ) (nx : ∀ bb μ, q_Sim bb μ → q_L C p l e s m below meth c9 b 142 μ (q_ρ bb) (q_lv C b k) [] 637) : q_L C p l e s m below meth c9 b 142 μ (q_ρ bb) (q_lv C b k) [] 535 := by
  obtain ⟨d1, K, hd1, hc1, hk2⟩ := a_of (C := C) (l := l) hS (xs (nI k + 1).toNatClampNeg) (xs (nI k + 2).toNatClampNeg)
  refine l_aload_n h0 536 dL_law_535 rfl rfl ?_
  refine l_aload_n h0 537 dL_law_536 rfl rfl ?_
  refine l_iload_n h0 538 dL_law_537 rfl rfl ?_
  refine l_iconst h0 539 1 dL_law_538 rfl (by decide) ?_
  refine l_iadd h0 540 dL_law_539 rfl ?_
  refine l_sld h0 541 dL_law_540 rfl (l_in (k := k) (j := 1) (by omega) (by omega)) ?_
  refine l_aload_n h0 542 dL_law_541 rfl rfl ?_
  refine l_iload_n h0 543 dL_law_542 rfl rfl ?_
  refine l_iconst h0 544 2 dL_law_543 rfl (by decide) ?_
  refine l_iadd h0 545 dL_law_544 rfl ?_
  refine l_sld h0 546 dL_law_545 rfl (l_in (k := k) (j := 2) (by omega) (by omega)) ?_
  refine l_Vi h0 549 0 [_, _] [] dL_law_546 rfl m_X7_of l_L_73 (by decide) rfl rfl hc1 rfl rfl (Nat.le_of_ble_eq_true rfl) hd1 (fun v1 μ1 ρ1 hc9 => ?_)
  obtain ⟨b1, rfl, hK⟩ := hc9
  obtain ⟨d2, hd2, hc2⟩ := hk2 _ _ _ hK
  refine l_aload_n h0 550 dL_law_549 rfl rfl ?_
  refine l_aload_n h0 551 dL_law_550 rfl rfl ?_
  refine l_iload_n h0 552 dL_law_551 rfl rfl ?_
  refine l_iconst h0 553 1 dL_law_552 rfl (by decide) ?_
  refine l_iadd h0 554 dL_law_553 rfl ?_
  refine l_sld h0 555 dL_law_554 rfl (l_in (k := k) (j := 1) (by omega) (by omega)) ?_
  refine l_aload_n h0 556 dL_law_555 rfl rfl ?_
  refine l_iload_n h0 557 dL_law_556 rfl rfl ?_
  refine l_iconst h0 558 2 dL_law_557 rfl (by decide) ?_
  refine l_iadd h0 559 dL_law_558 rfl ?_
  refine l_sld h0 560 dL_law_559 rfl (l_in (k := k) (j := 2) (by omega) (by omega)) ?_
  refine l_Vi h0 563 122 [_, _] [_] dL_law_560 rfl m_X8_of l_L_76 (by decide) rfl rfl hc2 rfl rfl (Nat.le_of_ble_eq_true rfl) hd2 (fun v2 μ2 ρ2 hc9 => ?_)
  obtain ⟨ev, b2, rfl, hS2⟩ := hc9
  refine l_icmp_eq h0 637 566 dL_law_563 rfl (by decide) (fun h9 => ?_) (fun h9 => ?_)
  · exact nx b2 μ2 hS2
  · exact absurd ev h9
set_option maxRecDepth 100000 in
set_option maxHeartbeats 4000000 in
theorem w_sets (h0 : q_LX C p s m meth c9 b L xs) (hL : L ≤ 3072) {k : Nat} (hk : k + 6 ≤ L) {bb : Bool} {μ : q_M} (hS : q_Sim bb μ) (nx : ∀ bb μ, q_Sim bb μ → q_L C p l e s m below meth c9 b 142 μ (q_ρ bb) (q_lv C b k) [] 637) : q_L C p l e s m below meth c9 b 142 μ (q_ρ bb) (q_lv C b k) [] 568 := by
  obtain ⟨d1, K, hd1, hc1, hk2⟩ := a_sets (C := C) (l := l) hS 
  refine l_aload_n h0 569 dL_law_568 rfl rfl ?_
  refine l_Vi h0 572 0 [] [] dL_law_569 rfl m_X7_sets l_L_77 (by decide) rfl rfl hc1 rfl rfl (Nat.le_of_ble_eq_true rfl) hd1 (fun v1 μ1 ρ1 hc9 => ?_)
  obtain ⟨b1, rfl, hK⟩ := hc9
  obtain ⟨d2, hd2, hc2⟩ := hk2 _ _ _ hK
  refine l_aload_n h0 573 dL_law_572 rfl rfl ?_
  refine l_Vi h0 576 122 [] [_] dL_law_573 rfl m_X8_sets l_L_80 (by decide) rfl rfl hc2 rfl rfl (Nat.le_of_ble_eq_true rfl) hd2 (fun v2 μ2 ρ2 hc9 => ?_)
  obtain ⟨ev, b2, rfl, hS2⟩ := hc9
  refine l_icmp_eq h0 637 579 dL_law_576 rfl (by decide) (fun h9 => ?_) (fun h9 => ?_)
  · exact nx b2 μ2 hS2
  · exact absurd ev h9
set_option maxRecDepth 100000 in
set_option maxHeartbeats 4000000 in
theorem w_goes (h0 : q_LX C p s m meth c9 b L xs) (hL : L ≤ 3072) {k : Nat} (hk : k + 6 ≤ L) {bb : Bool} {μ : q_M} (hS : q_Sim bb μ) (nx : ∀ bb μ, q_Sim bb μ → q_L C p l e s m below meth c9 b 142 μ (q_ρ bb) (q_lv C b k) [] 637) : q_L C p l e s m below meth c9 b 142 μ (q_ρ bb) (q_lv C b k) [] 581 := by
  obtain ⟨d1, K, hd1, hc1, hk2⟩ := a_goes (C := C) (l := l) hS (xs (nI k + 1).toNatClampNeg)
  refine l_aload_n h0 582 dL_law_581 rfl rfl ?_
  refine l_aload_n h0 583 dL_law_582 rfl rfl ?_
  refine l_iload_n h0 584 dL_law_583 rfl rfl ?_
  refine l_iconst h0 585 1 dL_law_584 rfl (by decide) ?_
  refine l_iadd h0 586 dL_law_585 rfl ?_
  refine l_sld h0 587 dL_law_586 rfl (l_in (k := k) (j := 1) (by omega) (by omega)) ?_
  refine l_Vi h0 590 0 [_] [] dL_law_587 rfl m_X7_goes l_L_81 (by decide) rfl rfl hc1 rfl rfl (Nat.le_of_ble_eq_true rfl) hd1 (fun v1 μ1 ρ1 hc9 => ?_)
  obtain ⟨b1, rfl, hK⟩ := hc9
  obtain ⟨d2, hd2, hc2⟩ := hk2 _ _ _ hK
  refine l_aload_n h0 591 dL_law_590 rfl rfl ?_
  refine l_aload_n h0 592 dL_law_591 rfl rfl ?_
  refine l_iload_n h0 593 dL_law_592 rfl rfl ?_
  refine l_iconst h0 594 1 dL_law_593 rfl (by decide) ?_
  refine l_iadd h0 595 dL_law_594 rfl ?_
  refine l_sld h0 596 dL_law_595 rfl (l_in (k := k) (j := 1) (by omega) (by omega)) ?_
  refine l_Vi h0 599 122 [_] [_] dL_law_596 rfl m_X8_goes l_L_84 (by decide) rfl rfl hc2 rfl rfl (Nat.le_of_ble_eq_true rfl) hd2 (fun v2 μ2 ρ2 hc9 => ?_)
  obtain ⟨ev, b2, rfl, hS2⟩ := hc9
  refine l_icmp_eq h0 637 602 dL_law_599 rfl (by decide) (fun h9 => ?_) (fun h9 => ?_)
  · exact nx b2 μ2 hS2
  · exact absurd ev h9
set_option maxRecDepth 100000 in
set_option maxHeartbeats 4000000 in
theorem w_sweep (h0 : q_LX C p s m meth c9 b L xs) (hL : L ≤ 3072) {k : Nat} (hk : k + 6 ≤ L) {bb : Bool} {μ : q_M} (hS : q_Sim bb μ) (nx : ∀ bb μ, q_Sim bb μ → q_L C p l e s m below meth c9 b 142 μ (q_ρ bb) (q_lv C b k) [] 637) : q_L C p l e s m below meth c9 b 142 μ (q_ρ bb) (q_lv C b k) [] 604 := by
  obtain ⟨d1, K, hd1, hc1, hk2⟩ := a_sweep (C := C) (l := l) hS (xs (nI k + 1).toNatClampNeg) (xs (nI k + 2).toNatClampNeg)
  refine l_aload_n h0 605 dL_law_604 rfl rfl ?_
  refine l_aload_n h0 606 dL_law_605 rfl rfl ?_
  refine l_iload_n h0 607 dL_law_606 rfl rfl ?_
  refine l_iconst h0 608 1 dL_law_607 rfl (by decide) ?_
  refine l_iadd h0 609 dL_law_608 rfl ?_
  refine l_sld h0 610 dL_law_609 rfl (l_in (k := k) (j := 1) (by omega) (by omega)) ?_
  refine l_aload_n h0 611 dL_law_610 rfl rfl ?_
  refine l_iload_n h0 612 dL_law_611 rfl rfl ?_
  refine l_iconst h0 613 2 dL_law_612 rfl (by decide) ?_
  refine l_iadd h0 614 dL_law_613 rfl ?_
  refine l_sld h0 615 dL_law_614 rfl (l_in (k := k) (j := 2) (by omega) (by omega)) ?_
  refine l_Vi h0 618 0 [_, _] [] dL_law_615 rfl m_X7_sweep l_L_85 (by decide) rfl rfl hc1 rfl rfl (Nat.le_of_ble_eq_true rfl) hd1 (fun v1 μ1 ρ1 hc9 => ?_)
  obtain ⟨b1, rfl, hK⟩ := hc9
  obtain ⟨d2, hd2, hc2⟩ := hk2 _ _ _ hK
  refine l_aload_n h0 619 dL_law_618 rfl rfl ?_
  refine l_aload_n h0 620 dL_law_619 rfl rfl ?_
  refine l_iload_n h0 621 dL_law_620 rfl rfl ?_
  refine l_iconst h0 622 1 dL_law_621 rfl (by decide) ?_
  refine l_iadd h0 623 dL_law_622 rfl ?_
  refine l_sld h0 624 dL_law_623 rfl (l_in (k := k) (j := 1) (by omega) (by omega)) ?_
  refine l_aload_n h0 625 dL_law_624 rfl rfl ?_
  refine l_iload_n h0 626 dL_law_625 rfl rfl ?_
  refine l_iconst h0 627 2 dL_law_626 rfl (by decide) ?_
  refine l_iadd h0 628 dL_law_627 rfl ?_
  refine l_sld h0 629 dL_law_628 rfl (l_in (k := k) (j := 2) (by omega) (by omega)) ?_
  refine l_Vi h0 632 122 [_, _] [_] dL_law_629 rfl m_X8_sweep l_L_88 (by decide) rfl rfl hc2 rfl rfl (Nat.le_of_ble_eq_true rfl) hd2 (fun v2 μ2 ρ2 hc9 => ?_)
  obtain ⟨ev, b2, rfl, hS2⟩ := hc9
  refine l_icmp_eq h0 637 635 dL_law_632 rfl (by decide) (fun h9 => ?_) (fun h9 => ?_)
  · exact nx b2 μ2 hS2
  · exact absurd ev h9
set_option maxRecDepth 100000 in
set_option maxHeartbeats 4000000 in
theorem law_loop (h0 : q_LX C p s m meth c9 b L xs) (hL : L ≤ 3072) : ∀ f k bb μ, k ≤ L → L ≤ k + f → q_Sim bb μ → q_L C p l e s m below meth c9 b 142 μ (q_ρ bb) (q_lv C b k) [] 18 := by
  intro f
  induction f with
  | zero =>
    intro k bb μ hkL hkf hS
    refine l_iload_n h0 19 dL_law_18 rfl rfl ?_
    refine l_aload_n h0 20 dL_law_19 rfl rfl ?_
    refine l_len h0 21 dL_law_20 rfl ?_
    refine l_bipush h0 23 6 dL_law_21 rfl (by decide) ?_
    refine l_isub h0 24 dL_law_23 rfl ?_
    refine l_icmp_gt h0 643 27 dL_law_24 rfl (by decide) (fun h9 => ?_) (fun h9 => ?_)
    · refine l_iconst h0 644 1 dL_law_643 rfl (by decide) ?_
      exact l_ret h0 (Nat.le_refl _) dL_law_644
    · refine absurd (Int32.lt_iff_toInt_lt.mpr ?_) h9
      have h1 := pk_sub_toInt (a := L) (b := 6) (by omega) (by omega)
      rw [nI_toInt (by omega)]
      have h2 : (nI L - 6).toInt = (L : Int) - 6 := h1
      omega
  | succ f ih =>
    intro k bb μ hkL hkf hS
    refine l_iload_n h0 19 dL_law_18 rfl rfl ?_
    refine l_aload_n h0 20 dL_law_19 rfl rfl ?_
    refine l_len h0 21 dL_law_20 rfl ?_
    refine l_bipush h0 23 6 dL_law_21 rfl (by decide) ?_
    refine l_isub h0 24 dL_law_23 rfl ?_
    refine l_icmp_gt h0 643 27 dL_law_24 rfl (by decide) (fun h9 => ?_) (fun h9 => ?_)
    · refine l_iconst h0 644 1 dL_law_643 rfl (by decide) ?_
      exact l_ret h0 (Nat.le_refl _) dL_law_644
    · have hk : k + 6 ≤ L := by
        rcases Nat.lt_or_ge L (k + 6) with q | q
        · refine absurd (Int32.lt_iff_toInt_lt.mpr ?_) h9
          have h1 := pk_sub_toInt (a := L) (b := 6) (by omega) (by omega)
          rw [nI_toInt (by omega)]
          have h2 : (nI L - 6).toInt = (L : Int) - 6 := h1
          omega
        · exact q
      have nx : ∀ bb μ, q_Sim bb μ → q_L C p l e s m below meth c9 b 142 μ (q_ρ bb) (q_lv C b k) [] 637 := fun bb μ hS => by
        refine l_iinc h0 640 (nI (k + 6)) dL_law_637 rfl rfl ?_ (by decide) ?_
        · exact nI_add k 6
        · refine l_goto h0 18 dL_law_640 (by decide) ?_
          refine l_lv (q_lv C b (k + 6)) rfl ?_
          exact ih (k + 6) bb μ hk (by omega) hS
      refine l_aload_n h0 28 dL_law_27 rfl rfl ?_
      refine l_iload_n h0 29 dL_law_28 rfl rfl ?_
      refine l_sld h0 30 dL_law_29 rfl (vp_in_nI (n := k) (by omega) (by omega)) ?_
      refine l_bipush h0 32 31 dL_law_30 rfl (by decide) ?_
      refine l_iand h0 33 dL_law_32 rfl ?_
      rw [pk_and (xs (nI k).toNatClampNeg) 5 (m := 31) rfl]
      have ht : (xs (nI k).toNatClampNeg).toBitVec.toNat % 2 ^ 5 < 32 := Nat.mod_lt _ (by decide)
      generalize (xs (nI k).toNatClampNeg).toBitVec.toNat % 2 ^ 5 = t at ht ⊢
      rcases Nat.lt_or_ge t 17 with q | q
      · match t, q with
        | 0, _ => exact l_tabIn h0 116 dL_law_33 (by decide) (by decide) rfl (by decide) (w_camp h0 hL hk hS nx)
        | 1, _ => exact l_tabIn h0 149 dL_law_33 (by decide) (by decide) rfl (by decide) (w_hour h0 hL hk hS nx)
        | 2, _ => exact l_tabIn h0 182 dL_law_33 (by decide) (by decide) rfl (by decide) (w_racer h0 hL hk hS nx)
        | 3, _ => exact l_tabIn h0 205 dL_law_33 (by decide) (by decide) rfl (by decide) (w_breaks h0 hL hk hS nx)
        | 4, _ => exact l_tabIn h0 248 dL_law_33 (by decide) (by decide) rfl (by decide) (w_set h0 hL hk hS nx)
        | 5, _ => exact l_tabIn h0 281 dL_law_33 (by decide) (by decide) rfl (by decide) (w_feed h0 hL hk hS nx)
        | 6, _ => exact l_tabIn h0 344 dL_law_33 (by decide) (by decide) rfl (by decide) (w_end h0 hL hk hS nx)
        | 7, _ => exact l_tabIn h0 367 dL_law_33 (by decide) (by decide) rfl (by decide) (w_book h0 hL hk hS nx)
        | 8, _ => exact l_tabIn h0 380 dL_law_33 (by decide) (by decide) rfl (by decide) (w_fault h0 hL hk hS nx)
        | 9, _ => exact l_tabIn h0 403 dL_law_33 (by decide) (by decide) rfl (by decide) (w_look h0 hL hk hS nx)
        | 10, _ => exact l_tabIn h0 426 dL_law_33 (by decide) (by decide) rfl (by decide) (w_time h0 hL hk hS nx)
        | 11, _ => exact l_tabIn h0 459 dL_law_33 (by decide) (by decide) rfl (by decide) (w_ran h0 hL hk hS nx)
        | 12, _ => exact l_tabIn h0 502 dL_law_33 (by decide) (by decide) rfl (by decide) (w_standing h0 hL hk hS nx)
        | 13, _ => exact l_tabIn h0 535 dL_law_33 (by decide) (by decide) rfl (by decide) (w_of h0 hL hk hS nx)
        | 14, _ => exact l_tabIn h0 568 dL_law_33 (by decide) (by decide) rfl (by decide) (w_sets h0 hL hk hS nx)
        | 15, _ => exact l_tabIn h0 581 dL_law_33 (by decide) (by decide) rfl (by decide) (w_goes h0 hL hk hS nx)
        | 16, _ => exact l_tabIn h0 604 dL_law_33 (by decide) (by decide) rfl (by decide) (w_sweep h0 hL hk hS nx)
        | n + 17, q => exact absurd q (by omega)
      · refine l_tabOut h0 637 dL_law_33 (Or.inr ?_) (by decide) (nx bb μ hS)
        rw [nI_toInt (by omega)]
        omega
end LP
