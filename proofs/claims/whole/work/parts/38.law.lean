/-! the law -/
theorem zz_rcL {X : CT} {d : MD} {h : AH} (hRm : zz_R X = room_1) (hNS : zz_NS X = (0, 0)) (a b : Nat) (hh : h.1 = (a, b)) (e : (Nat.ble (d.2.2.2.2.1.1 + 1) 9 && (Nat.ble (d.2.2.1 + 19 + d.2.2.2.2.1.2) 316 && (Nat.ble (a + d.2.2.2.2.2.1) 30 && Nat.ble (b + d.2.2.2.2.2.2) 753))) = true) : zz_rc X d h := by
  simp only [Bool.and_eq_true] at e
  have e1 := Nat.le_of_ble_eq_true e.1
  have e2 := Nat.le_of_ble_eq_true e.2.1
  have e3 := Nat.le_of_ble_eq_true e.2.2.1
  have e4 := Nat.le_of_ble_eq_true e.2.2.2
  refine ⟨?_, ?_, ?_, ?_⟩
  · rw [hRm]; exact e1
  · rw [hRm]; exact e2
  · rw [hRm, hNS, hh]
    show a + d.2.2.2.2.2.1 ≤ 0 + 30
    omega
  · rw [hRm, hNS, hh]
    show b + d.2.2.2.2.2.2 ≤ 0 + 753
    omega
theorem XI_0 {h : AH} {n : Int} {g : Gr} {V : Int → Int} {tr : Int} (H : XI h n g V tr) : ∃ p q, zz_get h 0 = cST p q tr := by
  obtain ⟨p, q, C, F, Nu, Co, r, f, ⟨a, b, -⟩, -⟩ := H
  exact ⟨p, q, b⟩
theorem XI_k {h h' : AH} {n : Int} {g : Gr} {V : Int → Int} {tr : Int} (H : XI h n g V tr) (x : ∀ k, k < 20 → zz_get h' k = zz_get h k) : XI h' n g V tr := by
  obtain ⟨p, q, C, F, Nu, Co, r, f, ⟨a, b, c, d, e, i, j⟩, hM, hV⟩ := H
  exact ⟨p, q, C, F, Nu, Co, r, f, ⟨a, (x _ (by omega)).trans b, (x _ (by omega)).trans c, xcol_k d (fun k k0 k1 => x _ (by omega)), xS_k e (fun k k0 k1 => x _ (by omega)), xW_k i (fun k k0 k1 => x _ (by omega)), xD_k j (fun k k0 k1 => x _ (by omega))⟩, hM, hV⟩
theorem MI_0 {h : AH} {n : Int} {g : Gr} {V : Int → Int} {tr : Int} (H : MI h n g V tr) : zz_get h 20 = cM n tr := by
  obtain ⟨C, K, A, B, L, D, T, U, ⟨m0, -⟩, -⟩ := H
  exact m0
set_option maxRecDepth 100000 in
set_option maxHeartbeats 4000000 in
theorem law_c0 {X : CT} {mn : String} (cx : zz_C X cL_law RL mn 4) (hRm : zz_R X = room_1) (hNS : zz_NS X = (0, 0)) (hsc : zz_sc X) (hlz : (zz_scr X).1 < 2147483648) {h : AH} {i n tr : Int} {g : Gr} {V : Int → Int} (hi : 0 ≤ i ∧ i + 5 ≤ ((zz_scr X).1 : Int)) (h1 : h.1 = (30, 753)) (hX : XI h n g V tr) (hM : MI h n g V tr) (K : ∀ h' n' g' V' tr', h'.1 = (30, 753) → XI h' n' g' V' tr' → MI h' n' g' V' tr' → AW X 673 [some vS, some (vR 0), some (vR 20), some (vI i)] [] h') : AW X 124 [some vS, some (vR 0), some (vR 20), some (vI i)] [] h := by
  obtain ⟨p, q, g0⟩ := XI_0 hX
  refine aw_aload_n cx 125 dL_law_124 rfl rfl ?_
  refine aw_sload_n cx 126 dL_law_125 rfl rfl ?_
  refine aw_iload_n cx 127 dL_law_126 rfl rfl ?_
  refine aw_iconst cx 128 dL_law_127 rfl ?_
  refine aw_iadd cx 129 dL_law_128 rfl ?_
  refine aw_sld cx 130 dL_law_129 rfl hsc ⟨by omega, by omega⟩ hlz ?_
  refine aw_V1v cx 133 mX4_points (ci := 3) dL_law_130 rfl okmX4_points lkL_13 (by first | exact g0 | exact gm) ⟨rfl, by decide⟩ (zz_rcL hRm hNS 30 753 h1 rfl) (Nat.le_of_ble_eq_true rfl) ?_
  refine s_X4_points hX (i32_r _) (fun v1 g1 e1 x1 => ⟨_, rfl, ?_⟩)
  have hM1 := xo_MI hM x1.2
  have gm := MI_0 hM1
  have h2 := x1.2.2.trans h1
  refine aw_aload_n cx 134 dL_law_133 rfl rfl ?_
  refine aw_sload_n cx 135 dL_law_134 rfl rfl ?_
  refine aw_iload_n cx 136 dL_law_135 rfl rfl ?_
  refine aw_iconst cx 137 dL_law_136 rfl ?_
  refine aw_iadd cx 138 dL_law_137 rfl ?_
  refine aw_sld cx 139 dL_law_138 rfl hsc ⟨by omega, by omega⟩ hlz ?_
  refine aw_V1v cx 142 mX5_points (ci := 4) dL_law_139 rfl okmX5_points lkL_17 (by first | exact g0 | exact gm) ⟨rfl, by decide⟩ (zz_rcL hRm hNS 30 753 h2 rfl) (Nat.le_of_ble_eq_true rfl) ?_
  refine s_X5_points hM1 (i32_r _) (fun v2 g2 e2 x2 => ⟨_, rfl, ?_⟩)
  rw [e1, e2]
  refine aw_icmp_eqE cx 145 673 dL_law_142 rfl (by decide) ?_
  exact K g2 _ _ _ _ (x2.2.2.trans h2) (xm_XI x1.1 x2.2) x2.1
set_option maxRecDepth 100000 in
set_option maxHeartbeats 4000000 in
theorem law_c1 {X : CT} {mn : String} (cx : zz_C X cL_law RL mn 4) (hRm : zz_R X = room_1) (hNS : zz_NS X = (0, 0)) (hsc : zz_sc X) (hlz : (zz_scr X).1 < 2147483648) {h : AH} {i n tr : Int} {g : Gr} {V : Int → Int} (hi : 0 ≤ i ∧ i + 5 ≤ ((zz_scr X).1 : Int)) (h1 : h.1 = (30, 753)) (hX : XI h n g V tr) (hM : MI h n g V tr) (K : ∀ h' n' g' V' tr', h'.1 = (30, 753) → XI h' n' g' V' tr' → MI h' n' g' V' tr' → AW X 673 [some vS, some (vR 0), some (vR 20), some (vI i)] [] h') : AW X 147 [some vS, some (vR 0), some (vR 20), some (vI i)] [] h := by
  obtain ⟨p, q, g0⟩ := XI_0 hX
  refine aw_aload_n cx 148 dL_law_147 rfl rfl ?_
  refine aw_sload_n cx 149 dL_law_148 rfl rfl ?_
  refine aw_iload_n cx 150 dL_law_149 rfl rfl ?_
  refine aw_iconst cx 151 dL_law_150 rfl ?_
  refine aw_iadd cx 152 dL_law_151 rfl ?_
  refine aw_sld cx 153 dL_law_152 rfl hsc ⟨by omega, by omega⟩ hlz ?_
  refine aw_sload_n cx 154 dL_law_153 rfl rfl ?_
  refine aw_iload_n cx 155 dL_law_154 rfl rfl ?_
  refine aw_iconst cx 156 dL_law_155 rfl ?_
  refine aw_iadd cx 157 dL_law_156 rfl ?_
  refine aw_sld cx 158 dL_law_157 rfl hsc ⟨by omega, by omega⟩ hlz ?_
  refine aw_sload_n cx 159 dL_law_158 rfl rfl ?_
  refine aw_iload_n cx 160 dL_law_159 rfl rfl ?_
  refine aw_iconst cx 161 dL_law_160 rfl ?_
  refine aw_iadd cx 162 dL_law_161 rfl ?_
  refine aw_sld cx 163 dL_law_162 rfl hsc ⟨by omega, by omega⟩ hlz ?_
  refine aw_V3v cx 166 mX4_colour (ci := 3) dL_law_163 rfl okmX4_colour lkL_18 (by first | exact g0 | exact gm) ⟨rfl, by decide⟩ (zz_rcL hRm hNS 30 753 h1 rfl) (Nat.le_of_ble_eq_true rfl) ?_
  refine s_X4_colour hX (i32_r _) (i32_r _) (i32_r _) (fun v1 g1 e1 x1 => ⟨_, rfl, ?_⟩)
  have hM1 := xo_MI hM x1.2
  have gm := MI_0 hM1
  have h2 := x1.2.2.trans h1
  refine aw_aload_n cx 167 dL_law_166 rfl rfl ?_
  refine aw_sload_n cx 168 dL_law_167 rfl rfl ?_
  refine aw_iload_n cx 169 dL_law_168 rfl rfl ?_
  refine aw_iconst cx 170 dL_law_169 rfl ?_
  refine aw_iadd cx 171 dL_law_170 rfl ?_
  refine aw_sld cx 172 dL_law_171 rfl hsc ⟨by omega, by omega⟩ hlz ?_
  refine aw_sload_n cx 173 dL_law_172 rfl rfl ?_
  refine aw_iload_n cx 174 dL_law_173 rfl rfl ?_
  refine aw_iconst cx 175 dL_law_174 rfl ?_
  refine aw_iadd cx 176 dL_law_175 rfl ?_
  refine aw_sld cx 177 dL_law_176 rfl hsc ⟨by omega, by omega⟩ hlz ?_
  refine aw_sload_n cx 178 dL_law_177 rfl rfl ?_
  refine aw_iload_n cx 179 dL_law_178 rfl rfl ?_
  refine aw_iconst cx 180 dL_law_179 rfl ?_
  refine aw_iadd cx 181 dL_law_180 rfl ?_
  refine aw_sld cx 182 dL_law_181 rfl hsc ⟨by omega, by omega⟩ hlz ?_
  refine aw_V3v cx 185 mX5_colour (ci := 4) dL_law_182 rfl okmX5_colour lkL_22 (by first | exact g0 | exact gm) ⟨rfl, by decide⟩ (zz_rcL hRm hNS 30 753 h2 rfl) (Nat.le_of_ble_eq_true rfl) ?_
  refine s_X5_colour hM1 (i32_r _) (i32_r _) (i32_r _) (fun v2 g2 e2 x2 => ⟨_, rfl, ?_⟩)
  rw [e1, e2]
  refine aw_icmp_eqE cx 188 673 dL_law_185 rfl (by decide) ?_
  exact K g2 _ _ _ _ (x2.2.2.trans h2) (xm_XI x1.1 x2.2) x2.1
set_option maxRecDepth 100000 in
set_option maxHeartbeats 4000000 in
theorem law_c2 {X : CT} {mn : String} (cx : zz_C X cL_law RL mn 4) (hRm : zz_R X = room_1) (hNS : zz_NS X = (0, 0)) (hsc : zz_sc X) (hlz : (zz_scr X).1 < 2147483648) {h : AH} {i n tr : Int} {g : Gr} {V : Int → Int} (hi : 0 ≤ i ∧ i + 5 ≤ ((zz_scr X).1 : Int)) (h1 : h.1 = (30, 753)) (hX : XI h n g V tr) (hM : MI h n g V tr) (K : ∀ h' n' g' V' tr', h'.1 = (30, 753) → XI h' n' g' V' tr' → MI h' n' g' V' tr' → AW X 673 [some vS, some (vR 0), some (vR 20), some (vI i)] [] h') : AW X 190 [some vS, some (vR 0), some (vR 20), some (vI i)] [] h := by
  obtain ⟨p, q, g0⟩ := XI_0 hX
  refine aw_aload_n cx 191 dL_law_190 rfl rfl ?_
  refine aw_sload_n cx 192 dL_law_191 rfl rfl ?_
  refine aw_iload_n cx 193 dL_law_192 rfl rfl ?_
  refine aw_iconst cx 194 dL_law_193 rfl ?_
  refine aw_iadd cx 195 dL_law_194 rfl ?_
  refine aw_sld cx 196 dL_law_195 rfl hsc ⟨by omega, by omega⟩ hlz ?_
  refine aw_sload_n cx 197 dL_law_196 rfl rfl ?_
  refine aw_iload_n cx 198 dL_law_197 rfl rfl ?_
  refine aw_iconst cx 199 dL_law_198 rfl ?_
  refine aw_iadd cx 200 dL_law_199 rfl ?_
  refine aw_sld cx 201 dL_law_200 rfl hsc ⟨by omega, by omega⟩ hlz ?_
  refine aw_V2v cx 204 mX4_at (ci := 3) dL_law_201 rfl okmX4_at lkL_23 (by first | exact g0 | exact gm) ⟨rfl, by decide⟩ (zz_rcL hRm hNS 30 753 h1 rfl) (Nat.le_of_ble_eq_true rfl) ?_
  refine s_X4_at hX (i32_r _) (i32_r _) (fun v1 g1 e1 x1 => ⟨_, rfl, ?_⟩)
  have hM1 := xo_MI hM x1.2
  have gm := MI_0 hM1
  have h2 := x1.2.2.trans h1
  refine aw_aload_n cx 205 dL_law_204 rfl rfl ?_
  refine aw_sload_n cx 206 dL_law_205 rfl rfl ?_
  refine aw_iload_n cx 207 dL_law_206 rfl rfl ?_
  refine aw_iconst cx 208 dL_law_207 rfl ?_
  refine aw_iadd cx 209 dL_law_208 rfl ?_
  refine aw_sld cx 210 dL_law_209 rfl hsc ⟨by omega, by omega⟩ hlz ?_
  refine aw_sload_n cx 211 dL_law_210 rfl rfl ?_
  refine aw_iload_n cx 212 dL_law_211 rfl rfl ?_
  refine aw_iconst cx 213 dL_law_212 rfl ?_
  refine aw_iadd cx 214 dL_law_213 rfl ?_
  refine aw_sld cx 215 dL_law_214 rfl hsc ⟨by omega, by omega⟩ hlz ?_
  refine aw_V2v cx 218 mX5_at (ci := 4) dL_law_215 rfl okmX5_at lkL_27 (by first | exact g0 | exact gm) ⟨rfl, by decide⟩ (zz_rcL hRm hNS 30 753 h2 rfl) (Nat.le_of_ble_eq_true rfl) ?_
  refine s_X5_at hM1 (i32_r _) (i32_r _) (fun v2 g2 e2 x2 => ⟨_, rfl, ?_⟩)
  rw [e1, e2]
  refine aw_icmp_eqE cx 221 673 dL_law_218 rfl (by decide) ?_
  exact K g2 _ _ _ _ (x2.2.2.trans h2) (xm_XI x1.1 x2.2) x2.1
set_option maxRecDepth 100000 in
set_option maxHeartbeats 4000000 in
theorem law_c3 {X : CT} {mn : String} (cx : zz_C X cL_law RL mn 4) (hRm : zz_R X = room_1) (hNS : zz_NS X = (0, 0)) (hsc : zz_sc X) (hlz : (zz_scr X).1 < 2147483648) {h : AH} {i n tr : Int} {g : Gr} {V : Int → Int} (hi : 0 ≤ i ∧ i + 5 ≤ ((zz_scr X).1 : Int)) (h1 : h.1 = (30, 753)) (hX : XI h n g V tr) (hM : MI h n g V tr) (K : ∀ h' n' g' V' tr', h'.1 = (30, 753) → XI h' n' g' V' tr' → MI h' n' g' V' tr' → AW X 673 [some vS, some (vR 0), some (vR 20), some (vI i)] [] h') : AW X 223 [some vS, some (vR 0), some (vR 20), some (vI i)] [] h := by
  obtain ⟨p, q, g0⟩ := XI_0 hX
  refine aw_aload_n cx 224 dL_law_223 rfl rfl ?_
  refine aw_sload_n cx 225 dL_law_224 rfl rfl ?_
  refine aw_iload_n cx 226 dL_law_225 rfl rfl ?_
  refine aw_iconst cx 227 dL_law_226 rfl ?_
  refine aw_iadd cx 228 dL_law_227 rfl ?_
  refine aw_sld cx 229 dL_law_228 rfl hsc ⟨by omega, by omega⟩ hlz ?_
  refine aw_V1v cx 232 mX4_ring (ci := 3) dL_law_229 rfl okmX4_ring lkL_28 (by first | exact g0 | exact gm) ⟨rfl, by decide⟩ (zz_rcL hRm hNS 30 753 h1 rfl) (Nat.le_of_ble_eq_true rfl) ?_
  refine s_X4_ring hX (i32_r _) (fun v1 g1 e1 x1 => ⟨_, rfl, ?_⟩)
  have hM1 := xo_MI hM x1.2
  have gm := MI_0 hM1
  have h2 := x1.2.2.trans h1
  refine aw_aload_n cx 233 dL_law_232 rfl rfl ?_
  refine aw_sload_n cx 234 dL_law_233 rfl rfl ?_
  refine aw_iload_n cx 235 dL_law_234 rfl rfl ?_
  refine aw_iconst cx 236 dL_law_235 rfl ?_
  refine aw_iadd cx 237 dL_law_236 rfl ?_
  refine aw_sld cx 238 dL_law_237 rfl hsc ⟨by omega, by omega⟩ hlz ?_
  refine aw_V1v cx 241 mX5_ring (ci := 4) dL_law_238 rfl okmX5_ring lkL_31 (by first | exact g0 | exact gm) ⟨rfl, by decide⟩ (zz_rcL hRm hNS 30 753 h2 rfl) (Nat.le_of_ble_eq_true rfl) ?_
  refine s_X5_ring hM1 (i32_r _) (fun v2 g2 e2 x2 => ⟨_, rfl, ?_⟩)
  rw [e1, e2]
  refine aw_icmp_eqE cx 244 673 dL_law_241 rfl (by decide) ?_
  exact K g2 _ _ _ _ (x2.2.2.trans h2) (xm_XI x1.1 x2.2) x2.1
set_option maxRecDepth 100000 in
set_option maxHeartbeats 4000000 in
theorem law_c4 {X : CT} {mn : String} (cx : zz_C X cL_law RL mn 4) (hRm : zz_R X = room_1) (hNS : zz_NS X = (0, 0)) (hsc : zz_sc X) (hlz : (zz_scr X).1 < 2147483648) {h : AH} {i n tr : Int} {g : Gr} {V : Int → Int} (hi : 0 ≤ i ∧ i + 5 ≤ ((zz_scr X).1 : Int)) (h1 : h.1 = (30, 753)) (hX : XI h n g V tr) (hM : MI h n g V tr) (K : ∀ h' n' g' V' tr', h'.1 = (30, 753) → XI h' n' g' V' tr' → MI h' n' g' V' tr' → AW X 673 [some vS, some (vR 0), some (vR 20), some (vI i)] [] h') : AW X 246 [some vS, some (vR 0), some (vR 20), some (vI i)] [] h := by
  obtain ⟨p, q, g0⟩ := XI_0 hX
  refine aw_aload_n cx 247 dL_law_246 rfl rfl ?_
  refine aw_V0v cx 250 mX4_fails (ci := 3) dL_law_247 rfl okmX4_fails lkL_32 (by first | exact g0 | exact gm) ⟨rfl, by decide⟩ (zz_rcL hRm hNS 30 753 h1 rfl) (Nat.le_of_ble_eq_true rfl) ?_
  refine s_X4_fails hX  (fun v1 g1 e1 x1 => ⟨_, rfl, ?_⟩)
  have hM1 := xo_MI hM x1.2
  have gm := MI_0 hM1
  have h2 := x1.2.2.trans h1
  refine aw_aload_n cx 251 dL_law_250 rfl rfl ?_
  refine aw_V0v cx 254 mX5_fails (ci := 4) dL_law_251 rfl okmX5_fails lkL_36 (by first | exact g0 | exact gm) ⟨rfl, by decide⟩ (zz_rcL hRm hNS 30 753 h2 rfl) (Nat.le_of_ble_eq_true rfl) ?_
  refine s_X5_fails hM1  (fun v2 g2 e2 x2 => ⟨_, rfl, ?_⟩)
  rw [e1, e2]
  refine aw_icmp_eqE cx 257 673 dL_law_254 rfl (by decide) ?_
  exact K g2 _ _ _ _ (x2.2.2.trans h2) (xm_XI x1.1 x2.2) x2.1
set_option maxRecDepth 100000 in
set_option maxHeartbeats 4000000 in
theorem law_c5 {X : CT} {mn : String} (cx : zz_C X cL_law RL mn 4) (hRm : zz_R X = room_1) (hNS : zz_NS X = (0, 0)) (hsc : zz_sc X) (hlz : (zz_scr X).1 < 2147483648) {h : AH} {i n tr : Int} {g : Gr} {V : Int → Int} (hi : 0 ≤ i ∧ i + 5 ≤ ((zz_scr X).1 : Int)) (h1 : h.1 = (30, 753)) (hX : XI h n g V tr) (hM : MI h n g V tr) (K : ∀ h' n' g' V' tr', h'.1 = (30, 753) → XI h' n' g' V' tr' → MI h' n' g' V' tr' → AW X 673 [some vS, some (vR 0), some (vR 20), some (vI i)] [] h') : AW X 259 [some vS, some (vR 0), some (vR 20), some (vI i)] [] h := by
  obtain ⟨p, q, g0⟩ := XI_0 hX
  refine aw_aload_n cx 260 dL_law_259 rfl rfl ?_
  refine aw_sload_n cx 261 dL_law_260 rfl rfl ?_
  refine aw_iload_n cx 262 dL_law_261 rfl rfl ?_
  refine aw_iconst cx 263 dL_law_262 rfl ?_
  refine aw_iadd cx 264 dL_law_263 rfl ?_
  refine aw_sld cx 265 dL_law_264 rfl hsc ⟨by omega, by omega⟩ hlz ?_
  refine aw_sload_n cx 266 dL_law_265 rfl rfl ?_
  refine aw_iload_n cx 267 dL_law_266 rfl rfl ?_
  refine aw_iconst cx 268 dL_law_267 rfl ?_
  refine aw_iadd cx 269 dL_law_268 rfl ?_
  refine aw_sld cx 270 dL_law_269 rfl hsc ⟨by omega, by omega⟩ hlz ?_
  refine aw_sload_n cx 271 dL_law_270 rfl rfl ?_
  refine aw_iload_n cx 272 dL_law_271 rfl rfl ?_
  refine aw_iconst cx 273 dL_law_272 rfl ?_
  refine aw_iadd cx 274 dL_law_273 rfl ?_
  refine aw_sld cx 275 dL_law_274 rfl hsc ⟨by omega, by omega⟩ hlz ?_
  refine aw_V3v cx 278 mX4_number (ci := 3) dL_law_275 rfl okmX4_number lkL_37 (by first | exact g0 | exact gm) ⟨rfl, by decide⟩ (zz_rcL hRm hNS 30 753 h1 rfl) (Nat.le_of_ble_eq_true rfl) ?_
  refine s_X4_number hX (i32_r _) (i32_r _) (i32_r _) (fun v1 g1 e1 x1 => ⟨_, rfl, ?_⟩)
  have hM1 := xo_MI hM x1.2
  have gm := MI_0 hM1
  have h2 := x1.2.2.trans h1
  refine aw_aload_n cx 279 dL_law_278 rfl rfl ?_
  refine aw_sload_n cx 280 dL_law_279 rfl rfl ?_
  refine aw_iload_n cx 281 dL_law_280 rfl rfl ?_
  refine aw_iconst cx 282 dL_law_281 rfl ?_
  refine aw_iadd cx 283 dL_law_282 rfl ?_
  refine aw_sld cx 284 dL_law_283 rfl hsc ⟨by omega, by omega⟩ hlz ?_
  refine aw_sload_n cx 285 dL_law_284 rfl rfl ?_
  refine aw_iload_n cx 286 dL_law_285 rfl rfl ?_
  refine aw_iconst cx 287 dL_law_286 rfl ?_
  refine aw_iadd cx 288 dL_law_287 rfl ?_
  refine aw_sld cx 289 dL_law_288 rfl hsc ⟨by omega, by omega⟩ hlz ?_
  refine aw_sload_n cx 290 dL_law_289 rfl rfl ?_
  refine aw_iload_n cx 291 dL_law_290 rfl rfl ?_
  refine aw_iconst cx 292 dL_law_291 rfl ?_
  refine aw_iadd cx 293 dL_law_292 rfl ?_
  refine aw_sld cx 294 dL_law_293 rfl hsc ⟨by omega, by omega⟩ hlz ?_
  refine aw_V3v cx 297 mX5_number (ci := 4) dL_law_294 rfl okmX5_number lkL_40 (by first | exact g0 | exact gm) ⟨rfl, by decide⟩ (zz_rcL hRm hNS 30 753 h2 rfl) (Nat.le_of_ble_eq_true rfl) ?_
  refine s_X5_number hM1 (i32_r _) (i32_r _) (i32_r _) (fun v2 g2 e2 x2 => ⟨_, rfl, ?_⟩)
  rw [e1, e2]
  refine aw_icmp_eqE cx 300 673 dL_law_297 rfl (by decide) ?_
  exact K g2 _ _ _ _ (x2.2.2.trans h2) (xm_XI x1.1 x2.2) x2.1
set_option maxRecDepth 100000 in
set_option maxHeartbeats 4000000 in
theorem law_c6 {X : CT} {mn : String} (cx : zz_C X cL_law RL mn 4) (hRm : zz_R X = room_1) (hNS : zz_NS X = (0, 0)) (hsc : zz_sc X) (hlz : (zz_scr X).1 < 2147483648) {h : AH} {i n tr : Int} {g : Gr} {V : Int → Int} (hi : 0 ≤ i ∧ i + 5 ≤ ((zz_scr X).1 : Int)) (h1 : h.1 = (30, 753)) (hX : XI h n g V tr) (hM : MI h n g V tr) (K : ∀ h' n' g' V' tr', h'.1 = (30, 753) → XI h' n' g' V' tr' → MI h' n' g' V' tr' → AW X 673 [some vS, some (vR 0), some (vR 20), some (vI i)] [] h') : AW X 302 [some vS, some (vR 0), some (vR 20), some (vI i)] [] h := by
  obtain ⟨p, q, g0⟩ := XI_0 hX
  refine aw_aload_n cx 303 dL_law_302 rfl rfl ?_
  refine aw_sload_n cx 304 dL_law_303 rfl rfl ?_
  refine aw_iload_n cx 305 dL_law_304 rfl rfl ?_
  refine aw_iconst cx 306 dL_law_305 rfl ?_
  refine aw_iadd cx 307 dL_law_306 rfl ?_
  refine aw_sld cx 308 dL_law_307 rfl hsc ⟨by omega, by omega⟩ hlz ?_
  refine aw_sload_n cx 309 dL_law_308 rfl rfl ?_
  refine aw_iload_n cx 310 dL_law_309 rfl rfl ?_
  refine aw_iconst cx 311 dL_law_310 rfl ?_
  refine aw_iadd cx 312 dL_law_311 rfl ?_
  refine aw_sld cx 313 dL_law_312 rfl hsc ⟨by omega, by omega⟩ hlz ?_
  refine aw_V2v cx 316 mX4_of (ci := 3) dL_law_313 rfl okmX4_of lkL_41 (by first | exact g0 | exact gm) ⟨rfl, by decide⟩ (zz_rcL hRm hNS 30 753 h1 rfl) (Nat.le_of_ble_eq_true rfl) ?_
  refine s_X4_of hX (i32_r _) (i32_r _) (fun v1 g1 e1 x1 => ⟨_, rfl, ?_⟩)
  have hM1 := xo_MI hM x1.2
  have gm := MI_0 hM1
  have h2 := x1.2.2.trans h1
  refine aw_aload_n cx 317 dL_law_316 rfl rfl ?_
  refine aw_sload_n cx 318 dL_law_317 rfl rfl ?_
  refine aw_iload_n cx 319 dL_law_318 rfl rfl ?_
  refine aw_iconst cx 320 dL_law_319 rfl ?_
  refine aw_iadd cx 321 dL_law_320 rfl ?_
  refine aw_sld cx 322 dL_law_321 rfl hsc ⟨by omega, by omega⟩ hlz ?_
  refine aw_sload_n cx 323 dL_law_322 rfl rfl ?_
  refine aw_iload_n cx 324 dL_law_323 rfl rfl ?_
  refine aw_iconst cx 325 dL_law_324 rfl ?_
  refine aw_iadd cx 326 dL_law_325 rfl ?_
  refine aw_sld cx 327 dL_law_326 rfl hsc ⟨by omega, by omega⟩ hlz ?_
  refine aw_V2v cx 330 mX5_of (ci := 4) dL_law_327 rfl okmX5_of lkL_44 (by first | exact g0 | exact gm) ⟨rfl, by decide⟩ (zz_rcL hRm hNS 30 753 h2 rfl) (Nat.le_of_ble_eq_true rfl) ?_
  refine s_X5_of hM1 (i32_r _) (i32_r _) (fun v2 g2 e2 x2 => ⟨_, rfl, ?_⟩)
  rw [e1, e2]
  refine aw_icmp_eqE cx 333 673 dL_law_330 rfl (by decide) ?_
  exact K g2 _ _ _ _ (x2.2.2.trans h2) (xm_XI x1.1 x2.2) x2.1
set_option maxRecDepth 100000 in
set_option maxHeartbeats 4000000 in
theorem law_c7 {X : CT} {mn : String} (cx : zz_C X cL_law RL mn 4) (hRm : zz_R X = room_1) (hNS : zz_NS X = (0, 0)) (hsc : zz_sc X) (hlz : (zz_scr X).1 < 2147483648) {h : AH} {i n tr : Int} {g : Gr} {V : Int → Int} (hi : 0 ≤ i ∧ i + 5 ≤ ((zz_scr X).1 : Int)) (h1 : h.1 = (30, 753)) (hX : XI h n g V tr) (hM : MI h n g V tr) (K : ∀ h' n' g' V' tr', h'.1 = (30, 753) → XI h' n' g' V' tr' → MI h' n' g' V' tr' → AW X 673 [some vS, some (vR 0), some (vR 20), some (vI i)] [] h') : AW X 335 [some vS, some (vR 0), some (vR 20), some (vI i)] [] h := by
  obtain ⟨p, q, g0⟩ := XI_0 hX
  refine aw_aload_n cx 336 dL_law_335 rfl rfl ?_
  refine aw_V0v cx 339 mX4_turns (ci := 3) dL_law_336 rfl okmX4_turns lkL_45 (by first | exact g0 | exact gm) ⟨rfl, by decide⟩ (zz_rcL hRm hNS 30 753 h1 rfl) (Nat.le_of_ble_eq_true rfl) ?_
  refine s_X4_turns hX  (fun v1 g1 e1 x1 => ⟨_, rfl, ?_⟩)
  have hM1 := xo_MI hM x1.2
  have gm := MI_0 hM1
  have h2 := x1.2.2.trans h1
  refine aw_aload_n cx 340 dL_law_339 rfl rfl ?_
  refine aw_V0v cx 343 mX5_turns (ci := 4) dL_law_340 rfl okmX5_turns lkL_48 (by first | exact g0 | exact gm) ⟨rfl, by decide⟩ (zz_rcL hRm hNS 30 753 h2 rfl) (Nat.le_of_ble_eq_true rfl) ?_
  refine s_X5_turns hM1  (fun v2 g2 e2 x2 => ⟨_, rfl, ?_⟩)
  rw [e1, e2]
  refine aw_icmp_eqE cx 346 673 dL_law_343 rfl (by decide) ?_
  exact K g2 _ _ _ _ (x2.2.2.trans h2) (xm_XI x1.1 x2.2) x2.1
set_option maxRecDepth 100000 in
set_option maxHeartbeats 4000000 in
theorem law_c8 {X : CT} {mn : String} (cx : zz_C X cL_law RL mn 4) (hRm : zz_R X = room_1) (hNS : zz_NS X = (0, 0)) (hsc : zz_sc X) (hlz : (zz_scr X).1 < 2147483648) {h : AH} {i n tr : Int} {g : Gr} {V : Int → Int} (hi : 0 ≤ i ∧ i + 5 ≤ ((zz_scr X).1 : Int)) (h1 : h.1 = (30, 753)) (hX : XI h n g V tr) (hM : MI h n g V tr) (K : ∀ h' n' g' V' tr', h'.1 = (30, 753) → XI h' n' g' V' tr' → MI h' n' g' V' tr' → AW X 673 [some vS, some (vR 0), some (vR 20), some (vI i)] [] h') : AW X 348 [some vS, some (vR 0), some (vR 20), some (vI i)] [] h := by
  obtain ⟨p, q, g0⟩ := XI_0 hX
  refine aw_aload_n cx 349 dL_law_348 rfl rfl ?_
  refine aw_sload_n cx 350 dL_law_349 rfl rfl ?_
  refine aw_iload_n cx 351 dL_law_350 rfl rfl ?_
  refine aw_iconst cx 352 dL_law_351 rfl ?_
  refine aw_iadd cx 353 dL_law_352 rfl ?_
  refine aw_sld cx 354 dL_law_353 rfl hsc ⟨by omega, by omega⟩ hlz ?_
  refine aw_sload_n cx 355 dL_law_354 rfl rfl ?_
  refine aw_iload_n cx 356 dL_law_355 rfl rfl ?_
  refine aw_iconst cx 357 dL_law_356 rfl ?_
  refine aw_iadd cx 358 dL_law_357 rfl ?_
  refine aw_sld cx 359 dL_law_358 rfl hsc ⟨by omega, by omega⟩ hlz ?_
  refine aw_V2v cx 362 mX4_closed (ci := 3) dL_law_359 rfl okmX4_closed lkL_49 (by first | exact g0 | exact gm) ⟨rfl, by decide⟩ (zz_rcL hRm hNS 30 753 h1 rfl) (Nat.le_of_ble_eq_true rfl) ?_
  refine s_X4_closed hX (i32_r _) (i32_r _) (fun v1 g1 e1 x1 => ⟨_, rfl, ?_⟩)
  have hM1 := xo_MI hM x1.2
  have gm := MI_0 hM1
  have h2 := x1.2.2.trans h1
  refine aw_aload_n cx 363 dL_law_362 rfl rfl ?_
  refine aw_sload_n cx 364 dL_law_363 rfl rfl ?_
  refine aw_iload_n cx 365 dL_law_364 rfl rfl ?_
  refine aw_iconst cx 366 dL_law_365 rfl ?_
  refine aw_iadd cx 367 dL_law_366 rfl ?_
  refine aw_sld cx 368 dL_law_367 rfl hsc ⟨by omega, by omega⟩ hlz ?_
  refine aw_sload_n cx 369 dL_law_368 rfl rfl ?_
  refine aw_iload_n cx 370 dL_law_369 rfl rfl ?_
  refine aw_iconst cx 371 dL_law_370 rfl ?_
  refine aw_iadd cx 372 dL_law_371 rfl ?_
  refine aw_sld cx 373 dL_law_372 rfl hsc ⟨by omega, by omega⟩ hlz ?_
  refine aw_V2v cx 376 mX5_closed (ci := 4) dL_law_373 rfl okmX5_closed lkL_52 (by first | exact g0 | exact gm) ⟨rfl, by decide⟩ (zz_rcL hRm hNS 30 753 h2 rfl) (Nat.le_of_ble_eq_true rfl) ?_
  refine s_X5_closed hM1 (i32_r _) (i32_r _) (fun v2 g2 e2 x2 => ⟨_, rfl, ?_⟩)
  rw [e1, e2]
  refine aw_icmp_eqE cx 379 673 dL_law_376 rfl (by decide) ?_
  exact K g2 _ _ _ _ (x2.2.2.trans h2) (xm_XI x1.1 x2.2) x2.1
set_option maxRecDepth 100000 in
set_option maxHeartbeats 4000000 in
theorem law_c9 {X : CT} {mn : String} (cx : zz_C X cL_law RL mn 4) (hRm : zz_R X = room_1) (hNS : zz_NS X = (0, 0)) (hsc : zz_sc X) (hlz : (zz_scr X).1 < 2147483648) {h : AH} {i n tr : Int} {g : Gr} {V : Int → Int} (hi : 0 ≤ i ∧ i + 5 ≤ ((zz_scr X).1 : Int)) (h1 : h.1 = (30, 753)) (hX : XI h n g V tr) (hM : MI h n g V tr) (K : ∀ h' n' g' V' tr', h'.1 = (30, 753) → XI h' n' g' V' tr' → MI h' n' g' V' tr' → AW X 673 [some vS, some (vR 0), some (vR 20), some (vI i)] [] h') : AW X 381 [some vS, some (vR 0), some (vR 20), some (vI i)] [] h := by
  obtain ⟨p, q, g0⟩ := XI_0 hX
  refine aw_aload_n cx 382 dL_law_381 rfl rfl ?_
  refine aw_sload_n cx 383 dL_law_382 rfl rfl ?_
  refine aw_iload_n cx 384 dL_law_383 rfl rfl ?_
  refine aw_iconst cx 385 dL_law_384 rfl ?_
  refine aw_iadd cx 386 dL_law_385 rfl ?_
  refine aw_sld cx 387 dL_law_386 rfl hsc ⟨by omega, by omega⟩ hlz ?_
  refine aw_V1v cx 390 mX4_order (ci := 3) dL_law_387 rfl okmX4_order lkL_53 (by first | exact g0 | exact gm) ⟨rfl, by decide⟩ (zz_rcL hRm hNS 30 753 h1 rfl) (Nat.le_of_ble_eq_true rfl) ?_
  refine s_X4_order hX (i32_r _) (fun v1 g1 e1 x1 => ⟨_, rfl, ?_⟩)
  have hM1 := xo_MI hM x1.2
  have gm := MI_0 hM1
  have h2 := x1.2.2.trans h1
  refine aw_aload_n cx 391 dL_law_390 rfl rfl ?_
  refine aw_sload_n cx 392 dL_law_391 rfl rfl ?_
  refine aw_iload_n cx 393 dL_law_392 rfl rfl ?_
  refine aw_iconst cx 394 dL_law_393 rfl ?_
  refine aw_iadd cx 395 dL_law_394 rfl ?_
  refine aw_sld cx 396 dL_law_395 rfl hsc ⟨by omega, by omega⟩ hlz ?_
  refine aw_V1v cx 399 mX5_order (ci := 4) dL_law_396 rfl okmX5_order lkL_56 (by first | exact g0 | exact gm) ⟨rfl, by decide⟩ (zz_rcL hRm hNS 30 753 h2 rfl) (Nat.le_of_ble_eq_true rfl) ?_
  refine s_X5_order hM1 (i32_r _) (fun v2 g2 e2 x2 => ⟨_, rfl, ?_⟩)
  rw [e1, e2]
  refine aw_icmp_eqE cx 402 673 dL_law_399 rfl (by decide) ?_
  exact K g2 _ _ _ _ (x2.2.2.trans h2) (xm_XI x1.1 x2.2) x2.1
set_option maxRecDepth 100000 in
set_option maxHeartbeats 4000000 in
theorem law_c10 {X : CT} {mn : String} (cx : zz_C X cL_law RL mn 4) (hRm : zz_R X = room_1) (hNS : zz_NS X = (0, 0)) (hsc : zz_sc X) (hlz : (zz_scr X).1 < 2147483648) {h : AH} {i n tr : Int} {g : Gr} {V : Int → Int} (hi : 0 ≤ i ∧ i + 5 ≤ ((zz_scr X).1 : Int)) (h1 : h.1 = (30, 753)) (hX : XI h n g V tr) (hM : MI h n g V tr) (K : ∀ h' n' g' V' tr', h'.1 = (30, 753) → XI h' n' g' V' tr' → MI h' n' g' V' tr' → AW X 673 [some vS, some (vR 0), some (vR 20), some (vI i)] [] h') : AW X 404 [some vS, some (vR 0), some (vR 20), some (vI i)] [] h := by
  obtain ⟨p, q, g0⟩ := XI_0 hX
  refine aw_aload_n cx 405 dL_law_404 rfl rfl ?_
  refine aw_sload_n cx 406 dL_law_405 rfl rfl ?_
  refine aw_iload_n cx 407 dL_law_406 rfl rfl ?_
  refine aw_iconst cx 408 dL_law_407 rfl ?_
  refine aw_iadd cx 409 dL_law_408 rfl ?_
  refine aw_sld cx 410 dL_law_409 rfl hsc ⟨by omega, by omega⟩ hlz ?_
  refine aw_sload_n cx 411 dL_law_410 rfl rfl ?_
  refine aw_iload_n cx 412 dL_law_411 rfl rfl ?_
  refine aw_iconst cx 413 dL_law_412 rfl ?_
  refine aw_iadd cx 414 dL_law_413 rfl ?_
  refine aw_sld cx 415 dL_law_414 rfl hsc ⟨by omega, by omega⟩ hlz ?_
  refine aw_V2v cx 418 mX4_worth (ci := 3) dL_law_415 rfl okmX4_worth lkL_57 (by first | exact g0 | exact gm) ⟨rfl, by decide⟩ (zz_rcL hRm hNS 30 753 h1 rfl) (Nat.le_of_ble_eq_true rfl) ?_
  refine s_X4_worth hX (i32_r _) (i32_r _) (fun v1 g1 e1 x1 => ⟨_, rfl, ?_⟩)
  have hM1 := xo_MI hM x1.2
  have gm := MI_0 hM1
  have h2 := x1.2.2.trans h1
  refine aw_aload_n cx 419 dL_law_418 rfl rfl ?_
  refine aw_sload_n cx 420 dL_law_419 rfl rfl ?_
  refine aw_iload_n cx 421 dL_law_420 rfl rfl ?_
  refine aw_iconst cx 422 dL_law_421 rfl ?_
  refine aw_iadd cx 423 dL_law_422 rfl ?_
  refine aw_sld cx 424 dL_law_423 rfl hsc ⟨by omega, by omega⟩ hlz ?_
  refine aw_sload_n cx 425 dL_law_424 rfl rfl ?_
  refine aw_iload_n cx 426 dL_law_425 rfl rfl ?_
  refine aw_iconst cx 427 dL_law_426 rfl ?_
  refine aw_iadd cx 428 dL_law_427 rfl ?_
  refine aw_sld cx 429 dL_law_428 rfl hsc ⟨by omega, by omega⟩ hlz ?_
  refine aw_V2v cx 432 mX5_worth (ci := 4) dL_law_429 rfl okmX5_worth lkL_60 (by first | exact g0 | exact gm) ⟨rfl, by decide⟩ (zz_rcL hRm hNS 30 753 h2 rfl) (Nat.le_of_ble_eq_true rfl) ?_
  refine s_X5_worth hM1 (i32_r _) (i32_r _) (fun v2 g2 e2 x2 => ⟨_, rfl, ?_⟩)
  rw [e1, e2]
  refine aw_icmp_eqE cx 435 673 dL_law_432 rfl (by decide) ?_
  exact K g2 _ _ _ _ (x2.2.2.trans h2) (xm_XI x1.1 x2.2) x2.1
set_option maxRecDepth 100000 in
set_option maxHeartbeats 4000000 in
theorem law_c11 {X : CT} {mn : String} (cx : zz_C X cL_law RL mn 4) (hRm : zz_R X = room_1) (hNS : zz_NS X = (0, 0)) (hsc : zz_sc X) (hlz : (zz_scr X).1 < 2147483648) {h : AH} {i n tr : Int} {g : Gr} {V : Int → Int} (hi : 0 ≤ i ∧ i + 5 ≤ ((zz_scr X).1 : Int)) (h1 : h.1 = (30, 753)) (hX : XI h n g V tr) (hM : MI h n g V tr) (K : ∀ h' n' g' V' tr', h'.1 = (30, 753) → XI h' n' g' V' tr' → MI h' n' g' V' tr' → AW X 673 [some vS, some (vR 0), some (vR 20), some (vI i)] [] h') : AW X 437 [some vS, some (vR 0), some (vR 20), some (vI i)] [] h := by
  obtain ⟨p, q, g0⟩ := XI_0 hX
  refine aw_aload_n cx 438 dL_law_437 rfl rfl ?_
  refine aw_sload_n cx 439 dL_law_438 rfl rfl ?_
  refine aw_iload_n cx 440 dL_law_439 rfl rfl ?_
  refine aw_iconst cx 441 dL_law_440 rfl ?_
  refine aw_iadd cx 442 dL_law_441 rfl ?_
  refine aw_sld cx 443 dL_law_442 rfl hsc ⟨by omega, by omega⟩ hlz ?_
  refine aw_V1v cx 446 mX4_fuse (ci := 3) dL_law_443 rfl okmX4_fuse lkL_61 (by first | exact g0 | exact gm) ⟨rfl, by decide⟩ (zz_rcL hRm hNS 30 753 h1 rfl) (Nat.le_of_ble_eq_true rfl) ?_
  refine s_X4_fuse hX (i32_r _) (fun v1 g1 e1 x1 => ⟨_, rfl, ?_⟩)
  have hM1 := xo_MI hM x1.2
  have gm := MI_0 hM1
  have h2 := x1.2.2.trans h1
  refine aw_aload_n cx 447 dL_law_446 rfl rfl ?_
  refine aw_sload_n cx 448 dL_law_447 rfl rfl ?_
  refine aw_iload_n cx 449 dL_law_448 rfl rfl ?_
  refine aw_iconst cx 450 dL_law_449 rfl ?_
  refine aw_iadd cx 451 dL_law_450 rfl ?_
  refine aw_sld cx 452 dL_law_451 rfl hsc ⟨by omega, by omega⟩ hlz ?_
  refine aw_V1v cx 455 mX5_fuse (ci := 4) dL_law_452 rfl okmX5_fuse lkL_64 (by first | exact g0 | exact gm) ⟨rfl, by decide⟩ (zz_rcL hRm hNS 30 753 h2 rfl) (Nat.le_of_ble_eq_true rfl) ?_
  refine s_X5_fuse hM1 (i32_r _) (fun v2 g2 e2 x2 => ⟨_, rfl, ?_⟩)
  rw [e1, e2]
  refine aw_icmp_eqE cx 458 673 dL_law_455 rfl (by decide) ?_
  exact K g2 _ _ _ _ (x2.2.2.trans h2) (xm_XI x1.1 x2.2) x2.1
set_option maxRecDepth 100000 in
set_option maxHeartbeats 4000000 in
theorem law_c12 {X : CT} {mn : String} (cx : zz_C X cL_law RL mn 4) (hRm : zz_R X = room_1) (hNS : zz_NS X = (0, 0)) (hsc : zz_sc X) (hlz : (zz_scr X).1 < 2147483648) {h : AH} {i n tr : Int} {g : Gr} {V : Int → Int} (hi : 0 ≤ i ∧ i + 5 ≤ ((zz_scr X).1 : Int)) (h1 : h.1 = (30, 753)) (hX : XI h n g V tr) (hM : MI h n g V tr) (K : ∀ h' n' g' V' tr', h'.1 = (30, 753) → XI h' n' g' V' tr' → MI h' n' g' V' tr' → AW X 673 [some vS, some (vR 0), some (vR 20), some (vI i)] [] h') : AW X 460 [some vS, some (vR 0), some (vR 20), some (vI i)] [] h := by
  obtain ⟨p, q, g0⟩ := XI_0 hX
  refine aw_aload_n cx 461 dL_law_460 rfl rfl ?_
  refine aw_sload_n cx 462 dL_law_461 rfl rfl ?_
  refine aw_iload_n cx 463 dL_law_462 rfl rfl ?_
  refine aw_iconst cx 464 dL_law_463 rfl ?_
  refine aw_iadd cx 465 dL_law_464 rfl ?_
  refine aw_sld cx 466 dL_law_465 rfl hsc ⟨by omega, by omega⟩ hlz ?_
  refine aw_V1v cx 469 mX4_quotient (ci := 3) dL_law_466 rfl okmX4_quotient lkL_65 (by first | exact g0 | exact gm) ⟨rfl, by decide⟩ (zz_rcL hRm hNS 30 753 h1 rfl) (Nat.le_of_ble_eq_true rfl) ?_
  refine s_X4_quotient hX (i32_r _) (fun v1 g1 e1 x1 => ⟨_, rfl, ?_⟩)
  have hM1 := xo_MI hM x1.2
  have gm := MI_0 hM1
  have h2 := x1.2.2.trans h1
  refine aw_aload_n cx 470 dL_law_469 rfl rfl ?_
  refine aw_sload_n cx 471 dL_law_470 rfl rfl ?_
  refine aw_iload_n cx 472 dL_law_471 rfl rfl ?_
  refine aw_iconst cx 473 dL_law_472 rfl ?_
  refine aw_iadd cx 474 dL_law_473 rfl ?_
  refine aw_sld cx 475 dL_law_474 rfl hsc ⟨by omega, by omega⟩ hlz ?_
  refine aw_V1v cx 478 mX5_quotient (ci := 4) dL_law_475 rfl okmX5_quotient lkL_68 (by first | exact g0 | exact gm) ⟨rfl, by decide⟩ (zz_rcL hRm hNS 30 753 h2 rfl) (Nat.le_of_ble_eq_true rfl) ?_
  refine s_X5_quotient hM1 (i32_r _) (fun v2 g2 e2 x2 => ⟨_, rfl, ?_⟩)
  rw [e1, e2]
  refine aw_icmp_eqE cx 481 673 dL_law_478 rfl (by decide) ?_
  exact K g2 _ _ _ _ (x2.2.2.trans h2) (xm_XI x1.1 x2.2) x2.1
set_option maxRecDepth 100000 in
set_option maxHeartbeats 4000000 in
theorem law_c13 {X : CT} {mn : String} (cx : zz_C X cL_law RL mn 4) (hRm : zz_R X = room_1) (hNS : zz_NS X = (0, 0)) (hsc : zz_sc X) (hlz : (zz_scr X).1 < 2147483648) {h : AH} {i n tr : Int} {g : Gr} {V : Int → Int} (hi : 0 ≤ i ∧ i + 5 ≤ ((zz_scr X).1 : Int)) (h1 : h.1 = (30, 753)) (hX : XI h n g V tr) (hM : MI h n g V tr) (K : ∀ h' n' g' V' tr', h'.1 = (30, 753) → XI h' n' g' V' tr' → MI h' n' g' V' tr' → AW X 673 [some vS, some (vR 0), some (vR 20), some (vI i)] [] h') : AW X 483 [some vS, some (vR 0), some (vR 20), some (vI i)] [] h := by
  obtain ⟨p, q, g0⟩ := XI_0 hX
  refine aw_aload_n cx 484 dL_law_483 rfl rfl ?_
  refine aw_sload_n cx 485 dL_law_484 rfl rfl ?_
  refine aw_iload_n cx 486 dL_law_485 rfl rfl ?_
  refine aw_iconst cx 487 dL_law_486 rfl ?_
  refine aw_iadd cx 488 dL_law_487 rfl ?_
  refine aw_sld cx 489 dL_law_488 rfl hsc ⟨by omega, by omega⟩ hlz ?_
  refine aw_sload_n cx 490 dL_law_489 rfl rfl ?_
  refine aw_iload_n cx 491 dL_law_490 rfl rfl ?_
  refine aw_iconst cx 492 dL_law_491 rfl ?_
  refine aw_iadd cx 493 dL_law_492 rfl ?_
  refine aw_sld cx 494 dL_law_493 rfl hsc ⟨by omega, by omega⟩ hlz ?_
  refine aw_V2v cx 497 mX4_weight (ci := 3) dL_law_494 rfl okmX4_weight lkL_69 (by first | exact g0 | exact gm) ⟨rfl, by decide⟩ (zz_rcL hRm hNS 30 753 h1 rfl) (Nat.le_of_ble_eq_true rfl) ?_
  refine s_X4_weight hX (i32_r _) (i32_r _) (fun v1 g1 e1 x1 => ⟨_, rfl, ?_⟩)
  have hM1 := xo_MI hM x1.2
  have gm := MI_0 hM1
  have h2 := x1.2.2.trans h1
  refine aw_aload_n cx 498 dL_law_497 rfl rfl ?_
  refine aw_sload_n cx 499 dL_law_498 rfl rfl ?_
  refine aw_iload_n cx 500 dL_law_499 rfl rfl ?_
  refine aw_iconst cx 501 dL_law_500 rfl ?_
  refine aw_iadd cx 502 dL_law_501 rfl ?_
  refine aw_sld cx 503 dL_law_502 rfl hsc ⟨by omega, by omega⟩ hlz ?_
  refine aw_sload_n cx 504 dL_law_503 rfl rfl ?_
  refine aw_iload_n cx 505 dL_law_504 rfl rfl ?_
  refine aw_iconst cx 506 dL_law_505 rfl ?_
  refine aw_iadd cx 507 dL_law_506 rfl ?_
  refine aw_sld cx 508 dL_law_507 rfl hsc ⟨by omega, by omega⟩ hlz ?_
  refine aw_V2v cx 511 mX5_weight (ci := 4) dL_law_508 rfl okmX5_weight lkL_72 (by first | exact g0 | exact gm) ⟨rfl, by decide⟩ (zz_rcL hRm hNS 30 753 h2 rfl) (Nat.le_of_ble_eq_true rfl) ?_
  refine s_X5_weight hM1 (i32_r _) (i32_r _) (fun v2 g2 e2 x2 => ⟨_, rfl, ?_⟩)
  rw [e1, e2]
  refine aw_icmp_eqE cx 514 673 dL_law_511 rfl (by decide) ?_
  exact K g2 _ _ _ _ (x2.2.2.trans h2) (xm_XI x1.1 x2.2) x2.1
set_option maxRecDepth 100000 in
set_option maxHeartbeats 4000000 in
theorem law_c14 {X : CT} {mn : String} (cx : zz_C X cL_law RL mn 4) (hRm : zz_R X = room_1) (hNS : zz_NS X = (0, 0)) (hsc : zz_sc X) (hlz : (zz_scr X).1 < 2147483648) {h : AH} {i n tr : Int} {g : Gr} {V : Int → Int} (hi : 0 ≤ i ∧ i + 5 ≤ ((zz_scr X).1 : Int)) (h1 : h.1 = (30, 753)) (hX : XI h n g V tr) (hM : MI h n g V tr) (K : ∀ h' n' g' V' tr', h'.1 = (30, 753) → XI h' n' g' V' tr' → MI h' n' g' V' tr' → AW X 673 [some vS, some (vR 0), some (vR 20), some (vI i)] [] h') : AW X 516 [some vS, some (vR 0), some (vR 20), some (vI i)] [] h := by
  obtain ⟨p, q, g0⟩ := XI_0 hX
  refine aw_aload_n cx 517 dL_law_516 rfl rfl ?_
  refine aw_sload_n cx 518 dL_law_517 rfl rfl ?_
  refine aw_iload_n cx 519 dL_law_518 rfl rfl ?_
  refine aw_iconst cx 520 dL_law_519 rfl ?_
  refine aw_iadd cx 521 dL_law_520 rfl ?_
  refine aw_sld cx 522 dL_law_521 rfl hsc ⟨by omega, by omega⟩ hlz ?_
  refine aw_sload_n cx 523 dL_law_522 rfl rfl ?_
  refine aw_iload_n cx 524 dL_law_523 rfl rfl ?_
  refine aw_iconst cx 525 dL_law_524 rfl ?_
  refine aw_iadd cx 526 dL_law_525 rfl ?_
  refine aw_sld cx 527 dL_law_526 rfl hsc ⟨by omega, by omega⟩ hlz ?_
  refine aw_sload_n cx 528 dL_law_527 rfl rfl ?_
  refine aw_iload_n cx 529 dL_law_528 rfl rfl ?_
  refine aw_iconst cx 530 dL_law_529 rfl ?_
  refine aw_iadd cx 531 dL_law_530 rfl ?_
  refine aw_sld cx 532 dL_law_531 rfl hsc ⟨by omega, by omega⟩ hlz ?_
  refine aw_V3v cx 535 mX4_chance (ci := 3) dL_law_532 rfl okmX4_chance lkL_73 (by first | exact g0 | exact gm) ⟨rfl, by decide⟩ (zz_rcL hRm hNS 30 753 h1 rfl) (Nat.le_of_ble_eq_true rfl) ?_
  refine s_X4_chance hX (i32_r _) (i32_r _) (i32_r _) (fun v1 g1 e1 x1 => ⟨_, rfl, ?_⟩)
  have hM1 := xo_MI hM x1.2
  have gm := MI_0 hM1
  have h2 := x1.2.2.trans h1
  refine aw_aload_n cx 536 dL_law_535 rfl rfl ?_
  refine aw_sload_n cx 537 dL_law_536 rfl rfl ?_
  refine aw_iload_n cx 538 dL_law_537 rfl rfl ?_
  refine aw_iconst cx 539 dL_law_538 rfl ?_
  refine aw_iadd cx 540 dL_law_539 rfl ?_
  refine aw_sld cx 541 dL_law_540 rfl hsc ⟨by omega, by omega⟩ hlz ?_
  refine aw_sload_n cx 542 dL_law_541 rfl rfl ?_
  refine aw_iload_n cx 543 dL_law_542 rfl rfl ?_
  refine aw_iconst cx 544 dL_law_543 rfl ?_
  refine aw_iadd cx 545 dL_law_544 rfl ?_
  refine aw_sld cx 546 dL_law_545 rfl hsc ⟨by omega, by omega⟩ hlz ?_
  refine aw_sload_n cx 547 dL_law_546 rfl rfl ?_
  refine aw_iload_n cx 548 dL_law_547 rfl rfl ?_
  refine aw_iconst cx 549 dL_law_548 rfl ?_
  refine aw_iadd cx 550 dL_law_549 rfl ?_
  refine aw_sld cx 551 dL_law_550 rfl hsc ⟨by omega, by omega⟩ hlz ?_
  refine aw_V3v cx 554 mX5_chance (ci := 4) dL_law_551 rfl okmX5_chance lkL_77 (by first | exact g0 | exact gm) ⟨rfl, by decide⟩ (zz_rcL hRm hNS 30 753 h2 rfl) (Nat.le_of_ble_eq_true rfl) ?_
  refine s_X5_chance hM1 (i32_r _) (i32_r _) (i32_r _) (fun v2 g2 e2 x2 => ⟨_, rfl, ?_⟩)
  rw [e1, e2]
  refine aw_lcmp cx 555 dL_law_554 rfl (Or.inl rfl) ?_
  refine aw_if_eq cx 558 673 dL_law_555 rfl (by decide) (zz_cmp_r _ _) (fun _ => ?_) (fun c => absurd (zz_cmp_eq.mpr rfl) c)
  exact K g2 _ _ _ _ (x2.2.2.trans h2) (xm_XI x1.1 x2.2) x2.1
set_option maxRecDepth 100000 in
set_option maxHeartbeats 4000000 in
theorem law_c15 {X : CT} {mn : String} (cx : zz_C X cL_law RL mn 4) (hRm : zz_R X = room_1) (hNS : zz_NS X = (0, 0)) (hsc : zz_sc X) (hlz : (zz_scr X).1 < 2147483648) {h : AH} {i n tr : Int} {g : Gr} {V : Int → Int} (hi : 0 ≤ i ∧ i + 5 ≤ ((zz_scr X).1 : Int)) (h1 : h.1 = (30, 753)) (hX : XI h n g V tr) (hM : MI h n g V tr) (K : ∀ h' n' g' V' tr', h'.1 = (30, 753) → XI h' n' g' V' tr' → MI h' n' g' V' tr' → AW X 673 [some vS, some (vR 0), some (vR 20), some (vI i)] [] h') : AW X 560 [some vS, some (vR 0), some (vR 20), some (vI i)] [] h := by
  obtain ⟨p, q, g0⟩ := XI_0 hX
  refine aw_aload_n cx 561 dL_law_560 rfl rfl ?_
  refine aw_sload_n cx 562 dL_law_561 rfl rfl ?_
  refine aw_iload_n cx 563 dL_law_562 rfl rfl ?_
  refine aw_iconst cx 564 dL_law_563 rfl ?_
  refine aw_iadd cx 565 dL_law_564 rfl ?_
  refine aw_sld cx 566 dL_law_565 rfl hsc ⟨by omega, by omega⟩ hlz ?_
  refine aw_sload_n cx 567 dL_law_566 rfl rfl ?_
  refine aw_iload_n cx 568 dL_law_567 rfl rfl ?_
  refine aw_iconst cx 569 dL_law_568 rfl ?_
  refine aw_iadd cx 570 dL_law_569 rfl ?_
  refine aw_sld cx 571 dL_law_570 rfl hsc ⟨by omega, by omega⟩ hlz ?_
  refine aw_sload_n cx 572 dL_law_571 rfl rfl ?_
  refine aw_iload_n cx 573 dL_law_572 rfl rfl ?_
  refine aw_iconst cx 574 dL_law_573 rfl ?_
  refine aw_iadd cx 575 dL_law_574 rfl ?_
  refine aw_sld cx 576 dL_law_575 rfl hsc ⟨by omega, by omega⟩ hlz ?_
  refine aw_sload_n cx 577 dL_law_576 rfl rfl ?_
  refine aw_iload_n cx 578 dL_law_577 rfl rfl ?_
  refine aw_iconst cx 579 dL_law_578 rfl ?_
  refine aw_iadd cx 580 dL_law_579 rfl ?_
  refine aw_sld cx 581 dL_law_580 rfl hsc ⟨by omega, by omega⟩ hlz ?_
  refine aw_V4v cx 584 mX4_sieve (ci := 3) dL_law_581 rfl okmX4_sieve lkL_78 (by first | exact g0 | exact gm) ⟨rfl, by decide⟩ (zz_rcL hRm hNS 30 753 h1 rfl) (Nat.le_of_ble_eq_true rfl) ?_
  refine s_X4_sieve hX (i32_r _) (i32_r _) (i32_r _) (i32_r _) (fun v1 g1 e1 x1 => ⟨_, rfl, ?_⟩)
  have hM1 := xo_MI hM x1.2
  have gm := MI_0 hM1
  have h2 := x1.2.2.trans h1
  refine aw_aload_n cx 585 dL_law_584 rfl rfl ?_
  refine aw_sload_n cx 586 dL_law_585 rfl rfl ?_
  refine aw_iload_n cx 587 dL_law_586 rfl rfl ?_
  refine aw_iconst cx 588 dL_law_587 rfl ?_
  refine aw_iadd cx 589 dL_law_588 rfl ?_
  refine aw_sld cx 590 dL_law_589 rfl hsc ⟨by omega, by omega⟩ hlz ?_
  refine aw_sload_n cx 591 dL_law_590 rfl rfl ?_
  refine aw_iload_n cx 592 dL_law_591 rfl rfl ?_
  refine aw_iconst cx 593 dL_law_592 rfl ?_
  refine aw_iadd cx 594 dL_law_593 rfl ?_
  refine aw_sld cx 595 dL_law_594 rfl hsc ⟨by omega, by omega⟩ hlz ?_
  refine aw_sload_n cx 596 dL_law_595 rfl rfl ?_
  refine aw_iload_n cx 597 dL_law_596 rfl rfl ?_
  refine aw_iconst cx 598 dL_law_597 rfl ?_
  refine aw_iadd cx 599 dL_law_598 rfl ?_
  refine aw_sld cx 600 dL_law_599 rfl hsc ⟨by omega, by omega⟩ hlz ?_
  refine aw_sload_n cx 601 dL_law_600 rfl rfl ?_
  refine aw_iload_n cx 602 dL_law_601 rfl rfl ?_
  refine aw_iconst cx 603 dL_law_602 rfl ?_
  refine aw_iadd cx 604 dL_law_603 rfl ?_
  refine aw_sld cx 605 dL_law_604 rfl hsc ⟨by omega, by omega⟩ hlz ?_
  refine aw_V4v cx 608 mX5_sieve (ci := 4) dL_law_605 rfl okmX5_sieve lkL_82 (by first | exact g0 | exact gm) ⟨rfl, by decide⟩ (zz_rcL hRm hNS 30 753 h2 rfl) (Nat.le_of_ble_eq_true rfl) ?_
  refine s_X5_sieve hM1 (i32_r _) (i32_r _) (i32_r _) (i32_r _) (fun v2 g2 e2 x2 => ⟨_, rfl, ?_⟩)
  rw [e1, e2]
  refine aw_icmp_eqE cx 611 673 dL_law_608 rfl (by decide) ?_
  exact K g2 _ _ _ _ (x2.2.2.trans h2) (xm_XI x1.1 x2.2) x2.1
set_option maxRecDepth 100000 in
set_option maxHeartbeats 4000000 in
theorem law_c16 {X : CT} {mn : String} (cx : zz_C X cL_law RL mn 4) (hRm : zz_R X = room_1) (hNS : zz_NS X = (0, 0)) (hsc : zz_sc X) (hlz : (zz_scr X).1 < 2147483648) {h : AH} {i n tr : Int} {g : Gr} {V : Int → Int} (hi : 0 ≤ i ∧ i + 5 ≤ ((zz_scr X).1 : Int)) (h1 : h.1 = (30, 753)) (hX : XI h n g V tr) (hM : MI h n g V tr) (K : ∀ h' n' g' V' tr', h'.1 = (30, 753) → XI h' n' g' V' tr' → MI h' n' g' V' tr' → AW X 673 [some vS, some (vR 0), some (vR 20), some (vI i)] [] h') : AW X 613 [some vS, some (vR 0), some (vR 20), some (vI i)] [] h := by
  obtain ⟨p, q, g0⟩ := XI_0 hX
  refine aw_aload_n cx 614 dL_law_613 rfl rfl ?_
  refine aw_sload_n cx 615 dL_law_614 rfl rfl ?_
  refine aw_iload_n cx 616 dL_law_615 rfl rfl ?_
  refine aw_iconst cx 617 dL_law_616 rfl ?_
  refine aw_iadd cx 618 dL_law_617 rfl ?_
  refine aw_sld cx 619 dL_law_618 rfl hsc ⟨by omega, by omega⟩ hlz ?_
  refine aw_V1v cx 622 mX4_many (ci := 3) dL_law_619 rfl okmX4_many lkL_83 (by first | exact g0 | exact gm) ⟨rfl, by decide⟩ (zz_rcL hRm hNS 30 753 h1 rfl) (Nat.le_of_ble_eq_true rfl) ?_
  refine s_X4_many hX (i32_r _) (fun v1 g1 e1 x1 => ⟨_, rfl, ?_⟩)
  have hM1 := xo_MI hM x1.2
  have gm := MI_0 hM1
  have h2 := x1.2.2.trans h1
  refine aw_aload_n cx 623 dL_law_622 rfl rfl ?_
  refine aw_sload_n cx 624 dL_law_623 rfl rfl ?_
  refine aw_iload_n cx 625 dL_law_624 rfl rfl ?_
  refine aw_iconst cx 626 dL_law_625 rfl ?_
  refine aw_iadd cx 627 dL_law_626 rfl ?_
  refine aw_sld cx 628 dL_law_627 rfl hsc ⟨by omega, by omega⟩ hlz ?_
  refine aw_V1v cx 631 mX5_many (ci := 4) dL_law_628 rfl okmX5_many lkL_86 (by first | exact g0 | exact gm) ⟨rfl, by decide⟩ (zz_rcL hRm hNS 30 753 h2 rfl) (Nat.le_of_ble_eq_true rfl) ?_
  refine s_X5_many hM1 (i32_r _) (fun v2 g2 e2 x2 => ⟨_, rfl, ?_⟩)
  rw [e1, e2]
  refine aw_icmp_eqE cx 634 673 dL_law_631 rfl (by decide) ?_
  exact K g2 _ _ _ _ (x2.2.2.trans h2) (xm_XI x1.1 x2.2) x2.1
set_option maxRecDepth 100000 in
set_option maxHeartbeats 4000000 in
theorem law_c17 {X : CT} {mn : String} (cx : zz_C X cL_law RL mn 4) (hRm : zz_R X = room_1) (hNS : zz_NS X = (0, 0)) (hsc : zz_sc X) (hlz : (zz_scr X).1 < 2147483648) {h : AH} {i n tr : Int} {g : Gr} {V : Int → Int} (hi : 0 ≤ i ∧ i + 5 ≤ ((zz_scr X).1 : Int)) (h1 : h.1 = (30, 753)) (hX : XI h n g V tr) (hM : MI h n g V tr) (K : ∀ h' n' g' V' tr', h'.1 = (30, 753) → XI h' n' g' V' tr' → MI h' n' g' V' tr' → AW X 673 [some vS, some (vR 0), some (vR 20), some (vI i)] [] h') : AW X 636 [some vS, some (vR 0), some (vR 20), some (vI i)] [] h := by
  obtain ⟨p, q, g0⟩ := XI_0 hX
  refine aw_aload_n cx 637 dL_law_636 rfl rfl ?_
  refine aw_sload_n cx 638 dL_law_637 rfl rfl ?_
  refine aw_iload_n cx 639 dL_law_638 rfl rfl ?_
  refine aw_iconst cx 640 dL_law_639 rfl ?_
  refine aw_iadd cx 641 dL_law_640 rfl ?_
  refine aw_sld cx 642 dL_law_641 rfl hsc ⟨by omega, by omega⟩ hlz ?_
  refine aw_V1v cx 645 mX4_count (ci := 3) dL_law_642 rfl okmX4_count lkL_87 (by first | exact g0 | exact gm) ⟨rfl, by decide⟩ (zz_rcL hRm hNS 30 753 h1 rfl) (Nat.le_of_ble_eq_true rfl) ?_
  refine s_X4_count hX (i32_r _) (fun v1 g1 e1 x1 => ⟨_, rfl, ?_⟩)
  have hM1 := xo_MI hM x1.2
  have gm := MI_0 hM1
  have h2 := x1.2.2.trans h1
  refine aw_aload_n cx 646 dL_law_645 rfl rfl ?_
  refine aw_sload_n cx 647 dL_law_646 rfl rfl ?_
  refine aw_iload_n cx 648 dL_law_647 rfl rfl ?_
  refine aw_iconst cx 649 dL_law_648 rfl ?_
  refine aw_iadd cx 650 dL_law_649 rfl ?_
  refine aw_sld cx 651 dL_law_650 rfl hsc ⟨by omega, by omega⟩ hlz ?_
  refine aw_V1v cx 654 mX5_count (ci := 4) dL_law_651 rfl okmX5_count lkL_90 (by first | exact g0 | exact gm) ⟨rfl, by decide⟩ (zz_rcL hRm hNS 30 753 h2 rfl) (Nat.le_of_ble_eq_true rfl) ?_
  refine s_X5_count hM1 (i32_r _) (fun v2 g2 e2 x2 => ⟨_, rfl, ?_⟩)
  rw [e1, e2]
  refine aw_icmp_eqE cx 657 673 dL_law_654 rfl (by decide) ?_
  exact K g2 _ _ _ _ (x2.2.2.trans h2) (xm_XI x1.1 x2.2) x2.1
set_option maxRecDepth 100000 in
set_option maxHeartbeats 4000000 in
theorem law_c18 {X : CT} {mn : String} (cx : zz_C X cL_law RL mn 4) (hRm : zz_R X = room_1) (hNS : zz_NS X = (0, 0)) (hsc : zz_sc X) (hlz : (zz_scr X).1 < 2147483648) {h : AH} {i n tr : Int} {g : Gr} {V : Int → Int} (hi : 0 ≤ i ∧ i + 5 ≤ ((zz_scr X).1 : Int)) (h1 : h.1 = (30, 753)) (hX : XI h n g V tr) (hM : MI h n g V tr) (K : ∀ h' n' g' V' tr', h'.1 = (30, 753) → XI h' n' g' V' tr' → MI h' n' g' V' tr' → AW X 673 [some vS, some (vR 0), some (vR 20), some (vI i)] [] h') : AW X 659 [some vS, some (vR 0), some (vR 20), some (vI i)] [] h := by
  obtain ⟨p, q, g0⟩ := XI_0 hX
  refine aw_aload_n cx 660 dL_law_659 rfl rfl ?_
  refine aw_V0v cx 663 mX4_trace (ci := 3) dL_law_660 rfl okmX4_trace lkL_91 (by first | exact g0 | exact gm) ⟨rfl, by decide⟩ (zz_rcL hRm hNS 30 753 h1 rfl) (Nat.le_of_ble_eq_true rfl) ?_
  refine s_X4_trace hX  (fun v1 g1 e1 x1 => ⟨_, rfl, ?_⟩)
  have hM1 := xo_MI hM x1.2
  have gm := MI_0 hM1
  have h2 := x1.2.2.trans h1
  refine aw_aload_n cx 664 dL_law_663 rfl rfl ?_
  refine aw_V0v cx 667 mX5_trace (ci := 4) dL_law_664 rfl okmX5_trace lkL_95 (by first | exact g0 | exact gm) ⟨rfl, by decide⟩ (zz_rcL hRm hNS 30 753 h2 rfl) (Nat.le_of_ble_eq_true rfl) ?_
  refine s_X5_trace hM1  (fun v2 g2 e2 x2 => ⟨_, rfl, ?_⟩)
  rw [e1, e2]
  refine aw_lcmp cx 668 dL_law_667 rfl (Or.inl rfl) ?_
  refine aw_if_eq cx 671 673 dL_law_668 rfl (by decide) (zz_cmp_r _ _) (fun _ => ?_) (fun c => absurd (zz_cmp_eq.mpr rfl) c)
  exact K g2 _ _ _ _ (x2.2.2.trans h2) (xm_XI x1.1 x2.2) x2.1
set_option maxRecDepth 100000 in
set_option maxHeartbeats 4000000 in
theorem law_body {X : CT} {mn : String} (cx : zz_C X cL_law RL mn 4) (hRm : zz_R X = room_1) (hNS : zz_NS X = (0, 0)) (hsc : zz_sc X) (hlz : (zz_scr X).1 < 2147483648) {h : AH} {i n tr : Int} {g : Gr} {V : Int → Int} (hi : 0 ≤ i ∧ i + 5 ≤ ((zz_scr X).1 : Int)) (h1 : h.1 = (30, 753)) (hX : XI h n g V tr) (hM : MI h n g V tr) (K : ∀ h' n' g' V' tr', h'.1 = (30, 753) → XI h' n' g' V' tr' → MI h' n' g' V' tr' → AW X 673 [some vS, some (vR 0), some (vR 20), some (vI i)] [] h') : AW X 26 [some vS, some (vR 0), some (vR 20), some (vI i)] [] h := by
  refine aw_sload_n cx 27 dL_law_26 rfl rfl ?_
  refine aw_iload_n cx 28 dL_law_27 rfl rfl ?_
  refine aw_sld cx 29 dL_law_28 rfl hsc ⟨by omega, by omega⟩ hlz ?_
  refine aw_bipush cx 31 dL_law_29 rfl (by decide +kernel) ?_
  refine aw_iand cx 32 dL_law_31 rfl ?_
  have hr := and_r ((zz_scr X).2 i.toNat).toInt 31
  generalize zz_and ((zz_scr X).2 i.toNat).toInt 31 = w at hr ⊢
  rcases (show w = 0 ∨ w = 1 ∨ w = 2 ∨ w = 3 ∨ w = 4 ∨ w = 5 ∨ w = 6 ∨ w = 7 ∨ w = 8 ∨ w = 9 ∨ w = 10 ∨ w = 11 ∨ w = 12 ∨ w = 13 ∨ w = 14 ∨ w = 15 ∨ w = 16 ∨ w = 17 ∨ w = 18 ∨ (w < 0 ∨ 18 < w) by omega) with t32 | t32 | t32 | t32 | t32 | t32 | t32 | t32 | t32 | t32 | t32 | t32 | t32 | t32 | t32 | t32 | t32 | t32 | t32 | t32
  · rw [t32]
    refine aw_tableIn cx 124 (off := 92) dL_law_32 ⟨by decide, by decide⟩ ⟨by decide, by decide⟩ (by decide +kernel) (by decide) ?_
    exact law_c0 cx hRm hNS hsc hlz hi h1 hX hM K
  · rw [t32]
    refine aw_tableIn cx 147 (off := 115) dL_law_32 ⟨by decide, by decide⟩ ⟨by decide, by decide⟩ (by decide +kernel) (by decide) ?_
    exact law_c1 cx hRm hNS hsc hlz hi h1 hX hM K
  · rw [t32]
    refine aw_tableIn cx 190 (off := 158) dL_law_32 ⟨by decide, by decide⟩ ⟨by decide, by decide⟩ (by decide +kernel) (by decide) ?_
    exact law_c2 cx hRm hNS hsc hlz hi h1 hX hM K
  · rw [t32]
    refine aw_tableIn cx 223 (off := 191) dL_law_32 ⟨by decide, by decide⟩ ⟨by decide, by decide⟩ (by decide +kernel) (by decide) ?_
    exact law_c3 cx hRm hNS hsc hlz hi h1 hX hM K
  · rw [t32]
    refine aw_tableIn cx 246 (off := 214) dL_law_32 ⟨by decide, by decide⟩ ⟨by decide, by decide⟩ (by decide +kernel) (by decide) ?_
    exact law_c4 cx hRm hNS hsc hlz hi h1 hX hM K
  · rw [t32]
    refine aw_tableIn cx 259 (off := 227) dL_law_32 ⟨by decide, by decide⟩ ⟨by decide, by decide⟩ (by decide +kernel) (by decide) ?_
    exact law_c5 cx hRm hNS hsc hlz hi h1 hX hM K
  · rw [t32]
    refine aw_tableIn cx 302 (off := 270) dL_law_32 ⟨by decide, by decide⟩ ⟨by decide, by decide⟩ (by decide +kernel) (by decide) ?_
    exact law_c6 cx hRm hNS hsc hlz hi h1 hX hM K
  · rw [t32]
    refine aw_tableIn cx 335 (off := 303) dL_law_32 ⟨by decide, by decide⟩ ⟨by decide, by decide⟩ (by decide +kernel) (by decide) ?_
    exact law_c7 cx hRm hNS hsc hlz hi h1 hX hM K
  · rw [t32]
    refine aw_tableIn cx 348 (off := 316) dL_law_32 ⟨by decide, by decide⟩ ⟨by decide, by decide⟩ (by decide +kernel) (by decide) ?_
    exact law_c8 cx hRm hNS hsc hlz hi h1 hX hM K
  · rw [t32]
    refine aw_tableIn cx 381 (off := 349) dL_law_32 ⟨by decide, by decide⟩ ⟨by decide, by decide⟩ (by decide +kernel) (by decide) ?_
    exact law_c9 cx hRm hNS hsc hlz hi h1 hX hM K
  · rw [t32]
    refine aw_tableIn cx 404 (off := 372) dL_law_32 ⟨by decide, by decide⟩ ⟨by decide, by decide⟩ (by decide +kernel) (by decide) ?_
    exact law_c10 cx hRm hNS hsc hlz hi h1 hX hM K
  · rw [t32]
    refine aw_tableIn cx 437 (off := 405) dL_law_32 ⟨by decide, by decide⟩ ⟨by decide, by decide⟩ (by decide +kernel) (by decide) ?_
    exact law_c11 cx hRm hNS hsc hlz hi h1 hX hM K
  · rw [t32]
    refine aw_tableIn cx 460 (off := 428) dL_law_32 ⟨by decide, by decide⟩ ⟨by decide, by decide⟩ (by decide +kernel) (by decide) ?_
    exact law_c12 cx hRm hNS hsc hlz hi h1 hX hM K
  · rw [t32]
    refine aw_tableIn cx 483 (off := 451) dL_law_32 ⟨by decide, by decide⟩ ⟨by decide, by decide⟩ (by decide +kernel) (by decide) ?_
    exact law_c13 cx hRm hNS hsc hlz hi h1 hX hM K
  · rw [t32]
    refine aw_tableIn cx 516 (off := 484) dL_law_32 ⟨by decide, by decide⟩ ⟨by decide, by decide⟩ (by decide +kernel) (by decide) ?_
    exact law_c14 cx hRm hNS hsc hlz hi h1 hX hM K
  · rw [t32]
    refine aw_tableIn cx 560 (off := 528) dL_law_32 ⟨by decide, by decide⟩ ⟨by decide, by decide⟩ (by decide +kernel) (by decide) ?_
    exact law_c15 cx hRm hNS hsc hlz hi h1 hX hM K
  · rw [t32]
    refine aw_tableIn cx 613 (off := 581) dL_law_32 ⟨by decide, by decide⟩ ⟨by decide, by decide⟩ (by decide +kernel) (by decide) ?_
    exact law_c16 cx hRm hNS hsc hlz hi h1 hX hM K
  · rw [t32]
    refine aw_tableIn cx 636 (off := 604) dL_law_32 ⟨by decide, by decide⟩ ⟨by decide, by decide⟩ (by decide +kernel) (by decide) ?_
    exact law_c17 cx hRm hNS hsc hlz hi h1 hX hM K
  · rw [t32]
    refine aw_tableIn cx 659 (off := 627) dL_law_32 ⟨by decide, by decide⟩ ⟨by decide, by decide⟩ (by decide +kernel) (by decide) ?_
    exact law_c18 cx hRm hNS hsc hlz hi h1 hX hM K
  · refine aw_tableOut cx 673 dL_law_32 hr t32 (by decide) ?_
    exact K h n g V tr h1 hX hM
set_option maxRecDepth 100000 in
set_option maxHeartbeats 4000000 in
theorem law_end {X : CT} {mn : String} (cx : zz_C X cL_law RL mn 4) (hsc : zz_sc X) (hlz : (zz_scr X).1 < 2147480000) (hRet : ∀ h : AH, h.1 = (30, 753) → zz_ret X (some (vI 1)) h) {h : AH} {i : Int} (hi : 0 ≤ i ∧ i ≤ ((zz_scr X).1 : Int) + 5) (hc : ((zz_scr X).1 : Int) - 5 < i) (h1 : h.1 = (30, 753)) : AW X 18 [some vS, some (vR 0), some (vR 20), some (vI i)] [] h := by
  refine aw_iload_n cx 19 dL_law_18 rfl rfl ?_
  refine aw_sload_n cx 20 dL_law_19 rfl rfl ?_
  refine aw_slen cx 21 dL_law_20 rfl hsc ?_
  refine aw_iconst cx 22 dL_law_21 rfl ?_
  refine aw_isub cx 23 dL_law_22 rfl ?_
  refine aw_icmp_gt cx 26 679 dL_law_23 rfl (by decide) ⟨⟨by omega, by omega⟩, ⟨by omega, by omega⟩⟩ (fun c23 => ?_) (fun c23 => ?_)
  · refine aw_iconst cx 680 dL_law_679 rfl ?_
    exact aw_ireturn cx dL_law_680 (hRet h h1)
  · exact absurd hc (by omega)
theorem law_head {X : CT} {mn : String} (cx : zz_C X cL_law RL mn 4) (hsc : zz_sc X) (hlz : (zz_scr X).1 < 2147480000) {h : AH} {i : Int} (hi : 0 ≤ i ∧ i ≤ ((zz_scr X).1 : Int) + 5) (hc : ¬ ((zz_scr X).1 : Int) - 5 < i) (k : AW X 26 [some vS, some (vR 0), some (vR 20), some (vI i)] [] h) : AW X 18 [some vS, some (vR 0), some (vR 20), some (vI i)] [] h := by
  refine aw_iload_n cx 19 dL_law_18 rfl rfl ?_
  refine aw_sload_n cx 20 dL_law_19 rfl rfl ?_
  refine aw_slen cx 21 dL_law_20 rfl hsc ?_
  refine aw_iconst cx 22 dL_law_21 rfl ?_
  refine aw_isub cx 23 dL_law_22 rfl ?_
  refine aw_icmp_gt cx 26 679 dL_law_23 rfl (by decide) ⟨⟨by omega, by omega⟩, ⟨by omega, by omega⟩⟩ (fun c23 => ?_) (fun c23 => ?_)
  · exact absurd c23 (by omega)
  · exact k
set_option maxRecDepth 100000 in
set_option maxHeartbeats 4000000 in
theorem law_loop {X : CT} {mn : String} (cx : zz_C X cL_law RL mn 4) (hRm : zz_R X = room_1) (hNS : zz_NS X = (0, 0)) (hsc : zz_sc X) (hlz : (zz_scr X).1 < 2147480000) (hRet : ∀ h : AH, h.1 = (30, 753) → zz_ret X (some (vI 1)) h) : ∀ (kf : Nat) (h : AH) (i n tr : Int) (g : Gr) (V : Int → Int), ((zz_scr X).1 : Int) - i < (kf : Int) → (0 ≤ i ∧ i ≤ ((zz_scr X).1 : Int) + 5) → h.1 = (30, 753) → XI h n g V tr → MI h n g V tr → AW X 18 [some vS, some (vR 0), some (vR 20), some (vI i)] [] h := by
  intro kf
  induction kf with
  | zero =>
    intro h i n tr g V hk hi h1 hX hM
    refine law_end cx hsc hlz hRet hi (by omega) h1
  | succ kf ih =>
    intro h i n tr g V hk hi h1 hX hM
    by_cases hc : ((zz_scr X).1 : Int) - 5 < i
    · exact law_end cx hsc hlz hRet hi hc h1
    · refine law_head cx hsc hlz hi hc ?_
      refine law_body cx hRm hNS hsc (by omega) ⟨by omega, by omega⟩ h1 hX hM (fun h' n' g' V' tr' a1 a2 a3 => ?_)
      refine aw_iinc cx 676 dL_law_673 rfl rfl (Nat.le_of_ble_eq_true rfl) rfl ?_
      dsimp only [List.set]
      refine aw_goto cx 18 dL_law_676 (by decide) ?_
      exact ih h' (i + 5) n' tr' g' V' (by omega) ⟨by omega, by omega⟩ a1 a2 a3
