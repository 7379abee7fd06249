set_option maxRecDepth 100000 in
set_option maxHeartbeats 4000000 in
theorem s_X5_failsBy {h : AH} {Q : Option AV → AH → Prop} {n tr : Int} {C K V A B L D T U : Int → Int} {g : Gr} (hn : 1 ≤ n ∧ n ≤ 8) (hA : ag n C g) (hg : rgn n g) (k : ∀ v A' B', v = fl n g → (v = 0 → FP n g A' B') → Q (some (vI v)) (hmd h n tr C K V A' B' L D T U)) : MC mX5_failsBy [vR 20] (hmd h n tr C K V A B L D T U) Q := by
  refine mc_start mX5_failsBy RX5 "failsBy" ⟨rfl, rfl, by decide +kernel⟩ [some (vR 20), none, none, none, none, none, none] ⟨6, rfl⟩ rfl (fun X cx hRm hNS hRet => ?_)
  have hR := rk_b (n := n) (g := g) (by omega) hg
  refine aw_iconst cx 1 dX5_failsBy_0 rfl ?_
  refine aw_istore_n cx 2 1 dX5_failsBy_1 rfl rfl ⟨Nat.le_of_ble_eq_true rfl, Nat.le_of_ble_eq_true rfl⟩ rfl ?_
  dsimp only [List.set]
  have lp2 : ∀ (kf : Nat) (a : Int), (n - a < (kf : Int)) → (0 ≤ a ∧ a ≤ n) → zzA n (tA g) a 0 → AW X 2 [some (vR 20), some (vI (a)), none, none, none, none, none] [] (hmd h n tr C K V A B L D T U) := by
    intro kf
    induction kf with
    | zero =>
      intro a hk ha hz
      exfalso
      omega
    | succ kf ih2 =>
      intro a hk ha hz
      refine aw_iload_n cx 3 dX5_failsBy_2 rfl rfl ?_
      refine aw_aload_n cx 4 dX5_failsBy_3 rfl rfl ?_
      refine aw_getfield cx 7 dX5_failsBy_4 rfl fdX5_7 (by first | exact mm_0 | exact mm_1 | exact mm_2 | exact mm_3 | exact mm_4 | exact mm_5 | exact mm_6 | exact mm_7 | exact mm_8 | exact mm_9) (by rfl) ?_
      refine aw_icmp_ge cx 10 69 dX5_failsBy_7 rfl (by decide) ⟨⟨by omega, by omega⟩, ⟨by omega, by omega⟩⟩ (fun c7 => ?_) (fun c7 => ?_)
      · have hZ : zzA n (tA g) n 0 := (show a = n by omega) ▸ hz
        refine aw_aload_n cx 70 dX5_failsBy_69 rfl rfl ?_
        refine aw_V0v cx 73 mX5_firsts (ci := 4) dX5_failsBy_70 rfl okmX5_firsts lkX5_64 (by first | exact mm_0 | exact mm_1 | exact mm_2 | exact mm_3 | exact mm_4 | exact mm_5 | exact mm_6 | exact mm_7 | exact mm_8 | exact mm_9) ⟨rfl, by decide⟩ (zz_rc0 mX5_failsBy hRm hNS rfl rfl) (Nat.le_of_ble_eq_true rfl) ?_
        refine s_X5_firsts hn hA hg (fun v70 A70 B70 e70 P70 => ⟨_, rfl, ?_⟩)
        refine aw_if_ne cx 76 80 dX5_failsBy_73 rfl (by decide) ⟨by omega, by omega⟩ (fun c73 => ?_) (fun c73 => ?_)
        · have hO : ∀ c, 0 ≤ c → c < 5 → c < rk n g → fp n g c ≠ -1 := by
            rcases e70 with ⟨_, w⟩ | ⟨w, _⟩
            · exact w
            · exfalso
              omega
          have hB0 := tB_0 hO
          refine aw_iconst cx 81 dX5_failsBy_80 rfl ?_
          refine aw_istore_n cx 82 1 dX5_failsBy_81 rfl rfl ⟨Nat.le_of_ble_eq_true rfl, Nat.le_of_ble_eq_true rfl⟩ rfl ?_
          dsimp only [List.set]
          have lp82 : ∀ (kf : Nat) (a : Int), (n - a < (kf : Int)) → (0 ≤ a ∧ a ≤ n) → zzA n (tC n g) a 0 → AW X 82 [some (vR 20), some (vI (a)), none, none, none, none, none] [] (hmd h n tr C K V A70 B70 L D T U) := by
            intro kf
            induction kf with
            | zero =>
              intro a hk ha hz2
              exfalso
              omega
            | succ kf ih82 =>
              intro a hk ha hz2
              refine aw_iload_n cx 83 dX5_failsBy_82 rfl rfl ?_
              refine aw_aload_n cx 84 dX5_failsBy_83 rfl rfl ?_
              refine aw_getfield cx 87 dX5_failsBy_84 rfl fdX5_7 (by first | exact mm_0 | exact mm_1 | exact mm_2 | exact mm_3 | exact mm_4 | exact mm_5 | exact mm_6 | exact mm_7 | exact mm_8 | exact mm_9) (by rfl) ?_
              refine aw_icmp_ge cx 90 155 dX5_failsBy_87 rfl (by decide) ⟨⟨by omega, by omega⟩, ⟨by omega, by omega⟩⟩ (fun c87 => ?_) (fun c87 => ?_)
              · have hY : zzA n (tC n g) n 0 := (show a = n by omega) ▸ hz2
                refine aw_aload_n cx 156 dX5_failsBy_155 rfl rfl ?_
                refine aw_V0v cx 159 mX5_rank (ci := 4) dX5_failsBy_156 rfl okmX5_rank lkX5_61 (by first | exact mm_0 | exact mm_1 | exact mm_2 | exact mm_3 | exact mm_4 | exact mm_5 | exact mm_6 | exact mm_7 | exact mm_8 | exact mm_9) ⟨rfl, by decide⟩ (zz_rc0 mX5_failsBy hRm hNS rfl rfl) (Nat.le_of_ble_eq_true rfl) ?_
                refine s_X5_rank hn hA hg (fun v156 e156 => ⟨_, rfl, ?_⟩)
                subst e156
                refine aw_istore_n cx 160 1 dX5_failsBy_159 rfl rfl ⟨Nat.le_of_ble_eq_true rfl, Nat.le_of_ble_eq_true rfl⟩ rfl ?_
                dsimp only [List.set]
                refine aw_iconst cx 161 dX5_failsBy_160 rfl ?_
                refine aw_istore_n cx 162 2 dX5_failsBy_161 rfl rfl ⟨Nat.le_of_ble_eq_true rfl, Nat.le_of_ble_eq_true rfl⟩ rfl ?_
                dsimp only [List.set]
                have lp162 : ∀ (kf : Nat) (a : Int), (n - a < (kf : Int)) → (0 ≤ a ∧ a ≤ n) → zzA n (tD n g) a 0 → AW X 162 [some (vR 20), some (vI (rk n g)), some (vI (a)), none, none, none, none] [] (hmd h n tr C K V A70 B70 L D T U) := by
                  intro kf
                  induction kf with
                  | zero =>
                    intro a hk ha hz3
                    exfalso
                    omega
                  | succ kf ih162 =>
                    intro a hk ha hz3
                    refine aw_iload_n cx 163 dX5_failsBy_162 rfl rfl ?_
                    refine aw_aload_n cx 164 dX5_failsBy_163 rfl rfl ?_
                    refine aw_getfield cx 167 dX5_failsBy_164 rfl fdX5_7 (by first | exact mm_0 | exact mm_1 | exact mm_2 | exact mm_3 | exact mm_4 | exact mm_5 | exact mm_6 | exact mm_7 | exact mm_8 | exact mm_9) (by rfl) ?_
                    refine aw_icmp_ge cx 170 276 dX5_failsBy_167 rfl (by decide) ⟨⟨by omega, by omega⟩, ⟨by omega, by omega⟩⟩ (fun c167 => ?_) (fun c167 => ?_)
                    · refine aw_iconst cx 277 dX5_failsBy_276 rfl ?_
                      refine aw_ireturn cx dX5_failsBy_277 ?_
                      refine hRet _ _ True.intro rfl ?_
                      exact k _ _ _ (fl0 (by omega) hZ hB0 hY ((show a = n by omega) ▸ hz3)).symm (fun _ => P70)
                    · refine aw_iconst cx 171 dX5_failsBy_170 rfl ?_
                      refine aw_istore_n cx 172 3 dX5_failsBy_171 rfl rfl ⟨Nat.le_of_ble_eq_true rfl, Nat.le_of_ble_eq_true rfl⟩ rfl ?_
                      dsimp only [List.set]
                      have lp172 : ∀ (kf : Nat) (b : Int), (n - b < (kf : Int)) → (0 ≤ b ∧ b ≤ n) → zzA n (tD n g) a b → AW X 172 [some (vR 20), some (vI (rk n g)), some (vI (a)), some (vI (b)), none, none, none] [] (hmd h n tr C K V A70 B70 L D T U) := by
                        intro kf
                        induction kf with
                        | zero =>
                          intro b hk hb hy
                          exfalso
                          omega
                        | succ kf ih172 =>
                          intro b hk hb hy
                          refine aw_iload_n cx 173 dX5_failsBy_172 rfl rfl ?_
                          refine aw_aload_n cx 174 dX5_failsBy_173 rfl rfl ?_
                          refine aw_getfield cx 177 dX5_failsBy_174 rfl fdX5_7 (by first | exact mm_0 | exact mm_1 | exact mm_2 | exact mm_3 | exact mm_4 | exact mm_5 | exact mm_6 | exact mm_7 | exact mm_8 | exact mm_9) (by rfl) ?_
                          refine aw_icmp_ge cx 180 270 dX5_failsBy_177 rfl (by decide) ⟨⟨by omega, by omega⟩, ⟨by omega, by omega⟩⟩ (fun c177 => ?_) (fun c177 => ?_)
                          · refine aw_iinc cx 273 dX5_failsBy_270 rfl rfl (Nat.le_of_ble_eq_true rfl) rfl ?_
                            dsimp only [List.set]
                            refine aw_goto cx 162 dX5_failsBy_273 (by decide) ?_
                            exact aw_weak (ih162 (a + 1) (by omega) ⟨by omega, by omega⟩ (zzA_row hy (by omega))) (by simp [zz_le])
                          · refine aw_aload_n cx 181 dX5_failsBy_180 rfl rfl ?_
                            refine aw_iload_n cx 182 dX5_failsBy_181 rfl rfl ?_
                            refine aw_iload_n cx 183 dX5_failsBy_182 rfl rfl ?_
                            refine aw_V2v cx 186 mX5_hue (ci := 4) dX5_failsBy_183 rfl okmX5_hue lkX5_53 (by first | exact mm_0 | exact mm_1 | exact mm_2 | exact mm_3 | exact mm_4 | exact mm_5 | exact mm_6 | exact mm_7 | exact mm_8 | exact mm_9) ⟨rfl, by decide⟩ (zz_rc0 mX5_failsBy hRm hNS rfl rfl) (Nat.le_of_ble_eq_true rfl) ?_
                            refine s_X5_hue ⟨by omega, by omega⟩ ⟨by omega, by omega⟩ (fun v183 e183 => ⟨_, rfl, ?_⟩)
                            have q183 := hA a b (by omega) (by omega) (by omega) (by omega)
                            have w183 := hg a b (by omega) (by omega) (by omega) (by omega)
                            rw [q183] at e183
                            subst e183
                            have oc := fp_occ (n := n) (g := g) (a := a) (b := b) ⟨by omega, by omega⟩ ⟨by omega, by omega⟩ ⟨by omega, by omega⟩
                            obtain ⟨pA, pB⟩ := P70 (g a b) (by omega) (by omega) oc
                            obtain ⟨f0, f1, f2⟩ := fp_col (n := n) (g := g) ⟨by omega, by omega⟩ oc
                            refine aw_istore cx 188 dX5_failsBy_186 rfl ⟨Nat.le_of_ble_eq_true rfl, Nat.le_of_ble_eq_true rfl⟩ rfl ?_
                            dsimp only [List.set]
                            refine aw_iconst cx 189 dX5_failsBy_188 rfl ?_
                            refine aw_istore cx 191 dX5_failsBy_189 rfl ⟨Nat.le_of_ble_eq_true rfl, Nat.le_of_ble_eq_true rfl⟩ rfl ?_
                            dsimp only [List.set]
                            have lp191 : ∀ (kf : Nat) (i : Int), (rk n g - i < (kf : Int)) → (0 ≤ i ∧ i ≤ rk n g) → (∀ x y, 0 ≤ x → x < i → 0 ≤ y → y < rk n g → cn n g a b x y = nu n g x y (g a b)) → AW X 191 [some (vR 20), some (vI (rk n g)), some (vI (a)), some (vI (b)), some (vI (g a b)), some (vI (i)), none] [] (hmd h n tr C K V A70 B70 L D T U) := by
                              intro kf
                              induction kf with
                              | zero =>
                                intro i hk hi hI
                                exfalso
                                omega
                              | succ kf ih191 =>
                                intro i hk hi hI
                                refine aw_iload cx 193 dX5_failsBy_191 rfl rfl ?_
                                refine aw_iload_n cx 194 dX5_failsBy_193 rfl rfl ?_
                                refine aw_icmp_ge cx 197 264 dX5_failsBy_194 rfl (by decide) ⟨⟨by omega, by omega⟩, ⟨by omega, by omega⟩⟩ (fun c194 => ?_) (fun c194 => ?_)
                                · refine aw_iinc cx 267 dX5_failsBy_264 rfl rfl (Nat.le_of_ble_eq_true rfl) rfl ?_
                                  dsimp only [List.set]
                                  refine aw_goto cx 172 dX5_failsBy_267 (by decide) ?_
                                  exact aw_weak (ih172 (b + 1) (by omega) ⟨by omega, by omega⟩ (zzA_s hy (tD_r hn ⟨by omega, by omega⟩ ⟨by omega, by omega⟩ (by rw [show i = rk n g by omega] at hI; exact hI)))) (by simp [zz_le])
                                · refine aw_iconst cx 198 dX5_failsBy_197 rfl ?_
                                  refine aw_istore cx 200 dX5_failsBy_198 rfl ⟨Nat.le_of_ble_eq_true rfl, Nat.le_of_ble_eq_true rfl⟩ rfl ?_
                                  dsimp only [List.set]
                                  have lp200 : ∀ (kf : Nat) (j : Int), (rk n g - j < (kf : Int)) → (0 ≤ j ∧ j ≤ rk n g) → (∀ y, 0 ≤ y → y < j → cn n g a b i y = nu n g i y (g a b)) → AW X 200 [some (vR 20), some (vI (rk n g)), some (vI (a)), some (vI (b)), some (vI (g a b)), some (vI (i)), some (vI (j))] [] (hmd h n tr C K V A70 B70 L D T U) := by
                                    intro kf
                                    induction kf with
                                    | zero =>
                                      intro j hk hj hJ
                                      exfalso
                                      omega
                                    | succ kf ih200 =>
                                      intro j hk hj hJ
                                      refine aw_iload cx 202 dX5_failsBy_200 rfl rfl ?_
                                      refine aw_iload_n cx 203 dX5_failsBy_202 rfl rfl ?_
                                      refine aw_icmp_ge cx 206 258 dX5_failsBy_203 rfl (by decide) ⟨⟨by omega, by omega⟩, ⟨by omega, by omega⟩⟩ (fun c203 => ?_) (fun c203 => ?_)
                                      · refine aw_iinc cx 261 dX5_failsBy_258 rfl rfl (Nat.le_of_ble_eq_true rfl) rfl ?_
                                        dsimp only [List.set]
                                        refine aw_goto cx 191 dX5_failsBy_261 (by decide) ?_
                                        exact aw_weak (ih191 (i + 1) (by omega) ⟨by omega, by omega⟩ (fun x y x0 x1 y0 y1 => by
                                          by_cases e : x = i
                                          · rw [e]
                                            exact hJ y y0 (by omega)
                                          · exact hI x y x0 (by omega) y0 y1)) (by simp [zz_le])
                                      · refine aw_aload_n cx 207 dX5_failsBy_206 rfl rfl ?_
                                        refine aw_iload_n cx 208 dX5_failsBy_207 rfl rfl ?_
                                        refine aw_iload_n cx 209 dX5_failsBy_208 rfl rfl ?_
                                        refine aw_iload cx 211 dX5_failsBy_209 rfl rfl ?_
                                        refine aw_iload cx 213 dX5_failsBy_211 rfl rfl ?_
                                        refine aw_V4v cx 216 mX5_between (ci := 4) dX5_failsBy_213 rfl okmX5_between lkX5_68 (by first | exact mm_0 | exact mm_1 | exact mm_2 | exact mm_3 | exact mm_4 | exact mm_5 | exact mm_6 | exact mm_7 | exact mm_8 | exact mm_9) ⟨rfl, by decide⟩ (zz_rc0 mX5_failsBy hRm hNS rfl rfl) (Nat.le_of_ble_eq_true rfl) ?_
                                        refine s_X5_between hn hA hg ⟨by omega, by omega⟩ ⟨by omega, by omega⟩ ⟨by omega, by omega⟩ ⟨by omega, by omega⟩ (fun v213 e213 => ⟨_, rfl, ?_⟩)
                                        have b213 := cn_b (n := n) (by omega) g a b i j
                                        refine aw_aload_n cx 217 dX5_failsBy_216 rfl rfl ?_
                                        refine aw_aload_n cx 218 dX5_failsBy_217 rfl rfl ?_
                                        refine aw_getfield cx 221 dX5_failsBy_218 rfl fdX5_23 (by first | exact mm_0 | exact mm_1 | exact mm_2 | exact mm_3 | exact mm_4 | exact mm_5 | exact mm_6 | exact mm_7 | exact mm_8 | exact mm_9) (by rfl) ?_
                                        refine aw_iload cx 223 dX5_failsBy_221 rfl rfl ?_
                                        refine aw_iaload cx 224 dX5_failsBy_223 rfl (by first | exact mm_0 | exact mm_1 | exact mm_2 | exact mm_3 | exact mm_4 | exact mm_5 | exact mm_6 | exact mm_7 | exact mm_8 | exact mm_9) ⟨by omega, by omega⟩ (by decide) ?_
                                        refine aw_aload_n cx 225 dX5_failsBy_224 rfl rfl ?_
                                        refine aw_getfield cx 228 dX5_failsBy_225 rfl fdX5_26 (by first | exact mm_0 | exact mm_1 | exact mm_2 | exact mm_3 | exact mm_4 | exact mm_5 | exact mm_6 | exact mm_7 | exact mm_8 | exact mm_9) (by rfl) ?_
                                        refine aw_iload cx 230 dX5_failsBy_228 rfl rfl ?_
                                        refine aw_iaload cx 231 dX5_failsBy_230 rfl (by first | exact mm_0 | exact mm_1 | exact mm_2 | exact mm_3 | exact mm_4 | exact mm_5 | exact mm_6 | exact mm_7 | exact mm_8 | exact mm_9) ⟨by omega, by omega⟩ (by decide) ?_
                                        refine aw_iload cx 233 dX5_failsBy_231 rfl rfl ?_
                                        refine aw_iload cx 235 dX5_failsBy_233 rfl rfl ?_
                                        refine aw_V4v cx 238 mX5_between (ci := 4) dX5_failsBy_235 rfl okmX5_between lkX5_68 (by first | exact mm_0 | exact mm_1 | exact mm_2 | exact mm_3 | exact mm_4 | exact mm_5 | exact mm_6 | exact mm_7 | exact mm_8 | exact mm_9) ⟨rfl, by decide⟩ (zz_rc0 mX5_failsBy hRm hNS rfl rfl) (Nat.le_of_ble_eq_true rfl) ?_
                                        refine s_X5_between hn hA hg ⟨by omega, by omega⟩ ⟨by omega, by omega⟩ ⟨by omega, by omega⟩ ⟨by omega, by omega⟩ (fun v235 e235 => ⟨_, rfl, ?_⟩)
                                        rw [pA, pB] at e235
                                        change v235 = nu n g i j (g a b) at e235
                                        have b235 := nu_b (n := n) (g := g) (by omega) i j (g a b)
                                        refine aw_icmp_eq cx 241 252 dX5_failsBy_238 rfl (by decide) ⟨⟨by omega, by omega⟩, ⟨by omega, by omega⟩⟩ (fun c238 => ?_) (fun c238 => ?_)
                                        · refine aw_iinc cx 255 dX5_failsBy_252 rfl rfl (Nat.le_of_ble_eq_true rfl) rfl ?_
                                          dsimp only [List.set]
                                          refine aw_goto cx 200 dX5_failsBy_255 (by decide) ?_
                                          exact ih200 (j + 1) (by omega) ⟨by omega, by omega⟩ (fun y y0 y1 => by
                                            by_cases e : y = j
                                            · rw [e]
                                              omega
                                            · exact hJ y y0 (by omega))
                                        · refine aw_sipush cx 244 dX5_failsBy_241 rfl (by decide +kernel) ?_
                                          refine aw_bipush cx 246 dX5_failsBy_244 rfl (by decide +kernel) ?_
                                          refine aw_iload_n cx 247 dX5_failsBy_246 rfl rfl ?_
                                          refine aw_imul cx 248 dX5_failsBy_247 rfl ?_
                                          refine aw_iadd cx 249 dX5_failsBy_248 rfl ?_
                                          refine aw_iload_n cx 250 dX5_failsBy_249 rfl rfl ?_
                                          refine aw_iadd cx 251 dX5_failsBy_250 rfl ?_
                                          refine aw_ireturn cx dX5_failsBy_251 ?_
                                          refine hRet _ _ True.intro rfl ?_
                                          exact k _ _ _ (flD ⟨by omega, by omega⟩ ⟨by omega, by omega⟩ hZ hB0 hY hy (tD_1 (i := i) (j := j) ⟨by omega, by omega⟩ ⟨by omega, by omega⟩ (by omega))).symm (fun q => by omega)
                                  exact lp200 6 0 (by omega) ⟨by omega, by omega⟩ (fun y y0 y1 => by omega)
                            exact aw_weak (lp191 6 0 (by omega) ⟨by omega, by omega⟩ (fun x y x0 x1 => by omega)) (by simp [zz_le])
                      exact lp172 (n.toNat + 1) 0 (by omega) ⟨by omega, by omega⟩ hz3
                exact aw_weak (lp162 (n.toNat + 1) 0 (by omega) ⟨by omega, by omega⟩ zzA_0) (by simp [zz_le])
              · refine aw_iconst cx 91 dX5_failsBy_90 rfl ?_
                refine aw_istore_n cx 92 2 dX5_failsBy_91 rfl rfl ⟨Nat.le_of_ble_eq_true rfl, Nat.le_of_ble_eq_true rfl⟩ rfl ?_
                dsimp only [List.set]
                have lp92 : ∀ (kf : Nat) (b : Int), (n - b < (kf : Int)) → (0 ≤ b ∧ b ≤ n) → zzA n (tC n g) a b → AW X 92 [some (vR 20), some (vI (a)), some (vI (b)), none, none, none, none] [] (hmd h n tr C K V A70 B70 L D T U) := by
                  intro kf
                  induction kf with
                  | zero =>
                    intro b hk hb hy
                    exfalso
                    omega
                  | succ kf ih92 =>
                    intro b hk hb hy
                    refine aw_iload_n cx 93 dX5_failsBy_92 rfl rfl ?_
                    refine aw_aload_n cx 94 dX5_failsBy_93 rfl rfl ?_
                    refine aw_getfield cx 97 dX5_failsBy_94 rfl fdX5_7 (by first | exact mm_0 | exact mm_1 | exact mm_2 | exact mm_3 | exact mm_4 | exact mm_5 | exact mm_6 | exact mm_7 | exact mm_8 | exact mm_9) (by rfl) ?_
                    refine aw_icmp_ge cx 100 149 dX5_failsBy_97 rfl (by decide) ⟨⟨by omega, by omega⟩, ⟨by omega, by omega⟩⟩ (fun c97 => ?_) (fun c97 => ?_)
                    · refine aw_iinc cx 152 dX5_failsBy_149 rfl rfl (Nat.le_of_ble_eq_true rfl) rfl ?_
                      dsimp only [List.set]
                      refine aw_goto cx 82 dX5_failsBy_152 (by decide) ?_
                      exact aw_weak (ih82 (a + 1) (by omega) ⟨by omega, by omega⟩ (zzA_row hy (by omega))) (by simp [zz_le])
                    · refine aw_aload_n cx 101 dX5_failsBy_100 rfl rfl ?_
                      refine aw_iload_n cx 102 dX5_failsBy_101 rfl rfl ?_
                      refine aw_iload_n cx 103 dX5_failsBy_102 rfl rfl ?_
                      refine aw_V2v cx 106 mX5_hue (ci := 4) dX5_failsBy_103 rfl okmX5_hue lkX5_53 (by first | exact mm_0 | exact mm_1 | exact mm_2 | exact mm_3 | exact mm_4 | exact mm_5 | exact mm_6 | exact mm_7 | exact mm_8 | exact mm_9) ⟨rfl, by decide⟩ (zz_rc0 mX5_failsBy hRm hNS rfl rfl) (Nat.le_of_ble_eq_true rfl) ?_
                      refine s_X5_hue ⟨by omega, by omega⟩ ⟨by omega, by omega⟩ (fun v103 e103 => ⟨_, rfl, ?_⟩)
                      have q103 := hA a b (by omega) (by omega) (by omega) (by omega)
                      have w103 := hg a b (by omega) (by omega) (by omega) (by omega)
                      rw [q103] at e103
                      subst e103
                      have oc := fp_occ (n := n) (g := g) (a := a) (b := b) ⟨by omega, by omega⟩ ⟨by omega, by omega⟩ ⟨by omega, by omega⟩
                      obtain ⟨pA, pB⟩ := P70 (g a b) (by omega) (by omega) oc
                      obtain ⟨f0, f1, f2⟩ := fp_col (n := n) (g := g) ⟨by omega, by omega⟩ oc
                      refine aw_istore_n cx 107 3 dX5_failsBy_106 rfl rfl ⟨Nat.le_of_ble_eq_true rfl, Nat.le_of_ble_eq_true rfl⟩ rfl ?_
                      dsimp only [List.set]
                      refine aw_aload_n cx 108 dX5_failsBy_107 rfl rfl ?_
                      refine aw_iload_n cx 109 dX5_failsBy_108 rfl rfl ?_
                      refine aw_iload_n cx 110 dX5_failsBy_109 rfl rfl ?_
                      refine aw_V2v cx 113 mX5_hue (ci := 4) dX5_failsBy_110 rfl okmX5_hue lkX5_53 (by first | exact mm_0 | exact mm_1 | exact mm_2 | exact mm_3 | exact mm_4 | exact mm_5 | exact mm_6 | exact mm_7 | exact mm_8 | exact mm_9) ⟨rfl, by decide⟩ (zz_rc0 mX5_failsBy hRm hNS rfl rfl) (Nat.le_of_ble_eq_true rfl) ?_
                      refine s_X5_hue ⟨by omega, by omega⟩ ⟨by omega, by omega⟩ (fun v110 e110 => ⟨_, rfl, ?_⟩)
                      have q110 := hA b a (by omega) (by omega) (by omega) (by omega)
                      have w110 := hg b a (by omega) (by omega) (by omega) (by omega)
                      refine aw_aload_n cx 114 dX5_failsBy_113 rfl rfl ?_
                      refine aw_aload_n cx 115 dX5_failsBy_114 rfl rfl ?_
                      refine aw_getfield cx 118 dX5_failsBy_115 rfl fdX5_26 (by first | exact mm_0 | exact mm_1 | exact mm_2 | exact mm_3 | exact mm_4 | exact mm_5 | exact mm_6 | exact mm_7 | exact mm_8 | exact mm_9) (by rfl) ?_
                      refine aw_iload_n cx 119 dX5_failsBy_118 rfl rfl ?_
                      refine aw_iaload cx 120 dX5_failsBy_119 rfl (by first | exact mm_0 | exact mm_1 | exact mm_2 | exact mm_3 | exact mm_4 | exact mm_5 | exact mm_6 | exact mm_7 | exact mm_8 | exact mm_9) ⟨by omega, by omega⟩ (by decide) ?_
                      refine aw_aload_n cx 121 dX5_failsBy_120 rfl rfl ?_
                      refine aw_getfield cx 124 dX5_failsBy_121 rfl fdX5_23 (by first | exact mm_0 | exact mm_1 | exact mm_2 | exact mm_3 | exact mm_4 | exact mm_5 | exact mm_6 | exact mm_7 | exact mm_8 | exact mm_9) (by rfl) ?_
                      refine aw_iload_n cx 125 dX5_failsBy_124 rfl rfl ?_
                      refine aw_iaload cx 126 dX5_failsBy_125 rfl (by first | exact mm_0 | exact mm_1 | exact mm_2 | exact mm_3 | exact mm_4 | exact mm_5 | exact mm_6 | exact mm_7 | exact mm_8 | exact mm_9) ⟨by omega, by omega⟩ (by decide) ?_
                      refine aw_V2v cx 129 mX5_hue (ci := 4) dX5_failsBy_126 rfl okmX5_hue lkX5_53 (by first | exact mm_0 | exact mm_1 | exact mm_2 | exact mm_3 | exact mm_4 | exact mm_5 | exact mm_6 | exact mm_7 | exact mm_8 | exact mm_9) ⟨rfl, by decide⟩ (zz_rc0 mX5_failsBy hRm hNS rfl rfl) (Nat.le_of_ble_eq_true rfl) ?_
                      refine s_X5_hue ⟨by omega, by omega⟩ ⟨by omega, by omega⟩ (fun v126 e126 => ⟨_, rfl, ?_⟩)
                      rw [pA, pB] at e126
                      have q126 := hA (fp n g (g a b) % 8) (fp n g (g a b) / 8) (by omega) (by omega) (by omega) (by omega)
                      rw [← rv_f oc] at q126
                      have w126 := rv_b (n := n) (g := g) ⟨by omega, by omega⟩ hg (g a b)
                      refine aw_icmp_eq cx 132 143 dX5_failsBy_129 rfl (by decide) ⟨⟨by omega, by omega⟩, ⟨by omega, by omega⟩⟩ (fun c129 => ?_) (fun c129 => ?_)
                      · refine aw_iinc cx 146 dX5_failsBy_143 rfl rfl (Nat.le_of_ble_eq_true rfl) rfl ?_
                        dsimp only [List.set]
                        refine aw_goto cx 92 dX5_failsBy_146 (by decide) ?_
                        exact aw_weak (ih92 (b + 1) (by omega) ⟨by omega, by omega⟩ (zzA_s hy (tC_0 (by omega)))) (by simp [zz_le])
                      · refine aw_sipush cx 135 dX5_failsBy_132 rfl (by decide +kernel) ?_
                        refine aw_bipush cx 137 dX5_failsBy_135 rfl (by decide +kernel) ?_
                        refine aw_iload_n cx 138 dX5_failsBy_137 rfl rfl ?_
                        refine aw_imul cx 139 dX5_failsBy_138 rfl ?_
                        refine aw_iadd cx 140 dX5_failsBy_139 rfl ?_
                        refine aw_iload_n cx 141 dX5_failsBy_140 rfl rfl ?_
                        refine aw_iadd cx 142 dX5_failsBy_141 rfl ?_
                        refine aw_ireturn cx dX5_failsBy_142 ?_
                        refine hRet _ _ True.intro rfl ?_
                        exact k _ _ _ (flC ⟨by omega, by omega⟩ ⟨by omega, by omega⟩ hZ hB0 hy (tC_1 (by omega))).symm (fun q => by omega)
                exact lp92 (n.toNat + 1) 0 (by omega) ⟨by omega, by omega⟩ hz2
          exact aw_weak (lp82 (n.toNat + 1) 0 (by omega) ⟨by omega, by omega⟩ zzA_0) (by simp [zz_le])
        · refine aw_sipush cx 79 dX5_failsBy_76 rfl (by decide +kernel) ?_
          refine aw_ireturn cx dX5_failsBy_79 ?_
          refine hRet _ _ True.intro rfl ?_
          exact k _ _ _ (flB (by omega) hZ (by rcases e70 with ⟨w, _⟩ | ⟨_, w⟩; exfalso; omega; exact w)).symm (fun q => by omega)
      · refine aw_iconst cx 11 dX5_failsBy_10 rfl ?_
        refine aw_istore_n cx 12 2 dX5_failsBy_11 rfl rfl ⟨Nat.le_of_ble_eq_true rfl, Nat.le_of_ble_eq_true rfl⟩ rfl ?_
        dsimp only [List.set]
        have lp12 : ∀ (kf : Nat) (b : Int), (n - b < (kf : Int)) → (0 ≤ b ∧ b ≤ n) → zzA n (tA g) a b → AW X 12 [some (vR 20), some (vI (a)), some (vI (b)), none, none, none, none] [] (hmd h n tr C K V A B L D T U) := by
          intro kf
          induction kf with
          | zero =>
            intro b hk hb hy
            exfalso
            omega
          | succ kf ih12 =>
            intro b hk hb hy
            refine aw_iload_n cx 13 dX5_failsBy_12 rfl rfl ?_
            refine aw_aload_n cx 14 dX5_failsBy_13 rfl rfl ?_
            refine aw_getfield cx 17 dX5_failsBy_14 rfl fdX5_7 (by first | exact mm_0 | exact mm_1 | exact mm_2 | exact mm_3 | exact mm_4 | exact mm_5 | exact mm_6 | exact mm_7 | exact mm_8 | exact mm_9) (by rfl) ?_
            refine aw_icmp_ge cx 20 63 dX5_failsBy_17 rfl (by decide) ⟨⟨by omega, by omega⟩, ⟨by omega, by omega⟩⟩ (fun c17 => ?_) (fun c17 => ?_)
            · refine aw_iinc cx 66 dX5_failsBy_63 rfl rfl (Nat.le_of_ble_eq_true rfl) rfl ?_
              dsimp only [List.set]
              refine aw_goto cx 2 dX5_failsBy_66 (by decide) ?_
              exact aw_weak (ih2 (a + 1) (by omega) ⟨by omega, by omega⟩ (zzA_row hy (by omega))) (by simp [zz_le])
            · refine aw_iload_n cx 21 dX5_failsBy_20 rfl rfl ?_
              refine aw_iload_n cx 22 dX5_failsBy_21 rfl rfl ?_
              refine aw_icmp_ne cx 25 29 dX5_failsBy_22 rfl (by decide) ⟨⟨by omega, by omega⟩, ⟨by omega, by omega⟩⟩ (fun c22 => ?_) (fun c22 => ?_)
              · refine aw_iconst cx 30 dX5_failsBy_29 rfl ?_
                refine aw_aload_n cx 31 dX5_failsBy_30 rfl rfl ?_
                refine aw_iload_n cx 32 dX5_failsBy_31 rfl rfl ?_
                refine aw_iload_n cx 33 dX5_failsBy_32 rfl rfl ?_
                refine aw_V2v cx 36 mX5_hue (ci := 4) dX5_failsBy_33 rfl okmX5_hue lkX5_53 (by first | exact mm_0 | exact mm_1 | exact mm_2 | exact mm_3 | exact mm_4 | exact mm_5 | exact mm_6 | exact mm_7 | exact mm_8 | exact mm_9) ⟨rfl, by decide⟩ (zz_rc0 mX5_failsBy hRm hNS rfl rfl) (Nat.le_of_ble_eq_true rfl) ?_
                refine s_X5_hue ⟨by omega, by omega⟩ ⟨by omega, by omega⟩ (fun v33 e33 => ⟨_, rfl, ?_⟩)
                have q33 := hA a b (by omega) (by omega) (by omega) (by omega)
                have w33 := hg a b (by omega) (by omega) (by omega) (by omega)
                refine aw_if_ne cx 39 43 dX5_failsBy_36 rfl (by decide) ⟨by omega, by omega⟩ (fun c36 => ?_) (fun c36 => ?_)
                · refine aw_iconst cx 44 dX5_failsBy_43 rfl ?_
                  refine aw_icmp_eq cx 47 57 dX5_failsBy_44 rfl (by decide) ⟨⟨by omega, by omega⟩, ⟨by omega, by omega⟩⟩ (fun c44 => ?_) (fun c44 => ?_)
                  · refine aw_iinc cx 60 dX5_failsBy_57 rfl rfl (Nat.le_of_ble_eq_true rfl) rfl ?_
                    dsimp only [List.set]
                    refine aw_goto cx 12 dX5_failsBy_60 (by decide) ?_
                    exact ih12 (b + 1) (by omega) ⟨by omega, by omega⟩ (zzA_s hy (tA_0 (by omega)))
                  · refine aw_bipush cx 49 dX5_failsBy_47 rfl (by decide +kernel) ?_
                    refine aw_bipush cx 51 dX5_failsBy_49 rfl (by decide +kernel) ?_
                    refine aw_iload_n cx 52 dX5_failsBy_51 rfl rfl ?_
                    refine aw_imul cx 53 dX5_failsBy_52 rfl ?_
                    refine aw_iadd cx 54 dX5_failsBy_53 rfl ?_
                    refine aw_iload_n cx 55 dX5_failsBy_54 rfl rfl ?_
                    refine aw_iadd cx 56 dX5_failsBy_55 rfl ?_
                    refine aw_ireturn cx dX5_failsBy_56 ?_
                    refine hRet _ _ True.intro rfl ?_
                    first
                    | (exfalso; omega)
                    | exact k _ _ _ (flA ⟨by omega, by omega⟩ ⟨by omega, by omega⟩ hy (tA_1 (by omega))).symm (fun q => by omega)
                · refine aw_iconst cx 40 dX5_failsBy_39 rfl ?_
                  refine aw_goto cx 44 dX5_failsBy_40 (by decide) ?_
                  refine aw_icmp_eq cx 47 57 dX5_failsBy_44 rfl (by decide) ⟨⟨by omega, by omega⟩, ⟨by omega, by omega⟩⟩ (fun c44 => ?_) (fun c44 => ?_)
                  · refine aw_iinc cx 60 dX5_failsBy_57 rfl rfl (Nat.le_of_ble_eq_true rfl) rfl ?_
                    dsimp only [List.set]
                    refine aw_goto cx 12 dX5_failsBy_60 (by decide) ?_
                    exact ih12 (b + 1) (by omega) ⟨by omega, by omega⟩ (zzA_s hy (tA_0 (by omega)))
                  · refine aw_bipush cx 49 dX5_failsBy_47 rfl (by decide +kernel) ?_
                    refine aw_bipush cx 51 dX5_failsBy_49 rfl (by decide +kernel) ?_
                    refine aw_iload_n cx 52 dX5_failsBy_51 rfl rfl ?_
                    refine aw_imul cx 53 dX5_failsBy_52 rfl ?_
                    refine aw_iadd cx 54 dX5_failsBy_53 rfl ?_
                    refine aw_iload_n cx 55 dX5_failsBy_54 rfl rfl ?_
                    refine aw_iadd cx 56 dX5_failsBy_55 rfl ?_
                    refine aw_ireturn cx dX5_failsBy_56 ?_
                    refine hRet _ _ True.intro rfl ?_
                    first
                    | (exfalso; omega)
                    | exact k _ _ _ (flA ⟨by omega, by omega⟩ ⟨by omega, by omega⟩ hy (tA_1 (by omega))).symm (fun q => by omega)
              · refine aw_iconst cx 26 dX5_failsBy_25 rfl ?_
                refine aw_goto cx 30 dX5_failsBy_26 (by decide) ?_
                refine aw_aload_n cx 31 dX5_failsBy_30 rfl rfl ?_
                refine aw_iload_n cx 32 dX5_failsBy_31 rfl rfl ?_
                refine aw_iload_n cx 33 dX5_failsBy_32 rfl rfl ?_
                refine aw_V2v cx 36 mX5_hue (ci := 4) dX5_failsBy_33 rfl okmX5_hue lkX5_53 (by first | exact mm_0 | exact mm_1 | exact mm_2 | exact mm_3 | exact mm_4 | exact mm_5 | exact mm_6 | exact mm_7 | exact mm_8 | exact mm_9) ⟨rfl, by decide⟩ (zz_rc0 mX5_failsBy hRm hNS rfl rfl) (Nat.le_of_ble_eq_true rfl) ?_
                refine s_X5_hue ⟨by omega, by omega⟩ ⟨by omega, by omega⟩ (fun v33 e33 => ⟨_, rfl, ?_⟩)
                have q33 := hA a b (by omega) (by omega) (by omega) (by omega)
                have w33 := hg a b (by omega) (by omega) (by omega) (by omega)
                refine aw_if_ne cx 39 43 dX5_failsBy_36 rfl (by decide) ⟨by omega, by omega⟩ (fun c36 => ?_) (fun c36 => ?_)
                · refine aw_iconst cx 44 dX5_failsBy_43 rfl ?_
                  refine aw_icmp_eq cx 47 57 dX5_failsBy_44 rfl (by decide) ⟨⟨by omega, by omega⟩, ⟨by omega, by omega⟩⟩ (fun c44 => ?_) (fun c44 => ?_)
                  · refine aw_iinc cx 60 dX5_failsBy_57 rfl rfl (Nat.le_of_ble_eq_true rfl) rfl ?_
                    dsimp only [List.set]
                    refine aw_goto cx 12 dX5_failsBy_60 (by decide) ?_
                    exact ih12 (b + 1) (by omega) ⟨by omega, by omega⟩ (zzA_s hy (tA_0 (by omega)))
                  · refine aw_bipush cx 49 dX5_failsBy_47 rfl (by decide +kernel) ?_
                    refine aw_bipush cx 51 dX5_failsBy_49 rfl (by decide +kernel) ?_
                    refine aw_iload_n cx 52 dX5_failsBy_51 rfl rfl ?_
                    refine aw_imul cx 53 dX5_failsBy_52 rfl ?_
                    refine aw_iadd cx 54 dX5_failsBy_53 rfl ?_
                    refine aw_iload_n cx 55 dX5_failsBy_54 rfl rfl ?_
                    refine aw_iadd cx 56 dX5_failsBy_55 rfl ?_
                    refine aw_ireturn cx dX5_failsBy_56 ?_
                    refine hRet _ _ True.intro rfl ?_
                    first
                    | (exfalso; omega)
                    | exact k _ _ _ (flA ⟨by omega, by omega⟩ ⟨by omega, by omega⟩ hy (tA_1 (by omega))).symm (fun q => by omega)
                · refine aw_iconst cx 40 dX5_failsBy_39 rfl ?_
                  refine aw_goto cx 44 dX5_failsBy_40 (by decide) ?_
                  refine aw_icmp_eq cx 47 57 dX5_failsBy_44 rfl (by decide) ⟨⟨by omega, by omega⟩, ⟨by omega, by omega⟩⟩ (fun c44 => ?_) (fun c44 => ?_)
                  · refine aw_iinc cx 60 dX5_failsBy_57 rfl rfl (Nat.le_of_ble_eq_true rfl) rfl ?_
                    dsimp only [List.set]
                    refine aw_goto cx 12 dX5_failsBy_60 (by decide) ?_
                    exact ih12 (b + 1) (by omega) ⟨by omega, by omega⟩ (zzA_s hy (tA_0 (by omega)))
                  · refine aw_bipush cx 49 dX5_failsBy_47 rfl (by decide +kernel) ?_
                    refine aw_bipush cx 51 dX5_failsBy_49 rfl (by decide +kernel) ?_
                    refine aw_iload_n cx 52 dX5_failsBy_51 rfl rfl ?_
                    refine aw_imul cx 53 dX5_failsBy_52 rfl ?_
                    refine aw_iadd cx 54 dX5_failsBy_53 rfl ?_
                    refine aw_iload_n cx 55 dX5_failsBy_54 rfl rfl ?_
                    refine aw_iadd cx 56 dX5_failsBy_55 rfl ?_
                    refine aw_ireturn cx dX5_failsBy_56 ?_
                    refine hRet _ _ True.intro rfl ?_
                    first
                    | (exfalso; omega)
                    | exact k _ _ _ (flA ⟨by omega, by omega⟩ ⟨by omega, by omega⟩ hy (tA_1 (by omega))).symm (fun q => by omega)
        exact lp12 (n.toNat + 1) 0 (by omega) ⟨by omega, by omega⟩ hz
  exact lp2 (n.toNat + 1) 0 (by omega) ⟨by omega, by omega⟩ zzA_0
set_option maxRecDepth 100000 in
set_option maxHeartbeats 4000000 in
theorem s_X5_isEven {h : AH} {Q : Option AV → AH → Prop} {n tr : Int} {C K V A B L D T U : Int → Int} {g : Gr} (hn : 1 ≤ n ∧ n ≤ 8) (hA : ag n C g) (hg : rgn n g) (k : ∀ v A' B', ((v = 1 ∧ fl n g = 0) ∨ (v = 0 ∧ ¬ fl n g = 0)) → (fl n g = 0 → FP n g A' B') → Q (some (vI v)) (hmd h n tr C K V A' B' L D T U)) : MC mX5_isEven [vR 20] (hmd h n tr C K V A B L D T U) Q := by
  refine mc_start mX5_isEven RX5 "isEven" ⟨rfl, rfl, by decide +kernel⟩ [some (vR 20)] ⟨0, rfl⟩ rfl (fun X cx hRm hNS hRet => ?_)
  refine aw_aload_n cx 1 dX5_isEven_0 rfl rfl ?_
  refine aw_V0v cx 4 mX5_failsBy (ci := 4) dX5_isEven_1 rfl okmX5_failsBy lkX5_57 (by first | exact mm_0 | exact mm_1 | exact mm_2 | exact mm_3 | exact mm_4 | exact mm_5 | exact mm_6 | exact mm_7 | exact mm_8 | exact mm_9) ⟨rfl, by decide⟩ (zz_rc0 mX5_isEven hRm hNS rfl rfl) (Nat.le_of_ble_eq_true rfl) ?_
  refine s_X5_failsBy hn hA hg (fun v1 A1 B1 e1 P1 => ⟨_, rfl, ?_⟩)
  have b1 := fl_b (n := n) (g := g) hn
  rw [← e1] at b1
  refine aw_if_ne cx 7 11 dX5_isEven_4 rfl (by decide) ⟨by omega, by omega⟩ (fun c4 => ?_) (fun c4 => ?_)
  · refine aw_iconst cx 12 dX5_isEven_11 rfl ?_
    refine aw_ireturn cx dX5_isEven_12 ?_
    refine hRet _ _ (by first | exact Or.inl rfl | exact Or.inr rfl | assumption) rfl ?_
    first
    | exact k _ _ _ (Or.inl ⟨rfl, by omega⟩) (fun q => P1 (by omega))
    | exact k _ _ _ (Or.inr ⟨rfl, by omega⟩) (fun q => P1 (by omega))
  · refine aw_iconst cx 8 dX5_isEven_7 rfl ?_
    refine aw_goto cx 12 dX5_isEven_8 (by decide) ?_
    refine aw_ireturn cx dX5_isEven_12 ?_
    refine hRet _ _ (by first | exact Or.inl rfl | exact Or.inr rfl | assumption) rfl ?_
    first
    | exact k _ _ _ (Or.inl ⟨rfl, by omega⟩) (fun q => P1 (by omega))
    | exact k _ _ _ (Or.inr ⟨rfl, by omega⟩) (fun q => P1 (by omega))
set_option maxRecDepth 100000 in
set_option maxHeartbeats 4000000 in
theorem s_X5_numberOf {h : AH} {Q : Option AV → AH → Prop} {n tr : Int} {C K V A B L D T U : Int → Int} {g : Gr} (hn : 1 ≤ n ∧ n ≤ 8) (hA : ag n C g) (hg : rgn n g) (hP : FP n g A B) {i j k0 : Int} (hi : R32 i) (hj : R32 j) (hk : 0 ≤ k0 ∧ k0 < 5) (ho : fp n g k0 ≠ -1) (k : ∀ v, v = nu n g i j k0 → Q (some (vI v)) (hmd h n tr C K V A B L D T U)) : MC mX5_numberOf [vR 20, vI i, vI j, vI k0] (hmd h n tr C K V A B L D T U) Q := by
  refine mc_start mX5_numberOf RX5 "numberOf" ⟨rfl, rfl, by decide +kernel⟩ [some (vR 20), some (vI i), some (vI j), some (vI k0)] ⟨0, rfl⟩ rfl (fun X cx hRm hNS hRet => ?_)
  obtain ⟨pA, pB⟩ := hP k0 (by omega) (by omega) ho
  obtain ⟨f0, f1, f2⟩ := fp_col (n := n) (g := g) ⟨by omega, by omega⟩ ho
  refine aw_aload_n cx 1 dX5_numberOf_0 rfl rfl ?_
  refine aw_aload_n cx 2 dX5_numberOf_1 rfl rfl ?_
  refine aw_getfield cx 5 dX5_numberOf_2 rfl fdX5_23 (by first | exact mm_0 | exact mm_1 | exact mm_2 | exact mm_3 | exact mm_4 | exact mm_5 | exact mm_6 | exact mm_7 | exact mm_8 | exact mm_9) (by rfl) ?_
  refine aw_iload_n cx 6 dX5_numberOf_5 rfl rfl ?_
  refine aw_iaload cx 7 dX5_numberOf_6 rfl (by first | exact mm_0 | exact mm_1 | exact mm_2 | exact mm_3 | exact mm_4 | exact mm_5 | exact mm_6 | exact mm_7 | exact mm_8 | exact mm_9) ⟨by omega, by omega⟩ (by decide) ?_
  refine aw_aload_n cx 8 dX5_numberOf_7 rfl rfl ?_
  refine aw_getfield cx 11 dX5_numberOf_8 rfl fdX5_26 (by first | exact mm_0 | exact mm_1 | exact mm_2 | exact mm_3 | exact mm_4 | exact mm_5 | exact mm_6 | exact mm_7 | exact mm_8 | exact mm_9) (by rfl) ?_
  refine aw_iload_n cx 12 dX5_numberOf_11 rfl rfl ?_
  refine aw_iaload cx 13 dX5_numberOf_12 rfl (by first | exact mm_0 | exact mm_1 | exact mm_2 | exact mm_3 | exact mm_4 | exact mm_5 | exact mm_6 | exact mm_7 | exact mm_8 | exact mm_9) ⟨by omega, by omega⟩ (by decide) ?_
  refine aw_iload_n cx 14 dX5_numberOf_13 rfl rfl ?_
  refine aw_iload_n cx 15 dX5_numberOf_14 rfl rfl ?_
  refine aw_V4v cx 18 mX5_between (ci := 4) dX5_numberOf_15 rfl okmX5_between lkX5_68 (by first | exact mm_0 | exact mm_1 | exact mm_2 | exact mm_3 | exact mm_4 | exact mm_5 | exact mm_6 | exact mm_7 | exact mm_8 | exact mm_9) ⟨rfl, by decide⟩ (zz_rc0 mX5_numberOf hRm hNS rfl rfl) (Nat.le_of_ble_eq_true rfl) ?_
  refine s_X5_between hn hA hg ⟨by omega, by omega⟩ ⟨by omega, by omega⟩ ⟨by omega, by omega⟩ ⟨by omega, by omega⟩ (fun v15 e15 => ⟨_, rfl, ?_⟩)
  refine aw_ireturn cx dX5_numberOf_18 ?_
  refine hRet _ _ True.intro rfl ?_
  rw [pA, pB] at e15
  exact k _ e15
