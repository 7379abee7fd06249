set_option maxRecDepth 100000 in
set_option maxHeartbeats 4000000 in
theorem s_X5_common {h : AH} {Q : Option AV → AH → Prop} {x0 y0 : Int} (hx0 : (0 ≤ x0 ∧ x0 < 9223372036854775808)) (hy0 : (0 ≤ y0 ∧ y0 < 9223372036854775808)) (k : ∀ v, v = gd x0 y0 → Q (some (vJ v)) h) : MC mX5_common [vJ x0, vJ y0] h Q := by
  refine mc_start mX5_common RX5 "common" ⟨rfl, rfl, by decide +kernel⟩ [some (vJ x0), none, some (vJ y0), none, none, none, none, none, none, none] ⟨6, rfl⟩ rfl (fun X cx hRm hNS hRet => ?_)
  refine aw_lload_n cx 1 dX5_common_0 rfl rfl ?_
  refine aw_lstore cx 3 dX5_common_1 rfl ⟨Nat.le_of_ble_eq_true rfl, Nat.le_of_ble_eq_true rfl⟩ rfl ?_
  dsimp only [List.set]
  refine aw_lload_n cx 4 dX5_common_3 rfl rfl ?_
  refine aw_lstore cx 6 dX5_common_4 rfl ⟨Nat.le_of_ble_eq_true rfl, Nat.le_of_ble_eq_true rfl⟩ rfl ?_
  dsimp only [List.set]
  have lp6 : ∀ (kf : Nat) (x y : Int), (y < (kf : Int)) → (0 ≤ x ∧ x < 9223372036854775808) → (0 ≤ y ∧ y < 9223372036854775808) → gd x y = gd x0 y0 → AW X 6 [some (vJ x0), none, some (vJ y0), none, some (vJ x), none, some (vJ y), none, none, none] [] (h) := by
    intro kf
    induction kf with
    | zero =>
      intro x y hk hx hy hgd
      exfalso
      omega
    | succ kf ih6 =>
      intro x y hk hx hy hgd
      refine aw_lload cx 8 dX5_common_6 rfl rfl ?_
      refine aw_lconst cx 9 0 dX5_common_8 rfl (by decide +kernel) ?_
      refine aw_lcmp cx 10 dX5_common_9 rfl (Or.inr ⟨⟨by omega, by omega⟩, ⟨by omega, by omega⟩⟩) ?_
      refine aw_if_eq cx 13 31 dX5_common_10 rfl (by decide) (zz_cmp_r _ _) (fun c10 => ?_) (fun c10 => ?_)
      · rw [zz_cmp_eq] at c10
        refine aw_lload cx 33 dX5_common_31 rfl rfl ?_
        refine aw_lreturn cx dX5_common_33 ?_
        refine hRet _ _ True.intro rfl ?_
        exact k _ (by rw [← hgd, c10, gd_0 hx.1])
      · rw [zz_cmp_eq] at c10
        have em := em_b (x := x) (y := y) (by omega)
        refine aw_lload cx 15 dX5_common_13 rfl rfl ?_
        refine aw_lload cx 17 dX5_common_15 rfl rfl ?_
        refine aw_lremN cx 18 dX5_common_17 rfl ⟨by omega, by omega, by omega, by omega⟩ ?_
        refine aw_lstore cx 20 dX5_common_18 rfl ⟨Nat.le_of_ble_eq_true rfl, Nat.le_of_ble_eq_true rfl⟩ rfl ?_
        dsimp only [List.set]
        refine aw_lload cx 22 dX5_common_20 rfl rfl ?_
        refine aw_lstore cx 24 dX5_common_22 rfl ⟨Nat.le_of_ble_eq_true rfl, Nat.le_of_ble_eq_true rfl⟩ rfl ?_
        dsimp only [List.set]
        refine aw_lload cx 26 dX5_common_24 rfl rfl ?_
        refine aw_lstore cx 28 dX5_common_26 rfl ⟨Nat.le_of_ble_eq_true rfl, Nat.le_of_ble_eq_true rfl⟩ rfl ?_
        dsimp only [List.set]
        refine aw_goto cx 6 dX5_common_28 (by decide) ?_
        exact aw_weak (ih6 y (x % y) (by omega) ⟨by omega, by omega⟩ ⟨by omega, by omega⟩ ((gd_s hx.1 (by omega)).trans hgd)) (by simp [zz_le])
  exact lp6 (y0.toNat + 1) x0 y0 (by omega) hx0 hy0 rfl
set_option maxRecDepth 100000 in
set_option maxHeartbeats 4000000 in
theorem s_X5_chance {h : AH} {Q : Option AV → AH → Prop} {n tr : Int} {g : Gr} {V : Int → Int} (hX : MI h n g V tr) {a b c : Int} (ha : R32 a) (hb : R32 b) (hc : R32 c) (k : ∀ v h', v = f_chance n g V a b c → MP h h' (n) (g) (V) (tr) → Q (some (vJ v)) h') : MC mX5_chance [vR 20, vI a, vI b, vI c] h Q := by
  obtain ⟨C, K, A, B, L, D, T, U, ⟨m0, m1, m2, m3, m4, m5, m6, m7, m8, m9⟩, hn, hA, hg, hV⟩ := hX
  rw [mm_in m0 m1 m2 m3 m4 m5 m6 m7 m8 m9]
  have hR := rk_b (n := n) (g := g) (by omega) hg
  refine mc_start mX5_chance RX5 "chance" ⟨rfl, rfl, by decide +kernel⟩ [some (vR 20), some (vI a), some (vI b), some (vI c), none, none, none, none, none, none, none, none] ⟨8, rfl⟩ rfl (fun X cx hRm hNS hRet => ?_)
  refine aw_aload_n cx 1 dX5_chance_0 rfl rfl ?_
  refine aw_iconst cx 2 dX5_chance_1 rfl ?_
  refine aw_putfield cx 5 dX5_chance_2 rfl fdX5_42 (by first | with_reducible exact mm_0 | with_reducible exact mm_1 | with_reducible exact mm_2 | with_reducible exact mm_3 | with_reducible exact mm_4 | with_reducible exact mm_5 | with_reducible exact mm_6 | with_reducible exact mm_7 | with_reducible exact mm_8 | with_reducible exact mm_9) (by exact Nat.le_of_ble_eq_true rfl) rfl ?_
  dsimp only [List.set]
  first | rw [my_0] | rw [my_1] | rw [my_2] | rw [my_3] | rw [my_4] | rw [my_5] | rw [my_6] | rw [my_7] | rw [my_8] | rw [my_9]
  refine aw_aload_n cx 6 dX5_chance_5 rfl rfl ?_
  refine aw_iload_n cx 7 dX5_chance_6 rfl rfl ?_
  refine aw_V1v cx 10 mX5_isColour (ci := 4) dX5_chance_7 rfl okmX5_isColour lkX5_72 (by first | with_reducible exact mm_0 | with_reducible exact mm_1 | with_reducible exact mm_2 | with_reducible exact mm_3 | with_reducible exact mm_4 | with_reducible exact mm_5 | with_reducible exact mm_6 | with_reducible exact mm_7 | with_reducible exact mm_8 | with_reducible exact mm_9) ⟨rfl, by decide⟩ (zz_rc0 mX5_chance hRm hNS rfl rfl) (Nat.le_of_ble_eq_true rfl) ?_
  refine s_X5_isColour hn hA hg (by assumption) (fun v7 e7 => ⟨_, rfl, ?_⟩)
  refine aw_if_eq cx 13 32 dX5_chance_10 rfl (by decide) ⟨by omega, by omega⟩ (fun c10 => ?_) (fun c10 => ?_)
  · refine aw_ldc2 cx 35 (-1) dX5_chance_32 rfl klX5_106 (by decide +kernel) ?_
    refine aw_lreturn cx dX5_chance_35 ?_
    refine hRet _ _ True.intro rfl ?_
    exact k _ _ (by unfold f_chance; rw [if_neg (by omega)]) (mp_mk hn hA hg hV)
  · refine aw_iload_n cx 14 dX5_chance_13 rfl rfl ?_
    refine aw_iconst cx 15 dX5_chance_14 rfl ?_
    refine aw_bipush cx 17 dX5_chance_15 rfl (by decide +kernel) ?_
    refine aw_S3v cx 20 mX5_in dX5_chance_17 rfl okmX5_in lkX5_45 (zz_rc0 mX5_chance hRm hNS rfl rfl) (Nat.le_of_ble_eq_true rfl) ?_
    refine s_X5_in (by first | assumption | exact ⟨by omega, by omega⟩) (by first | assumption | exact ⟨by omega, by omega⟩) (by first | assumption | exact ⟨by omega, by omega⟩) (fun v17 e17 => ⟨_, rfl, ?_⟩)
    have z17 : v17 = 0 ∨ v17 = 1 := by omega
    have y17 : v17 = 1 ∨ v17 = 0 := by omega
    refine aw_if_eq cx 23 32 dX5_chance_20 rfl (by decide) ⟨by omega, by omega⟩ (fun c20 => ?_) (fun c20 => ?_)
    · refine aw_ldc2 cx 35 (-1) dX5_chance_32 rfl klX5_106 (by decide +kernel) ?_
      refine aw_lreturn cx dX5_chance_35 ?_
      refine hRet _ _ True.intro rfl ?_
      exact k _ _ (by unfold f_chance; rw [if_neg (by omega)]) (mp_mk hn hA hg hV)
    · refine aw_iload_n cx 24 dX5_chance_23 rfl rfl ?_
      refine aw_iconst cx 25 dX5_chance_24 rfl ?_
      refine aw_iconst cx 26 dX5_chance_25 rfl ?_
      refine aw_S3v cx 29 mX5_in dX5_chance_26 rfl okmX5_in lkX5_45 (zz_rc0 mX5_chance hRm hNS rfl rfl) (Nat.le_of_ble_eq_true rfl) ?_
      refine s_X5_in (by first | assumption | exact ⟨by omega, by omega⟩) (by first | assumption | exact ⟨by omega, by omega⟩) (by first | assumption | exact ⟨by omega, by omega⟩) (fun v26 e26 => ⟨_, rfl, ?_⟩)
      have z26 : v26 = 0 ∨ v26 = 1 := by omega
      have y26 : v26 = 1 ∨ v26 = 0 := by omega
      refine aw_if_ne cx 32 36 dX5_chance_29 rfl (by decide) ⟨by omega, by omega⟩ (fun c29 => ?_) (fun c29 => ?_)
      · refine aw_aload_n cx 37 dX5_chance_36 rfl rfl ?_
        refine aw_V0v cx 40 mX5_isEven (ci := 4) dX5_chance_37 rfl okmX5_isEven lkX5_75 (by first | with_reducible exact mm_0 | with_reducible exact mm_1 | with_reducible exact mm_2 | with_reducible exact mm_3 | with_reducible exact mm_4 | with_reducible exact mm_5 | with_reducible exact mm_6 | with_reducible exact mm_7 | with_reducible exact mm_8 | with_reducible exact mm_9) ⟨rfl, by decide⟩ (zz_rc0 mX5_chance hRm hNS rfl rfl) (Nat.le_of_ble_eq_true rfl) ?_
        refine s_X5_isEven hn hA hg (fun v37 A37 B37 e37 P37 => ⟨_, rfl, ?_⟩)
        refine aw_if_eq cx 43 50 dX5_chance_40 rfl (by decide) ⟨by omega, by omega⟩ (fun c40 => ?_) (fun c40 => ?_)
        · refine aw_ldc2 cx 53 (-2) dX5_chance_50 rfl klX5_111 (by decide +kernel) ?_
          refine aw_lreturn cx dX5_chance_53 ?_
          refine hRet _ _ True.intro rfl ?_
          exact k _ _ (by unfold f_chance; rw [if_pos (by omega), if_neg (by omega)]) (mp_mk hn hA hg hV)
        · refine aw_aload_n cx 44 dX5_chance_43 rfl rfl ?_
          refine aw_V0v cx 47 mX5_weights (ci := 4) dX5_chance_44 rfl okmX5_weights lkX5_108 (by first | with_reducible exact mm_0 | with_reducible exact mm_1 | with_reducible exact mm_2 | with_reducible exact mm_3 | with_reducible exact mm_4 | with_reducible exact mm_5 | with_reducible exact mm_6 | with_reducible exact mm_7 | with_reducible exact mm_8 | with_reducible exact mm_9) ⟨rfl, by decide⟩ (zz_rc0 mX5_chance hRm hNS rfl rfl) (Nat.le_of_ble_eq_true rfl) ?_
          refine s_X5_weights hn hA hg hV (fun v44 e44 => ⟨_, rfl, ?_⟩)
          have b44 := wt_b hV (m := rk n g) ⟨by omega, by omega⟩
          refine aw_if_ne cx 50 54 dX5_chance_47 rfl (by decide) ⟨by omega, by omega⟩ (fun c47 => ?_) (fun c47 => ?_)
          · have hz : fl n g = 0 := by omega
            have hP := P37 hz
            have hO : ∀ c, 0 ≤ c → c < 5 → c < rk n g → fp n g c ≠ -1 := fun c c0 c1 c2 => (fl_z (by omega) hz).2.1 c c0 c1 c2
            have hE : evn n g := ⟨hn, hg, hz⟩
            have hw0 : wt V (rk n g) ≠ 0 := by omega
            have bU := upw_b hE hV (t := b) (i := a) ⟨by omega, by omega⟩
            have bA := AL_b hE hV hw0 (t := b) ⟨by omega, by omega⟩
            have hok : okc n g a ∧ (0 ≤ b ∧ b ≤ 6) ∧ (0 ≤ c ∧ c ≤ 1) := by
              unfold okc
              omega
            have hb6 : 0 ≤ b ∧ b ≤ 6 := hok.2.1
            have hc1 : 0 ≤ c ∧ c ≤ 1 := hok.2.2
            have ha1 : 0 ≤ a ∧ a < rk n g := hok.1
            clear e37 P37 hP hO
            refine aw_lconst cx 55 1 dX5_chance_54 rfl (by decide +kernel) ?_
            refine aw_lstore cx 57 dX5_chance_55 rfl ⟨Nat.le_of_ble_eq_true rfl, Nat.le_of_ble_eq_true rfl⟩ rfl ?_
            dsimp only [List.set]
            refine aw_iconst cx 58 dX5_chance_57 rfl ?_
            refine aw_istore cx 60 dX5_chance_58 rfl ⟨Nat.le_of_ble_eq_true rfl, Nat.le_of_ble_eq_true rfl⟩ rfl ?_
            dsimp only [List.set]
            have lp60 : ∀ (kf : Nat) (k1 m : Int), (rk n g - k1 < (kf : Int)) → (0 ≤ k1 ∧ k1 ≤ rk n g) → m = lm n g k1 → AW X 60 [some (vR 20), some (vI a), some (vI b), some (vI c), some (vJ m), none, some (vI k1), none, none, none, none, none] [] (hmd h n tr C K V A37 B37 L D T U) := by
              intro kf
              induction kf with
              | zero =>
                intro k1 m hk hk1 hm
                exfalso
                omega
              | succ kf ih60 =>
                intro k1 m hk hk1 hm
                have hm1 := lm_b hE k1 (by omega) (by omega)
                rw [← hm] at hm1
                refine aw_iload cx 62 dX5_chance_60 rfl rfl ?_
                refine aw_aload_n cx 63 dX5_chance_62 rfl rfl ?_
                refine aw_V0v cx 66 mX5_rank (ci := 4) dX5_chance_63 rfl okmX5_rank lkX5_61 (by first | with_reducible exact mm_0 | with_reducible exact mm_1 | with_reducible exact mm_2 | with_reducible exact mm_3 | with_reducible exact mm_4 | with_reducible exact mm_5 | with_reducible exact mm_6 | with_reducible exact mm_7 | with_reducible exact mm_8 | with_reducible exact mm_9) ⟨rfl, by decide⟩ (zz_rc0 mX5_chance hRm hNS rfl rfl) (Nat.le_of_ble_eq_true rfl) ?_
                refine s_X5_rank hn hA hg (fun v63 e63 => ⟨_, rfl, ?_⟩)
                refine aw_icmp_ge cx 69 100 dX5_chance_66 rfl (by decide) ⟨⟨by omega, by omega⟩, ⟨by omega, by omega⟩⟩ (fun c66 => ?_) (fun c66 => ?_)
                · have eL : m = LL n g := by rw [hm, show k1 = rk n g by omega]
                  refine aw_iconst cx 101 dX5_chance_100 rfl ?_
                  refine aw_istore cx 103 dX5_chance_101 rfl ⟨Nat.le_of_ble_eq_true rfl, Nat.le_of_ble_eq_true rfl⟩ rfl ?_
                  dsimp only [List.set]
                  have lp103 : ∀ (kf : Nat) (y : Int) (T1 : Int → Int), (8 - y < (kf : Int)) → (0 ≤ y ∧ y ≤ 8) → (∀ x, 0 ≤ x → x < y → T1 x = if x = 0 then 1 else 0) → AW X 103 [some (vR 20), some (vI a), some (vI b), some (vI c), some (vJ m), none, some (vI y), none, none, none, none, none] [] (hmd h n tr C K V A37 B37 L D T1 U) := by
                    intro kf
                    induction kf with
                    | zero =>
                      intro y T1 hk hy hT
                      exfalso
                      omega
                    | succ kf ih103 =>
                      intro y T1 hk hy hT
                      refine aw_iload cx 105 dX5_chance_103 rfl rfl ?_
                      refine aw_bipush cx 107 dX5_chance_105 rfl (by decide +kernel) ?_
                      refine aw_icmp_ge cx 110 133 dX5_chance_107 rfl (by decide) ⟨⟨by omega, by omega⟩, ⟨by omega, by omega⟩⟩ (fun c107 => ?_) (fun c107 => ?_)
                      · refine aw_lconst cx 134 1 dX5_chance_133 rfl (by decide +kernel) ?_
                        refine aw_lstore cx 136 dX5_chance_134 rfl ⟨Nat.le_of_ble_eq_true rfl, Nat.le_of_ble_eq_true rfl⟩ rfl ?_
                        dsimp only [List.set]
                        refine aw_iconst cx 137 dX5_chance_136 rfl ?_
                        refine aw_istore cx 139 dX5_chance_137 rfl ⟨Nat.le_of_ble_eq_true rfl, Nat.le_of_ble_eq_true rfl⟩ rfl ?_
                        dsimp only [List.set]
                        have lp139 : ∀ (kf : Nat) (s al1 : Int) (T2 U2 : Int → Int), (b - s < (kf : Int)) → (0 ≤ s ∧ s ≤ b) → al1 = AL n g V s → (∀ x, 0 ≤ x → x < n → T2 x = wy n g V s x) → AW X 139 [some (vR 20), some (vI a), some (vI b), some (vI c), some (vJ m), none, some (vJ al1), none, some (vI s), none, none, none] [] (hmd h n tr C K V A37 B37 L D T2 U2) := by
                          intro kf
                          induction kf with
                          | zero =>
                            intro s al1 T2 U2 hk hs hal hT2
                            exfalso
                            omega
                          | succ kf ih139 =>
                            intro s al1 T2 U2 hk hs hal hT2
                            refine aw_iload cx 141 dX5_chance_139 rfl rfl ?_
                            refine aw_iload_n cx 142 dX5_chance_141 rfl rfl ?_
                            refine aw_icmp_ge cx 145 289 dX5_chance_142 rfl (by decide) ⟨⟨by omega, by omega⟩, ⟨by omega, by omega⟩⟩ (fun c142 => ?_) (fun c142 => ?_)
                            · rw [show s = b by omega] at hal hT2
                              refine aw_lconst cx 290 0 dX5_chance_289 rfl (by decide +kernel) ?_
                              refine aw_lstore cx 292 dX5_chance_290 rfl ⟨Nat.le_of_ble_eq_true rfl, Nat.le_of_ble_eq_true rfl⟩ rfl ?_
                              dsimp only [List.set]
                              refine aw_iconst cx 293 dX5_chance_292 rfl ?_
                              refine aw_istore cx 295 dX5_chance_293 rfl ⟨Nat.le_of_ble_eq_true rfl, Nat.le_of_ble_eq_true rfl⟩ rfl ?_
                              dsimp only [List.set]
                              have lp295 : ∀ (kf : Nat) (x u : Int), (n - x < (kf : Int)) → (0 ≤ x ∧ x ≤ n) → u = upw g T2 a x → AW X 295 [some (vR 20), some (vI a), some (vI b), some (vI c), some (vJ m), none, some (vJ al1), none, some (vJ u), none, some (vI x), none] [] (hmd h n tr C K V A37 B37 L D T2 U2) := by
                                intro kf
                                induction kf with
                                | zero =>
                                  intro x u hk hx6 hu
                                  exfalso
                                  omega
                                | succ kf ih295 =>
                                  intro x u hk hx6 hu
                                  refine aw_iload cx 297 dX5_chance_295 rfl rfl ?_
                                  refine aw_aload_n cx 298 dX5_chance_297 rfl rfl ?_
                                  refine aw_getfield cx 301 dX5_chance_298 rfl fdX5_7 (by first | with_reducible exact mm_0 | with_reducible exact mm_1 | with_reducible exact mm_2 | with_reducible exact mm_3 | with_reducible exact mm_4 | with_reducible exact mm_5 | with_reducible exact mm_6 | with_reducible exact mm_7 | with_reducible exact mm_8 | with_reducible exact mm_9) (by rfl) ?_
                                  refine aw_icmp_ge cx 304 337 dX5_chance_301 rfl (by decide) ⟨⟨by omega, by omega⟩, ⟨by omega, by omega⟩⟩ (fun c301 => ?_) (fun c301 => ?_)
                                  · have eU : u = UP n g V a b := by
                                      rw [hu, show x = n by omega]
                                      exact upw_congr hT2
                                    rw [← eU] at bU
                                    rw [← hal] at bA
                                    refine aw_lload cx 339 dX5_chance_337 rfl rfl ?_
                                    refine aw_lload cx 341 dX5_chance_339 rfl rfl ?_
                                    refine aw_S2v cx 344 mX5_common dX5_chance_341 rfl okmX5_common lkX5_113 (zz_rc0 mX5_chance hRm hNS rfl rfl) (Nat.le_of_ble_eq_true rfl) ?_
                                    refine s_X5_common ⟨by omega, by omega⟩ ⟨by omega, by omega⟩ (fun v341 e341 => ⟨_, rfl, ?_⟩)
                                    have g341 := gd_b (x := u) (y := al1) (by omega) (by omega)
                                    rw [← e341] at g341
                                    refine aw_lstore cx 346 dX5_chance_344 rfl ⟨Nat.le_of_ble_eq_true rfl, Nat.le_of_ble_eq_true rfl⟩ rfl ?_
                                    dsimp only [List.set]
                                    refine aw_iload_n cx 347 dX5_chance_346 rfl rfl ?_
                                    refine aw_if_ne cx 350 358 dX5_chance_347 rfl (by decide) ⟨by omega, by omega⟩ (fun c347 => ?_) (fun c347 => ?_)
                                    · refine aw_lload cx 360 dX5_chance_358 rfl rfl ?_
                                      refine aw_lload cx 362 dX5_chance_360 rfl rfl ?_
                                      refine aw_ldivN cx 363 dX5_chance_362 rfl ⟨by omega, by omega, by omega, by omega⟩ ?_
                                      refine aw_lreturn cx dX5_chance_363 ?_
                                      refine hRet _ _ True.intro rfl ?_
                                      exact k _ _ (by unfold f_chance chv; rw [if_pos hok, if_pos ⟨hz, hw0⟩, ← eU, ← hal, ← e341]; first | (rw [if_pos (by omega)]; done) | (rw [if_neg (by omega)]; done)) (mp_mk hn hA hg hV)
                                    · refine aw_lload cx 352 dX5_chance_350 rfl rfl ?_
                                      refine aw_lload cx 354 dX5_chance_352 rfl rfl ?_
                                      refine aw_ldivN cx 355 dX5_chance_354 rfl ⟨by omega, by omega, by omega, by omega⟩ ?_
                                      refine aw_goto cx 363 dX5_chance_355 (by decide) ?_
                                      refine aw_lreturn cx dX5_chance_363 ?_
                                      refine hRet _ _ True.intro rfl ?_
                                      exact k _ _ (by unfold f_chance chv; rw [if_pos hok, if_pos ⟨hz, hw0⟩, ← eU, ← hal, ← e341]; first | (rw [if_pos (by omega)]; done) | (rw [if_neg (by omega)]; done)) (mp_mk hn hA hg hV)
                                  · refine aw_lload cx 306 dX5_chance_304 rfl rfl ?_
                                    refine aw_aload_n cx 307 dX5_chance_306 rfl rfl ?_
                                    refine aw_iconst cx 308 dX5_chance_307 rfl ?_
                                    refine aw_iload cx 310 dX5_chance_308 rfl rfl ?_
                                    refine aw_V2v cx 313 mX5_hue (ci := 4) dX5_chance_310 rfl okmX5_hue lkX5_53 (by first | with_reducible exact mm_0 | with_reducible exact mm_1 | with_reducible exact mm_2 | with_reducible exact mm_3 | with_reducible exact mm_4 | with_reducible exact mm_5 | with_reducible exact mm_6 | with_reducible exact mm_7 | with_reducible exact mm_8 | with_reducible exact mm_9) ⟨rfl, by decide⟩ (zz_rc0 mX5_chance hRm hNS rfl rfl) (Nat.le_of_ble_eq_true rfl) ?_
                                    refine s_X5_hue ⟨by omega, by omega⟩ ⟨by omega, by omega⟩ (fun v310 e310 => ⟨_, rfl, ?_⟩)
                                    have q310 := hA 0 x (by omega) (by omega) (by omega) (by omega)
                                    have w310 := hg 0 x (by omega) (by omega) (by omega) (by omega)
                                    refine aw_iload_n cx 314 dX5_chance_313 rfl rfl ?_
                                    refine aw_icmp_ne cx 317 327 dX5_chance_314 rfl (by decide) ⟨⟨by omega, by omega⟩, ⟨by omega, by omega⟩⟩ (fun c314 => ?_) (fun c314 => ?_)
                                    · refine aw_lconst cx 328 0 dX5_chance_327 rfl (by decide +kernel) ?_
                                      refine aw_ladd cx 329 dX5_chance_328 rfl ?_
                                      refine aw_lstore cx 331 dX5_chance_329 rfl ⟨Nat.le_of_ble_eq_true rfl, Nat.le_of_ble_eq_true rfl⟩ rfl ?_
                                      dsimp only [List.set]
                                      refine aw_iinc cx 334 dX5_chance_331 rfl rfl (Nat.le_of_ble_eq_true rfl) rfl ?_
                                      dsimp only [List.set]
                                      refine aw_goto cx 295 dX5_chance_334 (by decide) ?_
                                      exact ih295 (x + 1) _ (by omega) ⟨by omega, by omega⟩ (by rw [upw_s hx6.1]; first | (rw [if_pos (by omega)]; omega) | (rw [if_neg (by omega)]; omega))
                                    · refine aw_aload_n cx 318 dX5_chance_317 rfl rfl ?_
                                      refine aw_getfield cx 321 dX5_chance_318 rfl fdX5_35 (by first | with_reducible exact mm_0 | with_reducible exact mm_1 | with_reducible exact mm_2 | with_reducible exact mm_3 | with_reducible exact mm_4 | with_reducible exact mm_5 | with_reducible exact mm_6 | with_reducible exact mm_7 | with_reducible exact mm_8 | with_reducible exact mm_9) (by rfl) ?_
                                      refine aw_iload cx 323 dX5_chance_321 rfl rfl ?_
                                      refine aw_laload cx 324 dX5_chance_323 rfl (by first | with_reducible exact mm_0 | with_reducible exact mm_1 | with_reducible exact mm_2 | with_reducible exact mm_3 | with_reducible exact mm_4 | with_reducible exact mm_5 | with_reducible exact mm_6 | with_reducible exact mm_7 | with_reducible exact mm_8 | with_reducible exact mm_9) ⟨by omega, by omega⟩ (by decide) ?_
                                      refine aw_goto cx 328 dX5_chance_324 (by decide) ?_
                                      refine aw_ladd cx 329 dX5_chance_328 rfl ?_
                                      refine aw_lstore cx 331 dX5_chance_329 rfl ⟨Nat.le_of_ble_eq_true rfl, Nat.le_of_ble_eq_true rfl⟩ rfl ?_
                                      dsimp only [List.set]
                                      refine aw_iinc cx 334 dX5_chance_331 rfl rfl (Nat.le_of_ble_eq_true rfl) rfl ?_
                                      dsimp only [List.set]
                                      refine aw_goto cx 295 dX5_chance_334 (by decide) ?_
                                      exact ih295 (x + 1) _ (by omega) ⟨by omega, by omega⟩ (by rw [upw_s hx6.1]; first | (rw [if_pos (by omega)]; omega) | (rw [if_neg (by omega)]; omega))
                              exact aw_weak (lp295 (n.toNat + 1) 0 0 (by omega) ⟨by omega, by omega⟩ rfl) (by simp [zz_le])
                            · refine aw_iconst cx 146 dX5_chance_145 rfl ?_
                              refine aw_istore cx 148 dX5_chance_146 rfl ⟨Nat.le_of_ble_eq_true rfl, Nat.le_of_ble_eq_true rfl⟩ rfl ?_
                              dsimp only [List.set]
                              have lp148 : ∀ (kf : Nat) (y : Int) (U3 : Int → Int), (n - y < (kf : Int)) → (0 ≤ y ∧ y ≤ n) → (∀ x, 0 ≤ x → x < y → U3 x = wys n g V (wy n g V s) x n) → AW X 148 [some (vR 20), some (vI a), some (vI b), some (vI c), some (vJ m), none, some (vJ al1), none, some (vI s), some (vI y), none, none] [] (hmd h n tr C K V A37 B37 L D T2 U3) := by
                                intro kf
                                induction kf with
                                | zero =>
                                  intro y U3 hk hy3 hU3
                                  exfalso
                                  omega
                                | succ kf ih148 =>
                                  intro y U3 hk hy3 hU3
                                  refine aw_iload cx 150 dX5_chance_148 rfl rfl ?_
                                  refine aw_aload_n cx 151 dX5_chance_150 rfl rfl ?_
                                  refine aw_getfield cx 154 dX5_chance_151 rfl fdX5_7 (by first | with_reducible exact mm_0 | with_reducible exact mm_1 | with_reducible exact mm_2 | with_reducible exact mm_3 | with_reducible exact mm_4 | with_reducible exact mm_5 | with_reducible exact mm_6 | with_reducible exact mm_7 | with_reducible exact mm_8 | with_reducible exact mm_9) (by rfl) ?_
                                  refine aw_icmp_ge cx 157 238 dX5_chance_154 rfl (by decide) ⟨⟨by omega, by omega⟩, ⟨by omega, by omega⟩⟩ (fun c154 => ?_) (fun c154 => ?_)
                                  · refine aw_iconst cx 239 dX5_chance_238 rfl ?_
                                    refine aw_istore cx 241 dX5_chance_239 rfl ⟨Nat.le_of_ble_eq_true rfl, Nat.le_of_ble_eq_true rfl⟩ rfl ?_
                                    dsimp only [List.set]
                                    have lp241 : ∀ (kf : Nat) (z : Int) (T5 : Int → Int), (n - z < (kf : Int)) → (0 ≤ z ∧ z ≤ n) → (∀ x, 0 ≤ x → x < z → T5 x = U3 x) → AW X 241 [some (vR 20), some (vI a), some (vI b), some (vI c), some (vJ m), none, some (vJ al1), none, some (vI s), some (vI z), none, none] [] (hmd h n tr C K V A37 B37 L D T5 U3) := by
                                      intro kf
                                      induction kf with
                                      | zero =>
                                        intro z T5 hk hz5 hT5
                                        exfalso
                                        omega
                                      | succ kf ih241 =>
                                        intro z T5 hk hz5 hT5
                                        refine aw_iload cx 243 dX5_chance_241 rfl rfl ?_
                                        refine aw_aload_n cx 244 dX5_chance_243 rfl rfl ?_
                                        refine aw_getfield cx 247 dX5_chance_244 rfl fdX5_7 (by first | with_reducible exact mm_0 | with_reducible exact mm_1 | with_reducible exact mm_2 | with_reducible exact mm_3 | with_reducible exact mm_4 | with_reducible exact mm_5 | with_reducible exact mm_6 | with_reducible exact mm_7 | with_reducible exact mm_8 | with_reducible exact mm_9) (by rfl) ?_
                                        refine aw_icmp_ge cx 250 270 dX5_chance_247 rfl (by decide) ⟨⟨by omega, by omega⟩, ⟨by omega, by omega⟩⟩ (fun c247 => ?_) (fun c247 => ?_)
                                        · refine aw_lload cx 272 dX5_chance_270 rfl rfl ?_
                                          refine aw_aload_n cx 273 dX5_chance_272 rfl rfl ?_
                                          refine aw_V0v cx 276 mX5_weights (ci := 4) dX5_chance_273 rfl okmX5_weights lkX5_108 (by first | with_reducible exact mm_0 | with_reducible exact mm_1 | with_reducible exact mm_2 | with_reducible exact mm_3 | with_reducible exact mm_4 | with_reducible exact mm_5 | with_reducible exact mm_6 | with_reducible exact mm_7 | with_reducible exact mm_8 | with_reducible exact mm_9) ⟨rfl, by decide⟩ (zz_rc0 mX5_chance hRm hNS rfl rfl) (Nat.le_of_ble_eq_true rfl) ?_
                                          refine s_X5_weights hn hA hg hV (fun v273 e273 => ⟨_, rfl, ?_⟩)
                                          refine aw_i2l cx 277 dX5_chance_276 rfl ⟨by omega, by omega⟩ ?_
                                          refine aw_lload cx 279 dX5_chance_277 rfl rfl ?_
                                          refine aw_lmul cx 280 dX5_chance_279 rfl ?_
                                          refine aw_lmul cx 281 dX5_chance_280 rfl ?_
                                          refine aw_lstore cx 283 dX5_chance_281 rfl ⟨Nat.le_of_ble_eq_true rfl, Nat.le_of_ble_eq_true rfl⟩ rfl ?_
                                          dsimp only [List.set]
                                          refine aw_iinc cx 286 dX5_chance_283 rfl rfl (Nat.le_of_ble_eq_true rfl) rfl ?_
                                          dsimp only [List.set]
                                          refine aw_goto cx 139 dX5_chance_286 (by decide) ?_
                                          exact aw_weak (ih139 (s + 1) (al1 * (v273 * m)) T5 U3 (by omega) ⟨by omega, by omega⟩ (by rw [hal, e273, eL]; exact (al_s hs.1).symm) (fun x x0 x1 => by
                                            rw [wy_s hs.1, hT5 x x0 (by omega), hU3 x x0 (by omega)])) (by simp [zz_le])
                                        · refine aw_aload_n cx 251 dX5_chance_250 rfl rfl ?_
                                          refine aw_getfield cx 254 dX5_chance_251 rfl fdX5_35 (by first | with_reducible exact mm_0 | with_reducible exact mm_1 | with_reducible exact mm_2 | with_reducible exact mm_3 | with_reducible exact mm_4 | with_reducible exact mm_5 | with_reducible exact mm_6 | with_reducible exact mm_7 | with_reducible exact mm_8 | with_reducible exact mm_9) (by rfl) ?_
                                          refine aw_iload cx 256 dX5_chance_254 rfl rfl ?_
                                          refine aw_aload_n cx 257 dX5_chance_256 rfl rfl ?_
                                          refine aw_getfield cx 260 dX5_chance_257 rfl fdX5_39 (by first | with_reducible exact mm_0 | with_reducible exact mm_1 | with_reducible exact mm_2 | with_reducible exact mm_3 | with_reducible exact mm_4 | with_reducible exact mm_5 | with_reducible exact mm_6 | with_reducible exact mm_7 | with_reducible exact mm_8 | with_reducible exact mm_9) (by rfl) ?_
                                          refine aw_iload cx 262 dX5_chance_260 rfl rfl ?_
                                          refine aw_laload cx 263 dX5_chance_262 rfl (by first | with_reducible exact mm_0 | with_reducible exact mm_1 | with_reducible exact mm_2 | with_reducible exact mm_3 | with_reducible exact mm_4 | with_reducible exact mm_5 | with_reducible exact mm_6 | with_reducible exact mm_7 | with_reducible exact mm_8 | with_reducible exact mm_9) ⟨by omega, by omega⟩ (by decide) ?_
                                          refine aw_lastore cx 264 dX5_chance_263 rfl (by first | with_reducible exact mm_0 | with_reducible exact mm_1 | with_reducible exact mm_2 | with_reducible exact mm_3 | with_reducible exact mm_4 | with_reducible exact mm_5 | with_reducible exact mm_6 | with_reducible exact mm_7 | with_reducible exact mm_8 | with_reducible exact mm_9) ⟨by omega, by omega⟩ (by decide) ?_
                                          first | rw [my_0] | rw [my_1] | rw [my_2] | rw [my_3] | rw [my_4] | rw [my_5] | rw [my_6] | rw [my_7] | rw [my_8] | rw [my_9]
                                          refine aw_iinc cx 267 dX5_chance_264 rfl rfl (Nat.le_of_ble_eq_true rfl) rfl ?_
                                          dsimp only [List.set]
                                          refine aw_goto cx 241 dX5_chance_267 (by decide) ?_
                                          exact ih241 (z + 1) _ (by omega) ⟨by omega, by omega⟩ (fun x x0 x1 => by
                                            unfold zz_up
                                            by_cases e : x = z
                                            · rw [if_pos e, e]
                                            · rw [if_neg e]
                                              exact hT5 x x0 (by omega))
                                    exact aw_weak (lp241 (n.toNat + 1) 0 T2 (by omega) ⟨by omega, by omega⟩ (fun x x0 x1 => by omega)) (by simp [zz_le])
                                  · refine aw_aload_n cx 158 dX5_chance_157 rfl rfl ?_
                                    refine aw_getfield cx 161 dX5_chance_158 rfl fdX5_39 (by first | with_reducible exact mm_0 | with_reducible exact mm_1 | with_reducible exact mm_2 | with_reducible exact mm_3 | with_reducible exact mm_4 | with_reducible exact mm_5 | with_reducible exact mm_6 | with_reducible exact mm_7 | with_reducible exact mm_8 | with_reducible exact mm_9) (by rfl) ?_
                                    refine aw_iload cx 163 dX5_chance_161 rfl rfl ?_
                                    refine aw_lconst cx 164 0 dX5_chance_163 rfl (by decide +kernel) ?_
                                    refine aw_lastore cx 165 dX5_chance_164 rfl (by first | with_reducible exact mm_0 | with_reducible exact mm_1 | with_reducible exact mm_2 | with_reducible exact mm_3 | with_reducible exact mm_4 | with_reducible exact mm_5 | with_reducible exact mm_6 | with_reducible exact mm_7 | with_reducible exact mm_8 | with_reducible exact mm_9) ⟨by omega, by omega⟩ (by decide) ?_
                                    first | rw [my_0] | rw [my_1] | rw [my_2] | rw [my_3] | rw [my_4] | rw [my_5] | rw [my_6] | rw [my_7] | rw [my_8] | rw [my_9]
                                    refine aw_iconst cx 166 dX5_chance_165 rfl ?_
                                    refine aw_istore cx 168 dX5_chance_166 rfl ⟨Nat.le_of_ble_eq_true rfl, Nat.le_of_ble_eq_true rfl⟩ rfl ?_
                                    dsimp only [List.set]
                                    have lp168 : ∀ (kf : Nat) (x : Int) (U4 : Int → Int), (n - x < (kf : Int)) → (0 ≤ x ∧ x ≤ n) → (∀ z, 0 ≤ z → z < y → U4 z = wys n g V (wy n g V s) z n) → U4 y = wys n g V (wy n g V s) y x → AW X 168 [some (vR 20), some (vI a), some (vI b), some (vI c), some (vJ m), none, some (vJ al1), none, some (vI s), some (vI y), some (vI x), none] [] (hmd h n tr C K V A37 B37 L D T2 U4) := by
                                      intro kf
                                      induction kf with
                                      | zero =>
                                        intro x U4 hk hx4 hU4 hU5
                                        exfalso
                                        omega
                                      | succ kf ih168 =>
                                        intro x U4 hk hx4 hU4 hU5
                                        refine aw_iload cx 170 dX5_chance_168 rfl rfl ?_
                                        refine aw_aload_n cx 171 dX5_chance_170 rfl rfl ?_
                                        refine aw_getfield cx 174 dX5_chance_171 rfl fdX5_7 (by first | with_reducible exact mm_0 | with_reducible exact mm_1 | with_reducible exact mm_2 | with_reducible exact mm_3 | with_reducible exact mm_4 | with_reducible exact mm_5 | with_reducible exact mm_6 | with_reducible exact mm_7 | with_reducible exact mm_8 | with_reducible exact mm_9) (by rfl) ?_
                                        refine aw_icmp_ge cx 177 232 dX5_chance_174 rfl (by decide) ⟨⟨by omega, by omega⟩, ⟨by omega, by omega⟩⟩ (fun c174 => ?_) (fun c174 => ?_)
                                        · refine aw_iinc cx 235 dX5_chance_232 rfl rfl (Nat.le_of_ble_eq_true rfl) rfl ?_
                                          dsimp only [List.set]
                                          refine aw_goto cx 148 dX5_chance_235 (by decide) ?_
                                          exact aw_weak (ih148 (y + 1) U4 (by omega) ⟨by omega, by omega⟩ (fun z z0 z1 => by
                                            by_cases e : z = y
                                            · rw [e, hU5, show x = n by omega]
                                            · exact hU4 z z0 (by omega))) (by simp [zz_le])
                                        · refine aw_aload_n cx 178 dX5_chance_177 rfl rfl ?_
                                          refine aw_getfield cx 181 dX5_chance_178 rfl fdX5_39 (by first | with_reducible exact mm_0 | with_reducible exact mm_1 | with_reducible exact mm_2 | with_reducible exact mm_3 | with_reducible exact mm_4 | with_reducible exact mm_5 | with_reducible exact mm_6 | with_reducible exact mm_7 | with_reducible exact mm_8 | with_reducible exact mm_9) (by rfl) ?_
                                          refine aw_iload cx 183 dX5_chance_181 rfl rfl ?_
                                          refine aw_dup2 cx 184 dX5_chance_183 rfl ⟨rfl, rfl⟩ ?_
                                          refine aw_laload cx 185 dX5_chance_184 rfl (by first | with_reducible exact mm_0 | with_reducible exact mm_1 | with_reducible exact mm_2 | with_reducible exact mm_3 | with_reducible exact mm_4 | with_reducible exact mm_5 | with_reducible exact mm_6 | with_reducible exact mm_7 | with_reducible exact mm_8 | with_reducible exact mm_9) ⟨by omega, by omega⟩ (by decide) ?_
                                          refine aw_aload_n cx 186 dX5_chance_185 rfl rfl ?_
                                          refine aw_getfield cx 189 dX5_chance_186 rfl fdX5_35 (by first | with_reducible exact mm_0 | with_reducible exact mm_1 | with_reducible exact mm_2 | with_reducible exact mm_3 | with_reducible exact mm_4 | with_reducible exact mm_5 | with_reducible exact mm_6 | with_reducible exact mm_7 | with_reducible exact mm_8 | with_reducible exact mm_9) (by rfl) ?_
                                          refine aw_iload cx 191 dX5_chance_189 rfl rfl ?_
                                          refine aw_laload cx 192 dX5_chance_191 rfl (by first | with_reducible exact mm_0 | with_reducible exact mm_1 | with_reducible exact mm_2 | with_reducible exact mm_3 | with_reducible exact mm_4 | with_reducible exact mm_5 | with_reducible exact mm_6 | with_reducible exact mm_7 | with_reducible exact mm_8 | with_reducible exact mm_9) ⟨by omega, by omega⟩ (by decide) ?_
                                          refine aw_aload_n cx 193 dX5_chance_192 rfl rfl ?_
                                          refine aw_getfield cx 196 dX5_chance_193 rfl fdX5_20 (by first | with_reducible exact mm_0 | with_reducible exact mm_1 | with_reducible exact mm_2 | with_reducible exact mm_3 | with_reducible exact mm_4 | with_reducible exact mm_5 | with_reducible exact mm_6 | with_reducible exact mm_7 | with_reducible exact mm_8 | with_reducible exact mm_9) (by rfl) ?_
                                          refine aw_aload_n cx 197 dX5_chance_196 rfl rfl ?_
                                          refine aw_iload cx 199 dX5_chance_197 rfl rfl ?_
                                          refine aw_iload cx 201 dX5_chance_199 rfl rfl ?_
                                          refine aw_V2v cx 204 mX5_hue (ci := 4) dX5_chance_201 rfl okmX5_hue lkX5_53 (by first | with_reducible exact mm_0 | with_reducible exact mm_1 | with_reducible exact mm_2 | with_reducible exact mm_3 | with_reducible exact mm_4 | with_reducible exact mm_5 | with_reducible exact mm_6 | with_reducible exact mm_7 | with_reducible exact mm_8 | with_reducible exact mm_9) ⟨rfl, by decide⟩ (zz_rc0 mX5_chance hRm hNS rfl rfl) (Nat.le_of_ble_eq_true rfl) ?_
                                          refine s_X5_hue ⟨by omega, by omega⟩ ⟨by omega, by omega⟩ (fun v201 e201 => ⟨_, rfl, ?_⟩)
                                          have q201 := hA x y (by omega) (by omega) (by omega) (by omega)
                                          have w201 := hg x y (by omega) (by omega) (by omega) (by omega)
                                          have r201 := rk_gt (n := n) (g := g) (by omega) (a := x) (b := y) ⟨by omega, by omega⟩ ⟨by omega, by omega⟩
                                          have V201 := hV v201 (by omega) (by omega)
                                          refine aw_iaload cx 205 dX5_chance_204 rfl (by first | with_reducible exact mm_0 | with_reducible exact mm_1 | with_reducible exact mm_2 | with_reducible exact mm_3 | with_reducible exact mm_4 | with_reducible exact mm_5 | with_reducible exact mm_6 | with_reducible exact mm_7 | with_reducible exact mm_8 | with_reducible exact mm_9) ⟨by omega, by omega⟩ (by decide) ?_
                                          refine aw_i2l cx 206 dX5_chance_205 rfl ⟨by omega, by omega⟩ ?_
                                          refine aw_lmul cx 207 dX5_chance_206 rfl ?_
                                          refine aw_lload cx 209 dX5_chance_207 rfl rfl ?_
                                          refine aw_aload_n cx 210 dX5_chance_209 rfl rfl ?_
                                          refine aw_aload_n cx 211 dX5_chance_210 rfl rfl ?_
                                          refine aw_iload cx 213 dX5_chance_211 rfl rfl ?_
                                          refine aw_iload cx 215 dX5_chance_213 rfl rfl ?_
                                          refine aw_V2vW cx 218 mX5_hue (ci := 4) dX5_chance_215 rfl okmX5_hue lkX5_53 (by first | with_reducible exact mm_0 | with_reducible exact mm_1 | with_reducible exact mm_2 | with_reducible exact mm_3 | with_reducible exact mm_4 | with_reducible exact mm_5 | with_reducible exact mm_6 | with_reducible exact mm_7 | with_reducible exact mm_8 | with_reducible exact mm_9) ⟨rfl, by decide⟩ (zz_rcW0 mX5_chance hRm hNS rfl rfl) (Nat.le_of_ble_eq_true rfl) ?_
                                          refine s_X5_hue ⟨by omega, by omega⟩ ⟨by omega, by omega⟩ (fun v215 e215 => ⟨_, rfl, ?_⟩)
                                          have q215 := hA x y (by omega) (by omega) (by omega) (by omega)
                                          have w215 := hg x y (by omega) (by omega) (by omega) (by omega)
                                          refine aw_V1vW cx 221 mX5_degree (ci := 4) dX5_chance_218 rfl okmX5_degree lkX5_82 (by first | with_reducible exact mm_0 | with_reducible exact mm_1 | with_reducible exact mm_2 | with_reducible exact mm_3 | with_reducible exact mm_4 | with_reducible exact mm_5 | with_reducible exact mm_6 | with_reducible exact mm_7 | with_reducible exact mm_8 | with_reducible exact mm_9) ⟨rfl, by decide⟩ (zz_rcW0 mX5_chance hRm hNS rfl rfl) (Nat.le_of_ble_eq_true rfl) ?_
                                          refine s_X5_degree hn hA hg ⟨by omega, by omega⟩ (fun v218 e218 => ⟨_, rfl, ?_⟩)
                                          have d218 := ev_dpos hE (c := v215) ⟨by omega, by omega⟩
                                          have d219 := dg_b (n := n) (by omega) g v215
                                          refine aw_i2l cx 222 dX5_chance_221 rfl ⟨by omega, by omega⟩ ?_
                                          refine aw_ldivN cx 223 dX5_chance_222 rfl ⟨by omega, by omega, by omega, by omega⟩ ?_
                                          refine aw_lmul cx 224 dX5_chance_223 rfl ?_
                                          refine aw_ladd cx 225 dX5_chance_224 rfl ?_
                                          refine aw_lastore cx 226 dX5_chance_225 rfl (by first | with_reducible exact mm_0 | with_reducible exact mm_1 | with_reducible exact mm_2 | with_reducible exact mm_3 | with_reducible exact mm_4 | with_reducible exact mm_5 | with_reducible exact mm_6 | with_reducible exact mm_7 | with_reducible exact mm_8 | with_reducible exact mm_9) ⟨by omega, by omega⟩ (by decide) ?_
                                          first | rw [my_0] | rw [my_1] | rw [my_2] | rw [my_3] | rw [my_4] | rw [my_5] | rw [my_6] | rw [my_7] | rw [my_8] | rw [my_9]
                                          refine aw_iinc cx 229 dX5_chance_226 rfl rfl (Nat.le_of_ble_eq_true rfl) rfl ?_
                                          dsimp only [List.set]
                                          refine aw_goto cx 168 dX5_chance_229 (by decide) ?_
                                          exact ih168 (x + 1) _ (by omega) ⟨by omega, by omega⟩ (fun z z0 z1 => by rw [zz_up_n _ _ (by omega)]; exact hU4 z z0 z1) (by rw [zz_up_s, wys_s hx4.1, hU5, hT2 x (by omega) (by omega), Int.mul_assoc, e201, e218, e215, q201, eL]; rfl)
                                    exact aw_weak (lp168 (n.toNat + 1) 0 _ (by omega) ⟨by omega, by omega⟩ (fun z z0 z1 => by rw [zz_up_n _ _ (by omega)]; exact hU3 z z0 z1) (by rw [zz_up_s]; rfl)) (by simp [zz_le])
                              exact aw_weak (lp148 (n.toNat + 1) 0 U2 (by omega) ⟨by omega, by omega⟩ (fun x x0 x1 => by omega)) (by simp [zz_le])
                        exact aw_weak (lp139 7 0 1 T1 U (by omega) ⟨by omega, by omega⟩ rfl (fun x x0 x1 => by rw [wy_0]; exact hT x x0 (by omega))) (by simp [zz_le])
                      · refine aw_aload_n cx 111 dX5_chance_110 rfl rfl ?_
                        refine aw_getfield cx 114 dX5_chance_111 rfl fdX5_35 (by first | with_reducible exact mm_0 | with_reducible exact mm_1 | with_reducible exact mm_2 | with_reducible exact mm_3 | with_reducible exact mm_4 | with_reducible exact mm_5 | with_reducible exact mm_6 | with_reducible exact mm_7 | with_reducible exact mm_8 | with_reducible exact mm_9) (by rfl) ?_
                        refine aw_iload cx 116 dX5_chance_114 rfl rfl ?_
                        refine aw_iload cx 118 dX5_chance_116 rfl rfl ?_
                        refine aw_if_ne cx 121 125 dX5_chance_118 rfl (by decide) ⟨by omega, by omega⟩ (fun c118 => ?_) (fun c118 => ?_)
                        · refine aw_lconst cx 126 0 dX5_chance_125 rfl (by decide +kernel) ?_
                          refine aw_lastore cx 127 dX5_chance_126 rfl (by first | with_reducible exact mm_0 | with_reducible exact mm_1 | with_reducible exact mm_2 | with_reducible exact mm_3 | with_reducible exact mm_4 | with_reducible exact mm_5 | with_reducible exact mm_6 | with_reducible exact mm_7 | with_reducible exact mm_8 | with_reducible exact mm_9) ⟨by omega, by omega⟩ (by decide) ?_
                          first | rw [my_0] | rw [my_1] | rw [my_2] | rw [my_3] | rw [my_4] | rw [my_5] | rw [my_6] | rw [my_7] | rw [my_8] | rw [my_9]
                          refine aw_iinc cx 130 dX5_chance_127 rfl rfl (Nat.le_of_ble_eq_true rfl) rfl ?_
                          dsimp only [List.set]
                          refine aw_goto cx 103 dX5_chance_130 (by decide) ?_
                          exact ih103 (y + 1) _ (by omega) ⟨by omega, by omega⟩ (fun x x0 x1 => by
                            unfold zz_up
                            by_cases e : x = y
                            · rw [if_pos e]
                              first | rw [if_pos (by omega)] | rw [if_neg (by omega)]
                            · rw [if_neg e]
                              exact hT x x0 (by omega))
                        · refine aw_lconst cx 122 1 dX5_chance_121 rfl (by decide +kernel) ?_
                          refine aw_goto cx 126 dX5_chance_122 (by decide) ?_
                          refine aw_lastore cx 127 dX5_chance_126 rfl (by first | with_reducible exact mm_0 | with_reducible exact mm_1 | with_reducible exact mm_2 | with_reducible exact mm_3 | with_reducible exact mm_4 | with_reducible exact mm_5 | with_reducible exact mm_6 | with_reducible exact mm_7 | with_reducible exact mm_8 | with_reducible exact mm_9) ⟨by omega, by omega⟩ (by decide) ?_
                          first | rw [my_0] | rw [my_1] | rw [my_2] | rw [my_3] | rw [my_4] | rw [my_5] | rw [my_6] | rw [my_7] | rw [my_8] | rw [my_9]
                          refine aw_iinc cx 130 dX5_chance_127 rfl rfl (Nat.le_of_ble_eq_true rfl) rfl ?_
                          dsimp only [List.set]
                          refine aw_goto cx 103 dX5_chance_130 (by decide) ?_
                          exact ih103 (y + 1) _ (by omega) ⟨by omega, by omega⟩ (fun x x0 x1 => by
                            unfold zz_up
                            by_cases e : x = y
                            · rw [if_pos e]
                              first | rw [if_pos (by omega)] | rw [if_neg (by omega)]
                            · rw [if_neg e]
                              exact hT x x0 (by omega))
                  exact aw_weak (lp103 9 0 T (by omega) ⟨by omega, by omega⟩ (fun x x0 x1 => by omega)) (by simp [zz_le])
                · refine aw_lload cx 71 dX5_chance_69 rfl rfl ?_
                  refine aw_lload cx 73 dX5_chance_71 rfl rfl ?_
                  refine aw_aload_n cx 74 dX5_chance_73 rfl rfl ?_
                  refine aw_iload cx 76 dX5_chance_74 rfl rfl ?_
                  refine aw_V1v cx 79 mX5_degree (ci := 4) dX5_chance_76 rfl okmX5_degree lkX5_82 (by first | with_reducible exact mm_0 | with_reducible exact mm_1 | with_reducible exact mm_2 | with_reducible exact mm_3 | with_reducible exact mm_4 | with_reducible exact mm_5 | with_reducible exact mm_6 | with_reducible exact mm_7 | with_reducible exact mm_8 | with_reducible exact mm_9) ⟨rfl, by decide⟩ (zz_rc0 mX5_chance hRm hNS rfl rfl) (Nat.le_of_ble_eq_true rfl) ?_
                  refine s_X5_degree hn hA hg ⟨by omega, by omega⟩ (fun v76 e76 => ⟨_, rfl, ?_⟩)
                  have d76 := ev_dpos hE (c := k1) ⟨by omega, by omega⟩
                  have d77 := dg_b (n := n) (by omega) g k1
                  refine aw_i2l cx 80 dX5_chance_79 rfl ⟨by omega, by omega⟩ ?_
                  refine aw_S2v cx 83 mX5_common dX5_chance_80 rfl okmX5_common lkX5_113 (zz_rc0 mX5_chance hRm hNS rfl rfl) (Nat.le_of_ble_eq_true rfl) ?_
                  refine s_X5_common ⟨by omega, by omega⟩ ⟨by omega, by omega⟩ (fun v80 e80 => ⟨_, rfl, ?_⟩)
                  have g80 := gd_b (x := m) (y := v76) (by omega) (by omega)
                  refine aw_ldivN cx 84 dX5_chance_83 rfl ⟨by omega, by omega, by omega, by omega⟩ ?_
                  refine aw_aload_n cx 85 dX5_chance_84 rfl rfl ?_
                  refine aw_iload cx 87 dX5_chance_85 rfl rfl ?_
                  refine aw_V1v cx 90 mX5_degree (ci := 4) dX5_chance_87 rfl okmX5_degree lkX5_82 (by first | with_reducible exact mm_0 | with_reducible exact mm_1 | with_reducible exact mm_2 | with_reducible exact mm_3 | with_reducible exact mm_4 | with_reducible exact mm_5 | with_reducible exact mm_6 | with_reducible exact mm_7 | with_reducible exact mm_8 | with_reducible exact mm_9) ⟨rfl, by decide⟩ (zz_rc0 mX5_chance hRm hNS rfl rfl) (Nat.le_of_ble_eq_true rfl) ?_
                  refine s_X5_degree hn hA hg ⟨by omega, by omega⟩ (fun v87 e87 => ⟨_, rfl, ?_⟩)
                  refine aw_i2l cx 91 dX5_chance_90 rfl ⟨by omega, by omega⟩ ?_
                  refine aw_lmul cx 92 dX5_chance_91 rfl ?_
                  refine aw_lstore cx 94 dX5_chance_92 rfl ⟨Nat.le_of_ble_eq_true rfl, Nat.le_of_ble_eq_true rfl⟩ rfl ?_
                  dsimp only [List.set]
                  refine aw_iinc cx 97 dX5_chance_94 rfl rfl (Nat.le_of_ble_eq_true rfl) rfl ?_
                  dsimp only [List.set]
                  refine aw_goto cx 60 dX5_chance_97 (by decide) ?_
                  exact ih60 (k1 + 1) _ (by omega) ⟨by omega, by omega⟩ (by rw [lm_s hk1.1, ← hm, e80, e76, e87])
            exact lp60 6 0 1 (by omega) ⟨by omega, by omega⟩ rfl
          · refine aw_ldc2 cx 53 (-2) dX5_chance_50 rfl klX5_111 (by decide +kernel) ?_
            refine aw_lreturn cx dX5_chance_53 ?_
            refine hRet _ _ True.intro rfl ?_
            exact k _ _ (by unfold f_chance; rw [if_pos (by omega), if_neg (by omega)]) (mp_mk hn hA hg hV)
      · refine aw_ldc2 cx 35 (-1) dX5_chance_32 rfl klX5_106 (by decide +kernel) ?_
        refine aw_lreturn cx dX5_chance_35 ?_
        refine hRet _ _ True.intro rfl ?_
        exact k _ _ (by unfold f_chance; rw [if_neg (by omega)]) (mp_mk hn hA hg hV)
