set_option maxRecDepth 100000 in
set_option maxHeartbeats 4000000 in
theorem s_X5_quotient {h : AH} {Q : Option AV → AH → Prop} {n tr : Int} {g : Gr} {V : Int → Int} (hX : MI h n g V tr) {a : Int} (ha : R32 a) (k : ∀ v h', v = f_quot n g a → MP h h' (n_quot n g a) (g_quot n g a) (V) (tr) → Q (some (vI v)) h') : MC mX5_quotient [vR 20, vI a] h Q := by
  obtain ⟨C, K, A, B, L, D, T, U, ⟨m0, m1, m2, m3, m4, m5, m6, m7, m8, m9⟩, hn, hA, hg, hV⟩ := hX
  rw [mm_in m0 m1 m2 m3 m4 m5 m6 m7 m8 m9]
  have hR := rk_b (n := n) (g := g) (by omega) hg
  refine mc_start mX5_quotient RX5 "quotient" ⟨rfl, rfl, by decide +kernel⟩ [some (vR 20), some (vI a), none, none, none, none, none, none, none, none, none] ⟨9, rfl⟩ rfl (fun X cx hRm hNS hRet => ?_)
  have hs := shl_r (R := rk n g) ⟨by omega, by omega⟩
  refine aw_aload_n cx 1 dX5_quotient_0 rfl rfl ?_
  refine aw_iconst cx 2 dX5_quotient_1 rfl ?_
  refine aw_putfield cx 5 dX5_quotient_2 rfl fdX5_42 (by first | with_reducible exact mm_0 | with_reducible exact mm_1 | with_reducible exact mm_2 | with_reducible exact mm_3 | with_reducible exact mm_4 | with_reducible exact mm_5 | with_reducible exact mm_6 | with_reducible exact mm_7 | with_reducible exact mm_8 | with_reducible exact mm_9) (by exact Nat.le_of_ble_eq_true rfl) rfl ?_
  dsimp only [List.set]
  first | rw [my_0] | rw [my_1] | rw [my_2] | rw [my_3] | rw [my_4] | rw [my_5] | rw [my_6] | rw [my_7] | rw [my_8] | rw [my_9]
  refine aw_aload_n cx 6 dX5_quotient_5 rfl rfl ?_
  refine aw_iload_n cx 7 dX5_quotient_6 rfl rfl ?_
  refine aw_V1v cx 10 mX5_isSet (ci := 4) dX5_quotient_7 rfl okmX5_isSet lkX5_89 (by first | with_reducible exact mm_0 | with_reducible exact mm_1 | with_reducible exact mm_2 | with_reducible exact mm_3 | with_reducible exact mm_4 | with_reducible exact mm_5 | with_reducible exact mm_6 | with_reducible exact mm_7 | with_reducible exact mm_8 | with_reducible exact mm_9) ⟨rfl, by decide⟩ (zz_rc0 mX5_quotient hRm hNS rfl rfl) (Nat.le_of_ble_eq_true rfl) ?_
  refine s_X5_isSet hn hA hg (by assumption) (fun v7 e7 => ⟨_, rfl, ?_⟩)
  refine aw_if_ne cx 13 15 dX5_quotient_10 rfl (by decide) ⟨by omega, by omega⟩ (fun c10 => ?_) (fun c10 => ?_)
  · refine aw_aload_n cx 16 dX5_quotient_15 rfl rfl ?_
    refine aw_V0v cx 19 mX5_isEven (ci := 4) dX5_quotient_16 rfl okmX5_isEven lkX5_75 (by first | with_reducible exact mm_0 | with_reducible exact mm_1 | with_reducible exact mm_2 | with_reducible exact mm_3 | with_reducible exact mm_4 | with_reducible exact mm_5 | with_reducible exact mm_6 | with_reducible exact mm_7 | with_reducible exact mm_8 | with_reducible exact mm_9) ⟨rfl, by decide⟩ (zz_rc0 mX5_quotient hRm hNS rfl rfl) (Nat.le_of_ble_eq_true rfl) ?_
    refine s_X5_isEven hn hA hg (fun v16 A16 B16 e16 P16 => ⟨_, rfl, ?_⟩)
    refine aw_if_ne cx 22 25 dX5_quotient_19 rfl (by decide) ⟨by omega, by omega⟩ (fun c19 => ?_) (fun c19 => ?_)
    · have hz : fl n g = 0 := by omega
      have hP := P16 hz
      have hO : ∀ c, 0 ≤ c → c < 5 → c < rk n g → fp n g c ≠ -1 := fun c c0 c1 c2 => (fl_z (by omega) hz).2.1 c c0 c1 c2
      have hlt := shl_lt (v := a) (R := rk n g) ⟨by omega, by omega⟩ (by omega) (by omega)
      have lt1 := hlt.1
      have lt2 : blw n g a := hlt.2
      refine aw_aload_n cx 26 dX5_quotient_25 rfl rfl ?_
      refine aw_iload_n cx 27 dX5_quotient_26 rfl rfl ?_
      refine aw_V1v cx 30 mX5_hull (ci := 4) dX5_quotient_27 rfl okmX5_hull lkX5_92 (by first | with_reducible exact mm_0 | with_reducible exact mm_1 | with_reducible exact mm_2 | with_reducible exact mm_3 | with_reducible exact mm_4 | with_reducible exact mm_5 | with_reducible exact mm_6 | with_reducible exact mm_7 | with_reducible exact mm_8 | with_reducible exact mm_9) ⟨rfl, by decide⟩ (zz_rc0 mX5_quotient hRm hNS rfl rfl) (Nat.le_of_ble_eq_true rfl) ?_
      refine s_X5_hull hn hA hg hP hO (by assumption) (by assumption) (fun v27 e27 => ⟨_, rfl, ?_⟩)
      have hE : evn n g := ⟨hn, hg, hz⟩
      have hS : cld n g v27 := by
        rw [e27]
        exact ⟨(hl_p hR lt1 lt2).1, hl_fix hR lt1 lt2⟩
      have hok : oks n g a := by
        unfold oks
        omega
      clear hlt lt2 e16 P16 hP hO
      refine aw_istore_n cx 31 2 dX5_quotient_30 rfl rfl ⟨Nat.le_of_ble_eq_true rfl, Nat.le_of_ble_eq_true rfl⟩ rfl ?_
      dsimp only [List.set]
      refine aw_iconst cx 32 dX5_quotient_31 rfl ?_
      refine aw_istore_n cx 33 3 dX5_quotient_32 rfl rfl ⟨Nat.le_of_ble_eq_true rfl, Nat.le_of_ble_eq_true rfl⟩ rfl ?_
      dsimp only [List.set]
      refine aw_iconst cx 34 dX5_quotient_33 rfl ?_
      refine aw_istore cx 36 dX5_quotient_34 rfl ⟨Nat.le_of_ble_eq_true rfl, Nat.le_of_ble_eq_true rfl⟩ rfl ?_
      dsimp only [List.set]
      have lp36 : ∀ (kf : Nat) (x z : Int) (L1 : Int → Int), (n - x < (kf : Int)) → (0 ≤ x ∧ x ≤ n) → z = (bst g v27 x).2 → (∀ y, 0 ≤ y → y < x → L1 y = (bst g v27 x).1 y) → AW X 36 [some (vR 20), some (vI (a)), some (vI (v27)), some (vI (z)), some (vI (x)), none, none, none, none, none, none] [] (hmd h n tr C K V A16 B16 L1 D T U) := by
        intro kf
        induction kf with
        | zero =>
          intro x z L1 hk hx hzx hL
          exfalso
          omega
        | succ kf ih36 =>
          intro x z L1 hk hx hzx hL
          obtain ⟨bi1, bi2, -⟩ := BI_all (g := g) (S := v27) x hx.1
          rw [← hzx] at bi1 bi2
          refine aw_iload cx 38 dX5_quotient_36 rfl rfl ?_
          refine aw_aload_n cx 39 dX5_quotient_38 rfl rfl ?_
          refine aw_getfield cx 42 dX5_quotient_39 rfl fdX5_7 (by first | with_reducible exact mm_0 | with_reducible exact mm_1 | with_reducible exact mm_2 | with_reducible exact mm_3 | with_reducible exact mm_4 | with_reducible exact mm_5 | with_reducible exact mm_6 | with_reducible exact mm_7 | with_reducible exact mm_8 | with_reducible exact mm_9) (by rfl) ?_
          refine aw_icmp_ge cx 45 135 dX5_quotient_42 rfl (by decide) ⟨⟨by omega, by omega⟩, ⟨by omega, by omega⟩⟩ (fun c42 => ?_) (fun c42 => ?_)
          · have hxn : x = n := by omega
            rw [hxn] at hL hzx bi2
            have bi3 := hx
            have hB8 : ∀ y, 0 ≤ y → y < n → 0 ≤ (bst g v27 n).1 y ∧ (bst g v27 n).1 y < 8 := fun y y0 y1 => by
              have := bi2 y y0 y1
              omega
            have hL8 : ∀ y, 0 ≤ y → y < n → 0 ≤ L1 y ∧ L1 y < 8 := fun y y0 y1 => by
              have := hB8 y y0 y1
              rw [hL y y0 y1]
              exact this
            have hnn := nn_b hn
            refine aw_aload_n cx 136 dX5_quotient_135 rfl rfl ?_
            refine aw_V0v cx 139 mX5_rank (ci := 4) dX5_quotient_136 rfl okmX5_rank lkX5_61 (by first | with_reducible exact mm_0 | with_reducible exact mm_1 | with_reducible exact mm_2 | with_reducible exact mm_3 | with_reducible exact mm_4 | with_reducible exact mm_5 | with_reducible exact mm_6 | with_reducible exact mm_7 | with_reducible exact mm_8 | with_reducible exact mm_9) ⟨rfl, by decide⟩ (zz_rc0 mX5_quotient hRm hNS rfl rfl) (Nat.le_of_ble_eq_true rfl) ?_
            refine s_X5_rank hn hA hg (fun v136 e136 => ⟨_, rfl, ?_⟩)
            subst e136
            refine aw_istore cx 141 dX5_quotient_139 rfl ⟨Nat.le_of_ble_eq_true rfl, Nat.le_of_ble_eq_true rfl⟩ rfl ?_
            dsimp only [List.set]
            refine aw_iconst cx 142 dX5_quotient_141 rfl ?_
            refine aw_istore cx 144 dX5_quotient_142 rfl ⟨Nat.le_of_ble_eq_true rfl, Nat.le_of_ble_eq_true rfl⟩ rfl ?_
            dsimp only [List.set]
            have lp144 : ∀ (kf : Nat) (i : Int) (D1 : Int → Int), (5 - i < (kf : Int)) → (0 ≤ i ∧ i ≤ 5) → (∀ y, 0 ≤ y → y < i → D1 y = y) → AW X 144 [some (vR 20), some (vI (a)), some (vI (v27)), some (vI (z)), some (vI (rk n g)), some (vI (i)), none, none, none, none, none] [] (hmd h n tr C K V A16 B16 L1 D1 T U) := by
              intro kf
              induction kf with
              | zero =>
                intro i D1 hk hi hD
                exfalso
                omega
              | succ kf ih144 =>
                intro i D1 hk hi hD
                refine aw_iload cx 146 dX5_quotient_144 rfl rfl ?_
                refine aw_iconst cx 147 dX5_quotient_146 rfl ?_
                refine aw_icmp_ge cx 150 165 dX5_quotient_147 rfl (by decide) ⟨⟨by omega, by omega⟩, ⟨by omega, by omega⟩⟩ (fun c147 => ?_) (fun c147 => ?_)
                · refine aw_iconst cx 166 dX5_quotient_165 rfl ?_
                  refine aw_istore cx 168 dX5_quotient_166 rfl ⟨Nat.le_of_ble_eq_true rfl, Nat.le_of_ble_eq_true rfl⟩ rfl ?_
                  dsimp only [List.set]
                  have lp168 : ∀ (kf : Nat) (r : Int) (D2 : Int → Int), (5 - r < (kf : Int)) → (0 ≤ r ∧ r ≤ 5) → RI n g (bst g v27 n).1 D2 r → AW X 168 [some (vR 20), some (vI (a)), some (vI (v27)), some (vI (z)), some (vI (rk n g)), some (vI (r)), none, none, none, none, none] [] (hmd h n tr C K V A16 B16 L1 D2 T U) := by
                    intro kf
                    induction kf with
                    | zero =>
                      intro r D2 hk hr hRI
                      exfalso
                      omega
                    | succ kf ih168 =>
                      intro r D2 hk hr hRI
                      refine aw_iload cx 170 dX5_quotient_168 rfl rfl ?_
                      refine aw_iconst cx 171 dX5_quotient_170 rfl ?_
                      refine aw_icmp_ge cx 174 363 dX5_quotient_171 rfl (by decide) ⟨⟨by omega, by omega⟩, ⟨by omega, by omega⟩⟩ (fun c171 => ?_) (fun c171 => ?_)
                      · rw [show r = 5 by omega] at hRI
                        have hK := RI_5 hRI
                        refine aw_iconst cx 364 dX5_quotient_363 rfl ?_
                        refine aw_istore cx 366 dX5_quotient_364 rfl ⟨Nat.le_of_ble_eq_true rfl, Nat.le_of_ble_eq_true rfl⟩ rfl ?_
                        dsimp only [List.set]
                        have lp366 : ∀ (kf : Nat) (i : Int) (K1 : Int → Int), (64 - i < (kf : Int)) → (0 ≤ i ∧ i ≤ 64) → (∀ y, 0 ≤ y → y < i → K1 y = C y) → AW X 366 [some (vR 20), some (vI (a)), some (vI (v27)), some (vI (z)), some (vI (rk n g)), some (vI (i)), none, none, none, none, none] [] (hmd h n tr C K1 V A16 B16 L1 D2 T U) := by
                          intro kf
                          induction kf with
                          | zero =>
                            intro i K1 hk hi2 hK1
                            exfalso
                            omega
                          | succ kf ih366 =>
                            intro i K1 hk hi2 hK1
                            refine aw_iload cx 368 dX5_quotient_366 rfl rfl ?_
                            refine aw_bipush cx 370 dX5_quotient_368 rfl (by decide +kernel) ?_
                            refine aw_icmp_ge cx 373 393 dX5_quotient_370 rfl (by decide) ⟨⟨by omega, by omega⟩, ⟨by omega, by omega⟩⟩ (fun c370 => ?_) (fun c370 => ?_)
                            · refine aw_iconst cx 394 dX5_quotient_393 rfl ?_
                              refine aw_istore cx 396 dX5_quotient_394 rfl ⟨Nat.le_of_ble_eq_true rfl, Nat.le_of_ble_eq_true rfl⟩ rfl ?_
                              dsimp only [List.set]
                              have lp396 : ∀ (kf : Nat) (x1 : Int) (C1 : Int → Int), (n - x1 < (kf : Int)) → (0 ≤ x1 ∧ x1 ≤ n) → PQ n g v27 C1 x1 0 → AW X 396 [some (vR 20), some (vI (a)), some (vI (v27)), some (vI (z)), some (vI (rk n g)), some (vI (x1)), none, none, none, none, none] [] (hmd h n tr C1 K1 V A16 B16 L1 D2 T U) := by
                                intro kf
                                induction kf with
                                | zero =>
                                  intro x1 C1 hk hx1 hC1
                                  exfalso
                                  omega
                                | succ kf ih396 =>
                                  intro x1 C1 hk hx1 hC1
                                  refine aw_iload cx 398 dX5_quotient_396 rfl rfl ?_
                                  refine aw_aload_n cx 399 dX5_quotient_398 rfl rfl ?_
                                  refine aw_getfield cx 402 dX5_quotient_399 rfl fdX5_7 (by first | with_reducible exact mm_0 | with_reducible exact mm_1 | with_reducible exact mm_2 | with_reducible exact mm_3 | with_reducible exact mm_4 | with_reducible exact mm_5 | with_reducible exact mm_6 | with_reducible exact mm_7 | with_reducible exact mm_8 | with_reducible exact mm_9) (by rfl) ?_
                                  refine aw_icmp_ge cx 405 522 dX5_quotient_402 rfl (by decide) ⟨⟨by omega, by omega⟩, ⟨by omega, by omega⟩⟩ (fun c402 => ?_) (fun c402 => ?_)
                                  · have hA4 := PQ_e (by omega) hC1 (show n ≤ x1 by omega)
                                    have hz4 : z = zQ n g v27 := hzx
                                    rw [hz4]
                                    refine aw_aload_n cx 523 dX5_quotient_522 rfl rfl ?_
                                    refine aw_iload_n cx 524 dX5_quotient_523 rfl rfl ?_
                                    refine aw_putfield cx 527 dX5_quotient_524 rfl fdX5_7 (by first | with_reducible exact mm_0 | with_reducible exact mm_1 | with_reducible exact mm_2 | with_reducible exact mm_3 | with_reducible exact mm_4 | with_reducible exact mm_5 | with_reducible exact mm_6 | with_reducible exact mm_7 | with_reducible exact mm_8 | with_reducible exact mm_9) (by exact Nat.le_of_ble_eq_true rfl) rfl ?_
                                    dsimp only [List.set]
                                    first | rw [my_0] | rw [my_1] | rw [my_2] | rw [my_3] | rw [my_4] | rw [my_5] | rw [my_6] | rw [my_7] | rw [my_8] | rw [my_9]
                                    refine aw_aload_n cx 528 dX5_quotient_527 rfl rfl ?_
                                    refine aw_getfield cx 531 dX5_quotient_528 rfl fdX5_7 (by first | with_reducible exact mm_0 | with_reducible exact mm_1 | with_reducible exact mm_2 | with_reducible exact mm_3 | with_reducible exact mm_4 | with_reducible exact mm_5 | with_reducible exact mm_6 | with_reducible exact mm_7 | with_reducible exact mm_8 | with_reducible exact mm_9) (by rfl) ?_
                                    refine aw_ireturn cx dX5_quotient_531 ?_
                                    refine hRet _ _ True.intro rfl ?_
                                    refine k _ _ (by unfold f_quot; rw [if_pos hok, if_pos hz, e27]) ?_
                                    unfold n_quot g_quot
                                    rw [if_pos ⟨hok, hz⟩, if_pos ⟨hok, hz⟩, ← e27]
                                    exact mp_mk (zQ_b hn) hA4 (gQ_r hn hg) hV
                                  · refine aw_iconst cx 406 dX5_quotient_405 rfl ?_
                                    refine aw_istore cx 408 dX5_quotient_406 rfl ⟨Nat.le_of_ble_eq_true rfl, Nat.le_of_ble_eq_true rfl⟩ rfl ?_
                                    dsimp only [List.set]
                                    have lp408 : ∀ (kf : Nat) (y1 : Int) (C2 : Int → Int), (n - y1 < (kf : Int)) → (0 ≤ y1 ∧ y1 ≤ n) → PQ n g v27 C2 x1 y1 → AW X 408 [some (vR 20), some (vI (a)), some (vI (v27)), some (vI (z)), some (vI (rk n g)), some (vI (x1)), some (vI (y1)), none, none, none, none] [] (hmd h n tr C2 K1 V A16 B16 L1 D2 T U) := by
                                      intro kf
                                      induction kf with
                                      | zero =>
                                        intro y1 C2 hk hy1 hC2
                                        exfalso
                                        omega
                                      | succ kf ih408 =>
                                        intro y1 C2 hk hy1 hC2
                                        refine aw_iload cx 410 dX5_quotient_408 rfl rfl ?_
                                        refine aw_aload_n cx 411 dX5_quotient_410 rfl rfl ?_
                                        refine aw_getfield cx 414 dX5_quotient_411 rfl fdX5_7 (by first | with_reducible exact mm_0 | with_reducible exact mm_1 | with_reducible exact mm_2 | with_reducible exact mm_3 | with_reducible exact mm_4 | with_reducible exact mm_5 | with_reducible exact mm_6 | with_reducible exact mm_7 | with_reducible exact mm_8 | with_reducible exact mm_9) (by rfl) ?_
                                        refine aw_icmp_ge cx 417 516 dX5_quotient_414 rfl (by decide) ⟨⟨by omega, by omega⟩, ⟨by omega, by omega⟩⟩ (fun c414 => ?_) (fun c414 => ?_)
                                        · refine aw_iinc cx 519 dX5_quotient_516 rfl rfl (Nat.le_of_ble_eq_true rfl) rfl ?_
                                          dsimp only [List.set]
                                          refine aw_goto cx 396 dX5_quotient_519 (by decide) ?_
                                          exact aw_weak (ih396 (x1 + 1) C2 (by omega) ⟨by omega, by omega⟩ (PQ_r hC2 (by omega))) (by simp [zz_le])
                                        · have kk := (hK1 (8 * x1 + y1) (by omega) (by omega)).trans (hA x1 y1 (by omega) (by omega) (by omega) (by omega))
                                          have w1 := hg x1 y1 (by omega) (by omega) (by omega) (by omega)
                                          have w2 := rk_gt (n := n) (g := g) (by omega) (a := x1) (b := y1) ⟨by omega, by omega⟩ ⟨by omega, by omega⟩
                                          have w3 := hK (g x1 y1) (by omega) (by omega)
                                          have w4 := (kM_p n g (bst g v27 n).1 (x := g x1 y1) (by omega)).1
                                          have w5 := kM_le (n := n) (g := g) (B := (bst g v27 n).1) (x := g x1 y1) (by omega)
                                          have u1 := hL8 x1 (by omega) (by omega)
                                          have u2 := hL8 y1 (by omega) (by omega)
                                          refine aw_aload_n cx 418 dX5_quotient_417 rfl rfl ?_
                                          refine aw_getfield cx 421 dX5_quotient_418 rfl fdX5_32 (by first | with_reducible exact mm_0 | with_reducible exact mm_1 | with_reducible exact mm_2 | with_reducible exact mm_3 | with_reducible exact mm_4 | with_reducible exact mm_5 | with_reducible exact mm_6 | with_reducible exact mm_7 | with_reducible exact mm_8 | with_reducible exact mm_9) (by rfl) ?_
                                          refine aw_aload_n cx 422 dX5_quotient_421 rfl rfl ?_
                                          refine aw_getfield cx 425 dX5_quotient_422 rfl fdX5_17 (by first | with_reducible exact mm_0 | with_reducible exact mm_1 | with_reducible exact mm_2 | with_reducible exact mm_3 | with_reducible exact mm_4 | with_reducible exact mm_5 | with_reducible exact mm_6 | with_reducible exact mm_7 | with_reducible exact mm_8 | with_reducible exact mm_9) (by rfl) ?_
                                          refine aw_bipush cx 427 dX5_quotient_425 rfl (by decide +kernel) ?_
                                          refine aw_iload cx 429 dX5_quotient_427 rfl rfl ?_
                                          refine aw_imul cx 430 dX5_quotient_429 rfl ?_
                                          refine aw_iload cx 432 dX5_quotient_430 rfl rfl ?_
                                          refine aw_iadd cx 433 dX5_quotient_432 rfl ?_
                                          refine aw_iaload cx 434 dX5_quotient_433 rfl (by first | with_reducible exact mm_0 | with_reducible exact mm_1 | with_reducible exact mm_2 | with_reducible exact mm_3 | with_reducible exact mm_4 | with_reducible exact mm_5 | with_reducible exact mm_6 | with_reducible exact mm_7 | with_reducible exact mm_8 | with_reducible exact mm_9) ⟨by omega, by omega⟩ (by decide) ?_
                                          rw [kk]
                                          refine aw_iaload cx 435 dX5_quotient_434 rfl (by first | with_reducible exact mm_0 | with_reducible exact mm_1 | with_reducible exact mm_2 | with_reducible exact mm_3 | with_reducible exact mm_4 | with_reducible exact mm_5 | with_reducible exact mm_6 | with_reducible exact mm_7 | with_reducible exact mm_8 | with_reducible exact mm_9) ⟨by omega, by omega⟩ (by decide) ?_
                                          rw [w3]
                                          generalize hle : kM n g (bst g v27 n).1 (g x1 y1) = le at w3 w4 w5 ⊢
                                          refine aw_istore cx 437 dX5_quotient_435 rfl ⟨Nat.le_of_ble_eq_true rfl, Nat.le_of_ble_eq_true rfl⟩ rfl ?_
                                          dsimp only [List.set]
                                          refine aw_iconst cx 438 dX5_quotient_437 rfl ?_
                                          refine aw_istore cx 440 dX5_quotient_438 rfl ⟨Nat.le_of_ble_eq_true rfl, Nat.le_of_ble_eq_true rfl⟩ rfl ?_
                                          dsimp only [List.set]
                                          refine aw_iconst cx 441 dX5_quotient_440 rfl ?_
                                          refine aw_istore cx 443 dX5_quotient_441 rfl ⟨Nat.le_of_ble_eq_true rfl, Nat.le_of_ble_eq_true rfl⟩ rfl ?_
                                          dsimp only [List.set]
                                          have lp443 : ∀ (kf : Nat) (i v : Int), (le - i < (kf : Int)) → (0 ≤ i ∧ i ≤ le) → v = kN D2 i → AW X 443 [some (vR 20), some (vI (a)), some (vI (v27)), some (vI (z)), some (vI (rk n g)), some (vI (x1)), some (vI (y1)), some (vI (le)), some (vI (v)), some (vI (i)), none] [] (hmd h n tr C2 K1 V A16 B16 L1 D2 T U) := by
                                            intro kf
                                            induction kf with
                                            | zero =>
                                              intro i v hk hi3 hv
                                              exfalso
                                              omega
                                            | succ kf ih443 =>
                                              intro i v hk hi3 hv
                                              have k7 := hK i (by omega)
                                              refine aw_iload cx 445 dX5_quotient_443 rfl rfl ?_
                                              refine aw_iload cx 447 dX5_quotient_445 rfl rfl ?_
                                              refine aw_icmp_ge cx 450 485 dX5_quotient_447 rfl (by decide) ⟨⟨by omega, by omega⟩, ⟨by omega, by omega⟩⟩ (fun c447 => ?_) (fun c447 => ?_)
                                              · have hw : v = qk n g v27 (g x1 y1) := by
                                                  unfold qk
                                                  rw [hv, show i = le by omega, hle]
                                                  exact kN_congr (fun j j0 j1 => hK j j0 (by omega))
                                                refine aw_aload_n cx 486 dX5_quotient_485 rfl rfl ?_
                                                refine aw_getfield cx 489 dX5_quotient_486 rfl fdX5_13 (by first | with_reducible exact mm_0 | with_reducible exact mm_1 | with_reducible exact mm_2 | with_reducible exact mm_3 | with_reducible exact mm_4 | with_reducible exact mm_5 | with_reducible exact mm_6 | with_reducible exact mm_7 | with_reducible exact mm_8 | with_reducible exact mm_9) (by rfl) ?_
                                                refine aw_bipush cx 491 dX5_quotient_489 rfl (by decide +kernel) ?_
                                                refine aw_aload_n cx 492 dX5_quotient_491 rfl rfl ?_
                                                refine aw_getfield cx 495 dX5_quotient_492 rfl fdX5_29 (by first | with_reducible exact mm_0 | with_reducible exact mm_1 | with_reducible exact mm_2 | with_reducible exact mm_3 | with_reducible exact mm_4 | with_reducible exact mm_5 | with_reducible exact mm_6 | with_reducible exact mm_7 | with_reducible exact mm_8 | with_reducible exact mm_9) (by rfl) ?_
                                                refine aw_iload cx 497 dX5_quotient_495 rfl rfl ?_
                                                refine aw_iaload cx 498 dX5_quotient_497 rfl (by first | with_reducible exact mm_0 | with_reducible exact mm_1 | with_reducible exact mm_2 | with_reducible exact mm_3 | with_reducible exact mm_4 | with_reducible exact mm_5 | with_reducible exact mm_6 | with_reducible exact mm_7 | with_reducible exact mm_8 | with_reducible exact mm_9) ⟨by omega, by omega⟩ (by decide) ?_
                                                rw [hL x1 (by omega) (by omega)]
                                                refine aw_imul cx 499 dX5_quotient_498 rfl ?_
                                                refine aw_aload_n cx 500 dX5_quotient_499 rfl rfl ?_
                                                refine aw_getfield cx 503 dX5_quotient_500 rfl fdX5_29 (by first | with_reducible exact mm_0 | with_reducible exact mm_1 | with_reducible exact mm_2 | with_reducible exact mm_3 | with_reducible exact mm_4 | with_reducible exact mm_5 | with_reducible exact mm_6 | with_reducible exact mm_7 | with_reducible exact mm_8 | with_reducible exact mm_9) (by rfl) ?_
                                                refine aw_iload cx 505 dX5_quotient_503 rfl rfl ?_
                                                refine aw_iaload cx 506 dX5_quotient_505 rfl (by first | with_reducible exact mm_0 | with_reducible exact mm_1 | with_reducible exact mm_2 | with_reducible exact mm_3 | with_reducible exact mm_4 | with_reducible exact mm_5 | with_reducible exact mm_6 | with_reducible exact mm_7 | with_reducible exact mm_8 | with_reducible exact mm_9) ⟨by omega, by omega⟩ (by decide) ?_
                                                rw [hL y1 (by omega) (by omega)]
                                                have u3 := hB8 x1 (by omega) (by omega)
                                                have u4 := hB8 y1 (by omega) (by omega)
                                                refine aw_iadd cx 507 dX5_quotient_506 rfl ?_
                                                refine aw_iload cx 509 dX5_quotient_507 rfl rfl ?_
                                                refine aw_iastore cx 510 dX5_quotient_509 rfl (by first | with_reducible exact mm_0 | with_reducible exact mm_1 | with_reducible exact mm_2 | with_reducible exact mm_3 | with_reducible exact mm_4 | with_reducible exact mm_5 | with_reducible exact mm_6 | with_reducible exact mm_7 | with_reducible exact mm_8 | with_reducible exact mm_9) ⟨by omega, by omega⟩ (by decide) ?_
                                                first | rw [my_0] | rw [my_1] | rw [my_2] | rw [my_3] | rw [my_4] | rw [my_5] | rw [my_6] | rw [my_7] | rw [my_8] | rw [my_9]
                                                refine aw_iinc cx 513 dX5_quotient_510 rfl rfl (Nat.le_of_ble_eq_true rfl) rfl ?_
                                                dsimp only [List.set]
                                                refine aw_goto cx 408 dX5_quotient_513 (by decide) ?_
                                                exact aw_weak (ih408 (y1 + 1) (zz_up C2 (8 * (bst g v27 n).1 x1 + (bst g v27 n).1 y1) v) (by omega) ⟨by omega, by omega⟩ (PQ_s hg hB8 ⟨by omega, by omega⟩ ⟨by omega, by omega⟩ hC2 hw)) (by simp [zz_le])
                                              · refine aw_iload cx 452 dX5_quotient_450 rfl rfl ?_
                                                refine aw_iload cx 454 dX5_quotient_452 rfl rfl ?_
                                                refine aw_iload cx 456 dX5_quotient_454 rfl rfl ?_
                                                refine aw_icmp_ge cx 459 475 dX5_quotient_456 rfl (by decide) ⟨⟨by omega, by omega⟩, ⟨by omega, by omega⟩⟩ (fun c456 => ?_) (fun c456 => ?_)
                                                · first
                                                  | (exfalso; omega)
                                                  | (refine aw_iconst cx 476 dX5_quotient_475 rfl ?_
                                                     refine aw_iadd cx 477 dX5_quotient_476 rfl ?_
                                                     refine aw_istore cx 479 dX5_quotient_477 rfl ⟨Nat.le_of_ble_eq_true rfl, Nat.le_of_ble_eq_true rfl⟩ rfl ?_
                                                     dsimp only [List.set]
                                                     refine aw_iinc cx 482 dX5_quotient_479 rfl rfl (Nat.le_of_ble_eq_true rfl) rfl ?_
                                                     dsimp only [List.set]
                                                     refine aw_goto cx 443 dX5_quotient_482 (by decide) ?_
                                                     exact ih443 (i + 1) _ (by omega) ⟨by omega, by omega⟩ (by rw [kN_s hi3.1]; first | (rw [if_pos (by omega)]; omega) | (rw [if_neg (by omega)]; omega)))
                                                · refine aw_aload_n cx 460 dX5_quotient_459 rfl rfl ?_
                                                  refine aw_getfield cx 463 dX5_quotient_460 rfl fdX5_32 (by first | with_reducible exact mm_0 | with_reducible exact mm_1 | with_reducible exact mm_2 | with_reducible exact mm_3 | with_reducible exact mm_4 | with_reducible exact mm_5 | with_reducible exact mm_6 | with_reducible exact mm_7 | with_reducible exact mm_8 | with_reducible exact mm_9) (by rfl) ?_
                                                  refine aw_iload cx 465 dX5_quotient_463 rfl rfl ?_
                                                  refine aw_iaload cx 466 dX5_quotient_465 rfl (by first | with_reducible exact mm_0 | with_reducible exact mm_1 | with_reducible exact mm_2 | with_reducible exact mm_3 | with_reducible exact mm_4 | with_reducible exact mm_5 | with_reducible exact mm_6 | with_reducible exact mm_7 | with_reducible exact mm_8 | with_reducible exact mm_9) ⟨by omega, by omega⟩ (by decide) ?_
                                                  have k8 := (kM_p n g (bst g v27 n).1 (x := i) (by omega)).1
                                                  rw [← k7 (by omega)] at k8
                                                  refine aw_iload cx 468 dX5_quotient_466 rfl rfl ?_
                                                  refine aw_icmp_ne cx 471 475 dX5_quotient_468 rfl (by decide) ⟨⟨by omega, by omega⟩, ⟨by omega, by omega⟩⟩ (fun c468 => ?_) (fun c468 => ?_)
                                                  · refine aw_iconst cx 476 dX5_quotient_475 rfl ?_
                                                    refine aw_iadd cx 477 dX5_quotient_476 rfl ?_
                                                    refine aw_istore cx 479 dX5_quotient_477 rfl ⟨Nat.le_of_ble_eq_true rfl, Nat.le_of_ble_eq_true rfl⟩ rfl ?_
                                                    dsimp only [List.set]
                                                    refine aw_iinc cx 482 dX5_quotient_479 rfl rfl (Nat.le_of_ble_eq_true rfl) rfl ?_
                                                    dsimp only [List.set]
                                                    refine aw_goto cx 443 dX5_quotient_482 (by decide) ?_
                                                    exact ih443 (i + 1) _ (by omega) ⟨by omega, by omega⟩ (by rw [kN_s hi3.1]; first | (rw [if_pos (by omega)]; omega) | (rw [if_neg (by omega)]; omega))
                                                  · refine aw_iconst cx 472 dX5_quotient_471 rfl ?_
                                                    refine aw_goto cx 476 dX5_quotient_472 (by decide) ?_
                                                    refine aw_iadd cx 477 dX5_quotient_476 rfl ?_
                                                    refine aw_istore cx 479 dX5_quotient_477 rfl ⟨Nat.le_of_ble_eq_true rfl, Nat.le_of_ble_eq_true rfl⟩ rfl ?_
                                                    dsimp only [List.set]
                                                    refine aw_iinc cx 482 dX5_quotient_479 rfl rfl (Nat.le_of_ble_eq_true rfl) rfl ?_
                                                    dsimp only [List.set]
                                                    refine aw_goto cx 443 dX5_quotient_482 (by decide) ?_
                                                    exact ih443 (i + 1) _ (by omega) ⟨by omega, by omega⟩ (by rw [kN_s hi3.1]; first | (rw [if_pos (by omega)]; omega) | (rw [if_neg (by omega)]; omega))
                                          exact aw_weak (lp443 6 0 0 (by omega) ⟨by omega, by omega⟩ rfl) (by simp [zz_le])
                                    exact aw_weak (lp408 (n.toNat + 1) 0 C1 (by omega) ⟨by omega, by omega⟩ hC1) (by simp [zz_le])
                              exact aw_weak (lp396 (n.toNat + 1) 0 C (by omega) ⟨by omega, by omega⟩ PQ_0) (by simp [zz_le])
                            · refine aw_aload_n cx 374 dX5_quotient_373 rfl rfl ?_
                              refine aw_getfield cx 377 dX5_quotient_374 rfl fdX5_17 (by first | with_reducible exact mm_0 | with_reducible exact mm_1 | with_reducible exact mm_2 | with_reducible exact mm_3 | with_reducible exact mm_4 | with_reducible exact mm_5 | with_reducible exact mm_6 | with_reducible exact mm_7 | with_reducible exact mm_8 | with_reducible exact mm_9) (by rfl) ?_
                              refine aw_iload cx 379 dX5_quotient_377 rfl rfl ?_
                              refine aw_aload_n cx 380 dX5_quotient_379 rfl rfl ?_
                              refine aw_getfield cx 383 dX5_quotient_380 rfl fdX5_13 (by first | with_reducible exact mm_0 | with_reducible exact mm_1 | with_reducible exact mm_2 | with_reducible exact mm_3 | with_reducible exact mm_4 | with_reducible exact mm_5 | with_reducible exact mm_6 | with_reducible exact mm_7 | with_reducible exact mm_8 | with_reducible exact mm_9) (by rfl) ?_
                              refine aw_iload cx 385 dX5_quotient_383 rfl rfl ?_
                              refine aw_iaload cx 386 dX5_quotient_385 rfl (by first | with_reducible exact mm_0 | with_reducible exact mm_1 | with_reducible exact mm_2 | with_reducible exact mm_3 | with_reducible exact mm_4 | with_reducible exact mm_5 | with_reducible exact mm_6 | with_reducible exact mm_7 | with_reducible exact mm_8 | with_reducible exact mm_9) ⟨by omega, by omega⟩ (by decide) ?_
                              refine aw_iastore cx 387 dX5_quotient_386 rfl (by first | with_reducible exact mm_0 | with_reducible exact mm_1 | with_reducible exact mm_2 | with_reducible exact mm_3 | with_reducible exact mm_4 | with_reducible exact mm_5 | with_reducible exact mm_6 | with_reducible exact mm_7 | with_reducible exact mm_8 | with_reducible exact mm_9) ⟨by omega, by omega⟩ (by decide) ?_
                              first | rw [my_0] | rw [my_1] | rw [my_2] | rw [my_3] | rw [my_4] | rw [my_5] | rw [my_6] | rw [my_7] | rw [my_8] | rw [my_9]
                              refine aw_iinc cx 390 dX5_quotient_387 rfl rfl (Nat.le_of_ble_eq_true rfl) rfl ?_
                              dsimp only [List.set]
                              refine aw_goto cx 366 dX5_quotient_390 (by decide) ?_
                              exact ih366 (i + 1) _ (by omega) ⟨by omega, by omega⟩ (fun y y0 y1 => by
                                unfold zz_up
                                by_cases e : y = i
                                · rw [if_pos e, e]
                                · rw [if_neg e]
                                  exact hK1 y y0 (by omega))
                        exact aw_weak (lp366 65 0 K (by omega) ⟨by omega, by omega⟩ (fun y y0 y1 => by omega)) (by simp [zz_le])
                      · refine aw_iconst cx 175 dX5_quotient_174 rfl ?_
                        refine aw_istore cx 177 dX5_quotient_175 rfl ⟨Nat.le_of_ble_eq_true rfl, Nat.le_of_ble_eq_true rfl⟩ rfl ?_
                        dsimp only [List.set]
                        have lp177 : ∀ (kf : Nat) (p : Int) (D3 : Int → Int), (n * n - p < (kf : Int)) → (0 ≤ p ∧ p ≤ n * n) → QI n g (bst g v27 n).1 D2 D3 p 0 → AW X 177 [some (vR 20), some (vI (a)), some (vI (v27)), some (vI (z)), some (vI (rk n g)), some (vI (r)), some (vI (p)), none, none, none, none] [] (hmd h n tr C K V A16 B16 L1 D3 T U) := by
                          intro kf
                          induction kf with
                          | zero =>
                            intro p D3 hk hp hQ
                            exfalso
                            omega
                          | succ kf ih177 =>
                            intro p D3 hk hp hQ
                            refine aw_iload cx 179 dX5_quotient_177 rfl rfl ?_
                            refine aw_aload_n cx 180 dX5_quotient_179 rfl rfl ?_
                            refine aw_getfield cx 183 dX5_quotient_180 rfl fdX5_7 (by first | with_reducible exact mm_0 | with_reducible exact mm_1 | with_reducible exact mm_2 | with_reducible exact mm_3 | with_reducible exact mm_4 | with_reducible exact mm_5 | with_reducible exact mm_6 | with_reducible exact mm_7 | with_reducible exact mm_8 | with_reducible exact mm_9) (by rfl) ?_
                            refine aw_aload_n cx 184 dX5_quotient_183 rfl rfl ?_
                            refine aw_getfield cx 187 dX5_quotient_184 rfl fdX5_7 (by first | with_reducible exact mm_0 | with_reducible exact mm_1 | with_reducible exact mm_2 | with_reducible exact mm_3 | with_reducible exact mm_4 | with_reducible exact mm_5 | with_reducible exact mm_6 | with_reducible exact mm_7 | with_reducible exact mm_8 | with_reducible exact mm_9) (by rfl) ?_
                            refine aw_imul cx 188 dX5_quotient_187 rfl ?_
                            refine aw_icmp_ge cx 191 357 dX5_quotient_188 rfl (by decide) ⟨⟨by omega, by omega⟩, ⟨by omega, by omega⟩⟩ (fun c188 => ?_) (fun c188 => ?_)
                            · refine aw_iinc cx 360 dX5_quotient_357 rfl rfl (Nat.le_of_ble_eq_true rfl) rfl ?_
                              dsimp only [List.set]
                              refine aw_goto cx 168 dX5_quotient_360 (by decide) ?_
                              exact aw_weak (ih168 (r + 1) D3 (by omega) ⟨by omega, by omega⟩ (QI_e hg (by omega) hRI hQ (by omega))) (by simp [zz_le])
                            · refine aw_iconst cx 192 dX5_quotient_191 rfl ?_
                              refine aw_istore cx 194 dX5_quotient_192 rfl ⟨Nat.le_of_ble_eq_true rfl, Nat.le_of_ble_eq_true rfl⟩ rfl ?_
                              dsimp only [List.set]
                              have lp194 : ∀ (kf : Nat) (q : Int) (D4 : Int → Int), (n * n - q < (kf : Int)) → (0 ≤ q ∧ q ≤ n * n) → QI n g (bst g v27 n).1 D2 D4 p q → AW X 194 [some (vR 20), some (vI (a)), some (vI (v27)), some (vI (z)), some (vI (rk n g)), some (vI (r)), some (vI (p)), some (vI (q)), none, none, none] [] (hmd h n tr C K V A16 B16 L1 D4 T U) := by
                                intro kf
                                induction kf with
                                | zero =>
                                  intro q D4 hk hq hQ4
                                  exfalso
                                  omega
                                | succ kf ih194 =>
                                  intro q D4 hk hq hQ4
                                  refine aw_iload cx 196 dX5_quotient_194 rfl rfl ?_
                                  refine aw_aload_n cx 197 dX5_quotient_196 rfl rfl ?_
                                  refine aw_getfield cx 200 dX5_quotient_197 rfl fdX5_7 (by first | with_reducible exact mm_0 | with_reducible exact mm_1 | with_reducible exact mm_2 | with_reducible exact mm_3 | with_reducible exact mm_4 | with_reducible exact mm_5 | with_reducible exact mm_6 | with_reducible exact mm_7 | with_reducible exact mm_8 | with_reducible exact mm_9) (by rfl) ?_
                                  refine aw_aload_n cx 201 dX5_quotient_200 rfl rfl ?_
                                  refine aw_getfield cx 204 dX5_quotient_201 rfl fdX5_7 (by first | with_reducible exact mm_0 | with_reducible exact mm_1 | with_reducible exact mm_2 | with_reducible exact mm_3 | with_reducible exact mm_4 | with_reducible exact mm_5 | with_reducible exact mm_6 | with_reducible exact mm_7 | with_reducible exact mm_8 | with_reducible exact mm_9) (by rfl) ?_
                                  refine aw_imul cx 205 dX5_quotient_204 rfl ?_
                                  refine aw_icmp_ge cx 208 351 dX5_quotient_205 rfl (by decide) ⟨⟨by omega, by omega⟩, ⟨by omega, by omega⟩⟩ (fun c205 => ?_) (fun c205 => ?_)
                                  · refine aw_iinc cx 354 dX5_quotient_351 rfl rfl (Nat.le_of_ble_eq_true rfl) rfl ?_
                                    dsimp only [List.set]
                                    refine aw_goto cx 177 dX5_quotient_354 (by decide) ?_
                                    exact aw_weak (ih177 (p + 1) D4 (by omega) ⟨by omega, by omega⟩ (QI_r hQ4 (by omega))) (by simp [zz_le])
                                  · obtain ⟨c1, c2⟩ := dm (p := p) (n := n) (by omega) (by omega) (by omega)
                                    obtain ⟨d1, d2⟩ := dm (p := q) (n := n) (by omega) (by omega) (by omega)
                                    have l1 := hL (p / n) c1.1 c1.2
                                    have l2 := hL (q / n) d1.1 d1.2
                                    have l3 := hL (p % n) c2.1 c2.2
                                    have l4 := hL (q % n) d2.1 d2.2
                                    have k1 := hL8 (p / n) c1.1 c1.2
                                    have k2 := hL8 (q / n) d1.1 d1.2
                                    have k3 := hL8 (p % n) c2.1 c2.2
                                    have k4 := hL8 (q % n) d2.1 d2.2
                                    refine aw_aload_n cx 209 dX5_quotient_208 rfl rfl ?_
                                    refine aw_getfield cx 212 dX5_quotient_209 rfl fdX5_29 (by first | with_reducible exact mm_0 | with_reducible exact mm_1 | with_reducible exact mm_2 | with_reducible exact mm_3 | with_reducible exact mm_4 | with_reducible exact mm_5 | with_reducible exact mm_6 | with_reducible exact mm_7 | with_reducible exact mm_8 | with_reducible exact mm_9) (by rfl) ?_
                                    refine aw_iload cx 214 dX5_quotient_212 rfl rfl ?_
                                    refine aw_aload_n cx 215 dX5_quotient_214 rfl rfl ?_
                                    refine aw_getfield cx 218 dX5_quotient_215 rfl fdX5_7 (by first | with_reducible exact mm_0 | with_reducible exact mm_1 | with_reducible exact mm_2 | with_reducible exact mm_3 | with_reducible exact mm_4 | with_reducible exact mm_5 | with_reducible exact mm_6 | with_reducible exact mm_7 | with_reducible exact mm_8 | with_reducible exact mm_9) (by rfl) ?_
                                    refine aw_idivN cx 219 dX5_quotient_218 rfl ⟨by omega, by omega, by omega, by omega⟩ ?_
                                    refine aw_iaload cx 220 dX5_quotient_219 rfl (by first | with_reducible exact mm_0 | with_reducible exact mm_1 | with_reducible exact mm_2 | with_reducible exact mm_3 | with_reducible exact mm_4 | with_reducible exact mm_5 | with_reducible exact mm_6 | with_reducible exact mm_7 | with_reducible exact mm_8 | with_reducible exact mm_9) ⟨by omega, by omega⟩ (by decide) ?_
                                    refine aw_aload_n cx 221 dX5_quotient_220 rfl rfl ?_
                                    refine aw_getfield cx 224 dX5_quotient_221 rfl fdX5_29 (by first | with_reducible exact mm_0 | with_reducible exact mm_1 | with_reducible exact mm_2 | with_reducible exact mm_3 | with_reducible exact mm_4 | with_reducible exact mm_5 | with_reducible exact mm_6 | with_reducible exact mm_7 | with_reducible exact mm_8 | with_reducible exact mm_9) (by rfl) ?_
                                    refine aw_iload cx 226 dX5_quotient_224 rfl rfl ?_
                                    refine aw_aload_n cx 227 dX5_quotient_226 rfl rfl ?_
                                    refine aw_getfield cx 230 dX5_quotient_227 rfl fdX5_7 (by first | with_reducible exact mm_0 | with_reducible exact mm_1 | with_reducible exact mm_2 | with_reducible exact mm_3 | with_reducible exact mm_4 | with_reducible exact mm_5 | with_reducible exact mm_6 | with_reducible exact mm_7 | with_reducible exact mm_8 | with_reducible exact mm_9) (by rfl) ?_
                                    refine aw_idivN cx 231 dX5_quotient_230 rfl ⟨by omega, by omega, by omega, by omega⟩ ?_
                                    refine aw_iaload cx 232 dX5_quotient_231 rfl (by first | with_reducible exact mm_0 | with_reducible exact mm_1 | with_reducible exact mm_2 | with_reducible exact mm_3 | with_reducible exact mm_4 | with_reducible exact mm_5 | with_reducible exact mm_6 | with_reducible exact mm_7 | with_reducible exact mm_8 | with_reducible exact mm_9) ⟨by omega, by omega⟩ (by decide) ?_
                                    refine aw_icmp_ne cx 235 266 dX5_quotient_232 rfl (by decide) ⟨⟨by omega, by omega⟩, ⟨by omega, by omega⟩⟩ (fun c232 => ?_) (fun c232 => ?_)
                                    · refine aw_iconst cx 267 dX5_quotient_266 rfl ?_
                                      refine aw_istore cx 269 dX5_quotient_267 rfl ⟨Nat.le_of_ble_eq_true rfl, Nat.le_of_ble_eq_true rfl⟩ rfl ?_
                                      dsimp only [List.set]
                                      refine aw_aload_n cx 270 dX5_quotient_269 rfl rfl ?_
                                      refine aw_iload cx 272 dX5_quotient_270 rfl rfl ?_
                                      refine aw_aload_n cx 273 dX5_quotient_272 rfl rfl ?_
                                      refine aw_getfield cx 276 dX5_quotient_273 rfl fdX5_7 (by first | with_reducible exact mm_0 | with_reducible exact mm_1 | with_reducible exact mm_2 | with_reducible exact mm_3 | with_reducible exact mm_4 | with_reducible exact mm_5 | with_reducible exact mm_6 | with_reducible exact mm_7 | with_reducible exact mm_8 | with_reducible exact mm_9) (by rfl) ?_
                                      refine aw_idivN cx 277 dX5_quotient_276 rfl ⟨by omega, by omega, by omega, by omega⟩ ?_
                                      refine aw_iload cx 279 dX5_quotient_277 rfl rfl ?_
                                      refine aw_aload_n cx 280 dX5_quotient_279 rfl rfl ?_
                                      refine aw_getfield cx 283 dX5_quotient_280 rfl fdX5_7 (by first | with_reducible exact mm_0 | with_reducible exact mm_1 | with_reducible exact mm_2 | with_reducible exact mm_3 | with_reducible exact mm_4 | with_reducible exact mm_5 | with_reducible exact mm_6 | with_reducible exact mm_7 | with_reducible exact mm_8 | with_reducible exact mm_9) (by rfl) ?_
                                      refine aw_iremN cx 284 dX5_quotient_283 rfl ⟨by omega, by omega, by omega, by omega⟩ ?_
                                      refine aw_V2v cx 287 mX5_hue (ci := 4) dX5_quotient_284 rfl okmX5_hue lkX5_53 (by first | with_reducible exact mm_0 | with_reducible exact mm_1 | with_reducible exact mm_2 | with_reducible exact mm_3 | with_reducible exact mm_4 | with_reducible exact mm_5 | with_reducible exact mm_6 | with_reducible exact mm_7 | with_reducible exact mm_8 | with_reducible exact mm_9) ⟨rfl, by decide⟩ (zz_rc0 mX5_quotient hRm hNS rfl rfl) (Nat.le_of_ble_eq_true rfl) ?_
                                      refine s_X5_hue ⟨by omega, by omega⟩ ⟨by omega, by omega⟩ (fun v284 e284 => ⟨_, rfl, ?_⟩)
                                      have q284 := hA (p / n) (p % n) c1.1 c1.2 c2.1 c2.2
                                      rw [q284] at e284
                                      have w284 := hg (p / n) (p % n) c1.1 c1.2 c2.1 c2.2
                                      subst e284
                                      refine aw_istore cx 289 dX5_quotient_287 rfl ⟨Nat.le_of_ble_eq_true rfl, Nat.le_of_ble_eq_true rfl⟩ rfl ?_
                                      dsimp only [List.set]
                                      refine aw_aload_n cx 290 dX5_quotient_289 rfl rfl ?_
                                      refine aw_iload cx 292 dX5_quotient_290 rfl rfl ?_
                                      refine aw_aload_n cx 293 dX5_quotient_292 rfl rfl ?_
                                      refine aw_getfield cx 296 dX5_quotient_293 rfl fdX5_7 (by first | with_reducible exact mm_0 | with_reducible exact mm_1 | with_reducible exact mm_2 | with_reducible exact mm_3 | with_reducible exact mm_4 | with_reducible exact mm_5 | with_reducible exact mm_6 | with_reducible exact mm_7 | with_reducible exact mm_8 | with_reducible exact mm_9) (by rfl) ?_
                                      refine aw_idivN cx 297 dX5_quotient_296 rfl ⟨by omega, by omega, by omega, by omega⟩ ?_
                                      refine aw_iload cx 299 dX5_quotient_297 rfl rfl ?_
                                      refine aw_aload_n cx 300 dX5_quotient_299 rfl rfl ?_
                                      refine aw_getfield cx 303 dX5_quotient_300 rfl fdX5_7 (by first | with_reducible exact mm_0 | with_reducible exact mm_1 | with_reducible exact mm_2 | with_reducible exact mm_3 | with_reducible exact mm_4 | with_reducible exact mm_5 | with_reducible exact mm_6 | with_reducible exact mm_7 | with_reducible exact mm_8 | with_reducible exact mm_9) (by rfl) ?_
                                      refine aw_iremN cx 304 dX5_quotient_303 rfl ⟨by omega, by omega, by omega, by omega⟩ ?_
                                      refine aw_V2v cx 307 mX5_hue (ci := 4) dX5_quotient_304 rfl okmX5_hue lkX5_53 (by first | with_reducible exact mm_0 | with_reducible exact mm_1 | with_reducible exact mm_2 | with_reducible exact mm_3 | with_reducible exact mm_4 | with_reducible exact mm_5 | with_reducible exact mm_6 | with_reducible exact mm_7 | with_reducible exact mm_8 | with_reducible exact mm_9) ⟨rfl, by decide⟩ (zz_rc0 mX5_quotient hRm hNS rfl rfl) (Nat.le_of_ble_eq_true rfl) ?_
                                      refine s_X5_hue ⟨by omega, by omega⟩ ⟨by omega, by omega⟩ (fun v304 e304 => ⟨_, rfl, ?_⟩)
                                      have q304 := hA (q / n) (q % n) d1.1 d1.2 d2.1 d2.2
                                      rw [q304] at e304
                                      have w304 := hg (q / n) (q % n) d1.1 d1.2 d2.1 d2.2
                                      subst e304
                                      have k5 := (hQ4.1 (g (p / n) (p % n)) (by omega) (by omega)).1
                                      have k6 := (hQ4.1 (g (q / n) (q % n)) (by omega) (by omega)).1
                                      refine aw_istore cx 309 dX5_quotient_307 rfl ⟨Nat.le_of_ble_eq_true rfl, Nat.le_of_ble_eq_true rfl⟩ rfl ?_
                                      dsimp only [List.set]
                                      refine aw_iload cx 311 dX5_quotient_309 rfl rfl ?_
                                      refine aw_if_eq cx 314 345 dX5_quotient_311 rfl (by decide) ⟨by omega, by omega⟩ (fun c311 => ?_) (fun c311 => ?_)
                                      · first
                                        | (exfalso; omega)
                                        | (refine aw_iinc cx 348 dX5_quotient_345 rfl rfl (Nat.le_of_ble_eq_true rfl) rfl ?_
                                           dsimp only [List.set]
                                           refine aw_goto cx 194 dX5_quotient_348 (by decide) ?_
                                           first
                                           | exact aw_weak (ih194 (q + 1) D4 (by omega) ⟨by omega, by omega⟩ (QI_s0 hQ4 (by rw [← l1, ← l2, ← l3, ← l4]; omega))) (by simp [zz_le])
                                           | exact aw_weak (ih194 (q + 1) D4 (by omega) ⟨by omega, by omega⟩ (QI_s1 hg (by omega) ⟨by omega, by omega⟩ ⟨by omega, by omega⟩ hQ4 (by omega))) (by simp [zz_le])
                                           | exact aw_weak (ih194 (q + 1) (zz_up D4 (g (p / n) (p % n)) (D4 (g (q / n) (q % n)))) (by omega) ⟨by omega, by omega⟩ (QI_s2 hg (by omega) ⟨by omega, by omega⟩ ⟨by omega, by omega⟩ hQ4 (by rw [← l1, ← l2, ← l3, ← l4]; omega) (by omega))) (by simp [zz_le]))
                                      · first
                                        | (exfalso; omega)
                                        | (refine aw_aload_n cx 315 dX5_quotient_314 rfl rfl ?_
                                           refine aw_getfield cx 318 dX5_quotient_315 rfl fdX5_32 (by first | with_reducible exact mm_0 | with_reducible exact mm_1 | with_reducible exact mm_2 | with_reducible exact mm_3 | with_reducible exact mm_4 | with_reducible exact mm_5 | with_reducible exact mm_6 | with_reducible exact mm_7 | with_reducible exact mm_8 | with_reducible exact mm_9) (by rfl) ?_
                                           refine aw_iload cx 320 dX5_quotient_318 rfl rfl ?_
                                           refine aw_iaload cx 321 dX5_quotient_320 rfl (by first | with_reducible exact mm_0 | with_reducible exact mm_1 | with_reducible exact mm_2 | with_reducible exact mm_3 | with_reducible exact mm_4 | with_reducible exact mm_5 | with_reducible exact mm_6 | with_reducible exact mm_7 | with_reducible exact mm_8 | with_reducible exact mm_9) ⟨by omega, by omega⟩ (by decide) ?_
                                           refine aw_aload_n cx 322 dX5_quotient_321 rfl rfl ?_
                                           refine aw_getfield cx 325 dX5_quotient_322 rfl fdX5_32 (by first | with_reducible exact mm_0 | with_reducible exact mm_1 | with_reducible exact mm_2 | with_reducible exact mm_3 | with_reducible exact mm_4 | with_reducible exact mm_5 | with_reducible exact mm_6 | with_reducible exact mm_7 | with_reducible exact mm_8 | with_reducible exact mm_9) (by rfl) ?_
                                           refine aw_iload cx 327 dX5_quotient_325 rfl rfl ?_
                                           refine aw_iaload cx 328 dX5_quotient_327 rfl (by first | with_reducible exact mm_0 | with_reducible exact mm_1 | with_reducible exact mm_2 | with_reducible exact mm_3 | with_reducible exact mm_4 | with_reducible exact mm_5 | with_reducible exact mm_6 | with_reducible exact mm_7 | with_reducible exact mm_8 | with_reducible exact mm_9) ⟨by omega, by omega⟩ (by decide) ?_
                                           refine aw_icmp_le cx 331 345 dX5_quotient_328 rfl (by decide) ⟨⟨by omega, by omega⟩, ⟨by omega, by omega⟩⟩ (fun c328 => ?_) (fun c328 => ?_)
                                           · refine aw_iinc cx 348 dX5_quotient_345 rfl rfl (Nat.le_of_ble_eq_true rfl) rfl ?_
                                             dsimp only [List.set]
                                             refine aw_goto cx 194 dX5_quotient_348 (by decide) ?_
                                             first
                                             | exact aw_weak (ih194 (q + 1) D4 (by omega) ⟨by omega, by omega⟩ (QI_s0 hQ4 (by rw [← l1, ← l2, ← l3, ← l4]; omega))) (by simp [zz_le])
                                             | exact aw_weak (ih194 (q + 1) D4 (by omega) ⟨by omega, by omega⟩ (QI_s1 hg (by omega) ⟨by omega, by omega⟩ ⟨by omega, by omega⟩ hQ4 (by omega))) (by simp [zz_le])
                                             | exact aw_weak (ih194 (q + 1) (zz_up D4 (g (p / n) (p % n)) (D4 (g (q / n) (q % n)))) (by omega) ⟨by omega, by omega⟩ (QI_s2 hg (by omega) ⟨by omega, by omega⟩ ⟨by omega, by omega⟩ hQ4 (by rw [← l1, ← l2, ← l3, ← l4]; omega) (by omega))) (by simp [zz_le])
                                           · refine aw_aload_n cx 332 dX5_quotient_331 rfl rfl ?_
                                             refine aw_getfield cx 335 dX5_quotient_332 rfl fdX5_32 (by first | with_reducible exact mm_0 | with_reducible exact mm_1 | with_reducible exact mm_2 | with_reducible exact mm_3 | with_reducible exact mm_4 | with_reducible exact mm_5 | with_reducible exact mm_6 | with_reducible exact mm_7 | with_reducible exact mm_8 | with_reducible exact mm_9) (by rfl) ?_
                                             refine aw_iload cx 337 dX5_quotient_335 rfl rfl ?_
                                             refine aw_aload_n cx 338 dX5_quotient_337 rfl rfl ?_
                                             refine aw_getfield cx 341 dX5_quotient_338 rfl fdX5_32 (by first | with_reducible exact mm_0 | with_reducible exact mm_1 | with_reducible exact mm_2 | with_reducible exact mm_3 | with_reducible exact mm_4 | with_reducible exact mm_5 | with_reducible exact mm_6 | with_reducible exact mm_7 | with_reducible exact mm_8 | with_reducible exact mm_9) (by rfl) ?_
                                             refine aw_iload cx 343 dX5_quotient_341 rfl rfl ?_
                                             refine aw_iaload cx 344 dX5_quotient_343 rfl (by first | with_reducible exact mm_0 | with_reducible exact mm_1 | with_reducible exact mm_2 | with_reducible exact mm_3 | with_reducible exact mm_4 | with_reducible exact mm_5 | with_reducible exact mm_6 | with_reducible exact mm_7 | with_reducible exact mm_8 | with_reducible exact mm_9) ⟨by omega, by omega⟩ (by decide) ?_
                                             refine aw_iastore cx 345 dX5_quotient_344 rfl (by first | with_reducible exact mm_0 | with_reducible exact mm_1 | with_reducible exact mm_2 | with_reducible exact mm_3 | with_reducible exact mm_4 | with_reducible exact mm_5 | with_reducible exact mm_6 | with_reducible exact mm_7 | with_reducible exact mm_8 | with_reducible exact mm_9) ⟨by omega, by omega⟩ (by decide) ?_
                                             first | rw [my_0] | rw [my_1] | rw [my_2] | rw [my_3] | rw [my_4] | rw [my_5] | rw [my_6] | rw [my_7] | rw [my_8] | rw [my_9]
                                             refine aw_iinc cx 348 dX5_quotient_345 rfl rfl (Nat.le_of_ble_eq_true rfl) rfl ?_
                                             dsimp only [List.set]
                                             refine aw_goto cx 194 dX5_quotient_348 (by decide) ?_
                                             first
                                             | exact aw_weak (ih194 (q + 1) D4 (by omega) ⟨by omega, by omega⟩ (QI_s0 hQ4 (by rw [← l1, ← l2, ← l3, ← l4]; omega))) (by simp [zz_le])
                                             | exact aw_weak (ih194 (q + 1) D4 (by omega) ⟨by omega, by omega⟩ (QI_s1 hg (by omega) ⟨by omega, by omega⟩ ⟨by omega, by omega⟩ hQ4 (by omega))) (by simp [zz_le])
                                             | exact aw_weak (ih194 (q + 1) (zz_up D4 (g (p / n) (p % n)) (D4 (g (q / n) (q % n)))) (by omega) ⟨by omega, by omega⟩ (QI_s2 hg (by omega) ⟨by omega, by omega⟩ ⟨by omega, by omega⟩ hQ4 (by rw [← l1, ← l2, ← l3, ← l4]; omega) (by omega))) (by simp [zz_le]))
                                    · refine aw_aload_n cx 236 dX5_quotient_235 rfl rfl ?_
                                      refine aw_getfield cx 239 dX5_quotient_236 rfl fdX5_29 (by first | with_reducible exact mm_0 | with_reducible exact mm_1 | with_reducible exact mm_2 | with_reducible exact mm_3 | with_reducible exact mm_4 | with_reducible exact mm_5 | with_reducible exact mm_6 | with_reducible exact mm_7 | with_reducible exact mm_8 | with_reducible exact mm_9) (by rfl) ?_
                                      refine aw_iload cx 241 dX5_quotient_239 rfl rfl ?_
                                      refine aw_aload_n cx 242 dX5_quotient_241 rfl rfl ?_
                                      refine aw_getfield cx 245 dX5_quotient_242 rfl fdX5_7 (by first | with_reducible exact mm_0 | with_reducible exact mm_1 | with_reducible exact mm_2 | with_reducible exact mm_3 | with_reducible exact mm_4 | with_reducible exact mm_5 | with_reducible exact mm_6 | with_reducible exact mm_7 | with_reducible exact mm_8 | with_reducible exact mm_9) (by rfl) ?_
                                      refine aw_iremN cx 246 dX5_quotient_245 rfl ⟨by omega, by omega, by omega, by omega⟩ ?_
                                      refine aw_iaload cx 247 dX5_quotient_246 rfl (by first | with_reducible exact mm_0 | with_reducible exact mm_1 | with_reducible exact mm_2 | with_reducible exact mm_3 | with_reducible exact mm_4 | with_reducible exact mm_5 | with_reducible exact mm_6 | with_reducible exact mm_7 | with_reducible exact mm_8 | with_reducible exact mm_9) ⟨by omega, by omega⟩ (by decide) ?_
                                      refine aw_aload_n cx 248 dX5_quotient_247 rfl rfl ?_
                                      refine aw_getfield cx 251 dX5_quotient_248 rfl fdX5_29 (by first | with_reducible exact mm_0 | with_reducible exact mm_1 | with_reducible exact mm_2 | with_reducible exact mm_3 | with_reducible exact mm_4 | with_reducible exact mm_5 | with_reducible exact mm_6 | with_reducible exact mm_7 | with_reducible exact mm_8 | with_reducible exact mm_9) (by rfl) ?_
                                      refine aw_iload cx 253 dX5_quotient_251 rfl rfl ?_
                                      refine aw_aload_n cx 254 dX5_quotient_253 rfl rfl ?_
                                      refine aw_getfield cx 257 dX5_quotient_254 rfl fdX5_7 (by first | with_reducible exact mm_0 | with_reducible exact mm_1 | with_reducible exact mm_2 | with_reducible exact mm_3 | with_reducible exact mm_4 | with_reducible exact mm_5 | with_reducible exact mm_6 | with_reducible exact mm_7 | with_reducible exact mm_8 | with_reducible exact mm_9) (by rfl) ?_
                                      refine aw_iremN cx 258 dX5_quotient_257 rfl ⟨by omega, by omega, by omega, by omega⟩ ?_
                                      refine aw_iaload cx 259 dX5_quotient_258 rfl (by first | with_reducible exact mm_0 | with_reducible exact mm_1 | with_reducible exact mm_2 | with_reducible exact mm_3 | with_reducible exact mm_4 | with_reducible exact mm_5 | with_reducible exact mm_6 | with_reducible exact mm_7 | with_reducible exact mm_8 | with_reducible exact mm_9) ⟨by omega, by omega⟩ (by decide) ?_
                                      refine aw_icmp_ne cx 262 266 dX5_quotient_259 rfl (by decide) ⟨⟨by omega, by omega⟩, ⟨by omega, by omega⟩⟩ (fun c259 => ?_) (fun c259 => ?_)
                                      · refine aw_iconst cx 267 dX5_quotient_266 rfl ?_
                                        refine aw_istore cx 269 dX5_quotient_267 rfl ⟨Nat.le_of_ble_eq_true rfl, Nat.le_of_ble_eq_true rfl⟩ rfl ?_
                                        dsimp only [List.set]
                                        refine aw_aload_n cx 270 dX5_quotient_269 rfl rfl ?_
                                        refine aw_iload cx 272 dX5_quotient_270 rfl rfl ?_
                                        refine aw_aload_n cx 273 dX5_quotient_272 rfl rfl ?_
                                        refine aw_getfield cx 276 dX5_quotient_273 rfl fdX5_7 (by first | with_reducible exact mm_0 | with_reducible exact mm_1 | with_reducible exact mm_2 | with_reducible exact mm_3 | with_reducible exact mm_4 | with_reducible exact mm_5 | with_reducible exact mm_6 | with_reducible exact mm_7 | with_reducible exact mm_8 | with_reducible exact mm_9) (by rfl) ?_
                                        refine aw_idivN cx 277 dX5_quotient_276 rfl ⟨by omega, by omega, by omega, by omega⟩ ?_
                                        refine aw_iload cx 279 dX5_quotient_277 rfl rfl ?_
                                        refine aw_aload_n cx 280 dX5_quotient_279 rfl rfl ?_
                                        refine aw_getfield cx 283 dX5_quotient_280 rfl fdX5_7 (by first | with_reducible exact mm_0 | with_reducible exact mm_1 | with_reducible exact mm_2 | with_reducible exact mm_3 | with_reducible exact mm_4 | with_reducible exact mm_5 | with_reducible exact mm_6 | with_reducible exact mm_7 | with_reducible exact mm_8 | with_reducible exact mm_9) (by rfl) ?_
                                        refine aw_iremN cx 284 dX5_quotient_283 rfl ⟨by omega, by omega, by omega, by omega⟩ ?_
                                        refine aw_V2v cx 287 mX5_hue (ci := 4) dX5_quotient_284 rfl okmX5_hue lkX5_53 (by first | with_reducible exact mm_0 | with_reducible exact mm_1 | with_reducible exact mm_2 | with_reducible exact mm_3 | with_reducible exact mm_4 | with_reducible exact mm_5 | with_reducible exact mm_6 | with_reducible exact mm_7 | with_reducible exact mm_8 | with_reducible exact mm_9) ⟨rfl, by decide⟩ (zz_rc0 mX5_quotient hRm hNS rfl rfl) (Nat.le_of_ble_eq_true rfl) ?_
                                        refine s_X5_hue ⟨by omega, by omega⟩ ⟨by omega, by omega⟩ (fun v284 e284 => ⟨_, rfl, ?_⟩)
                                        have q284 := hA (p / n) (p % n) c1.1 c1.2 c2.1 c2.2
                                        rw [q284] at e284
                                        have w284 := hg (p / n) (p % n) c1.1 c1.2 c2.1 c2.2
                                        subst e284
                                        refine aw_istore cx 289 dX5_quotient_287 rfl ⟨Nat.le_of_ble_eq_true rfl, Nat.le_of_ble_eq_true rfl⟩ rfl ?_
                                        dsimp only [List.set]
                                        refine aw_aload_n cx 290 dX5_quotient_289 rfl rfl ?_
                                        refine aw_iload cx 292 dX5_quotient_290 rfl rfl ?_
                                        refine aw_aload_n cx 293 dX5_quotient_292 rfl rfl ?_
                                        refine aw_getfield cx 296 dX5_quotient_293 rfl fdX5_7 (by first | with_reducible exact mm_0 | with_reducible exact mm_1 | with_reducible exact mm_2 | with_reducible exact mm_3 | with_reducible exact mm_4 | with_reducible exact mm_5 | with_reducible exact mm_6 | with_reducible exact mm_7 | with_reducible exact mm_8 | with_reducible exact mm_9) (by rfl) ?_
                                        refine aw_idivN cx 297 dX5_quotient_296 rfl ⟨by omega, by omega, by omega, by omega⟩ ?_
                                        refine aw_iload cx 299 dX5_quotient_297 rfl rfl ?_
                                        refine aw_aload_n cx 300 dX5_quotient_299 rfl rfl ?_
                                        refine aw_getfield cx 303 dX5_quotient_300 rfl fdX5_7 (by first | with_reducible exact mm_0 | with_reducible exact mm_1 | with_reducible exact mm_2 | with_reducible exact mm_3 | with_reducible exact mm_4 | with_reducible exact mm_5 | with_reducible exact mm_6 | with_reducible exact mm_7 | with_reducible exact mm_8 | with_reducible exact mm_9) (by rfl) ?_
                                        refine aw_iremN cx 304 dX5_quotient_303 rfl ⟨by omega, by omega, by omega, by omega⟩ ?_
                                        refine aw_V2v cx 307 mX5_hue (ci := 4) dX5_quotient_304 rfl okmX5_hue lkX5_53 (by first | with_reducible exact mm_0 | with_reducible exact mm_1 | with_reducible exact mm_2 | with_reducible exact mm_3 | with_reducible exact mm_4 | with_reducible exact mm_5 | with_reducible exact mm_6 | with_reducible exact mm_7 | with_reducible exact mm_8 | with_reducible exact mm_9) ⟨rfl, by decide⟩ (zz_rc0 mX5_quotient hRm hNS rfl rfl) (Nat.le_of_ble_eq_true rfl) ?_
                                        refine s_X5_hue ⟨by omega, by omega⟩ ⟨by omega, by omega⟩ (fun v304 e304 => ⟨_, rfl, ?_⟩)
                                        have q304 := hA (q / n) (q % n) d1.1 d1.2 d2.1 d2.2
                                        rw [q304] at e304
                                        have w304 := hg (q / n) (q % n) d1.1 d1.2 d2.1 d2.2
                                        subst e304
                                        have k5 := (hQ4.1 (g (p / n) (p % n)) (by omega) (by omega)).1
                                        have k6 := (hQ4.1 (g (q / n) (q % n)) (by omega) (by omega)).1
                                        refine aw_istore cx 309 dX5_quotient_307 rfl ⟨Nat.le_of_ble_eq_true rfl, Nat.le_of_ble_eq_true rfl⟩ rfl ?_
                                        dsimp only [List.set]
                                        refine aw_iload cx 311 dX5_quotient_309 rfl rfl ?_
                                        refine aw_if_eq cx 314 345 dX5_quotient_311 rfl (by decide) ⟨by omega, by omega⟩ (fun c311 => ?_) (fun c311 => ?_)
                                        · first
                                          | (exfalso; omega)
                                          | (refine aw_iinc cx 348 dX5_quotient_345 rfl rfl (Nat.le_of_ble_eq_true rfl) rfl ?_
                                             dsimp only [List.set]
                                             refine aw_goto cx 194 dX5_quotient_348 (by decide) ?_
                                             first
                                             | exact aw_weak (ih194 (q + 1) D4 (by omega) ⟨by omega, by omega⟩ (QI_s0 hQ4 (by rw [← l1, ← l2, ← l3, ← l4]; omega))) (by simp [zz_le])
                                             | exact aw_weak (ih194 (q + 1) D4 (by omega) ⟨by omega, by omega⟩ (QI_s1 hg (by omega) ⟨by omega, by omega⟩ ⟨by omega, by omega⟩ hQ4 (by omega))) (by simp [zz_le])
                                             | exact aw_weak (ih194 (q + 1) (zz_up D4 (g (p / n) (p % n)) (D4 (g (q / n) (q % n)))) (by omega) ⟨by omega, by omega⟩ (QI_s2 hg (by omega) ⟨by omega, by omega⟩ ⟨by omega, by omega⟩ hQ4 (by rw [← l1, ← l2, ← l3, ← l4]; omega) (by omega))) (by simp [zz_le]))
                                        · first
                                          | (exfalso; omega)
                                          | (refine aw_aload_n cx 315 dX5_quotient_314 rfl rfl ?_
                                             refine aw_getfield cx 318 dX5_quotient_315 rfl fdX5_32 (by first | with_reducible exact mm_0 | with_reducible exact mm_1 | with_reducible exact mm_2 | with_reducible exact mm_3 | with_reducible exact mm_4 | with_reducible exact mm_5 | with_reducible exact mm_6 | with_reducible exact mm_7 | with_reducible exact mm_8 | with_reducible exact mm_9) (by rfl) ?_
                                             refine aw_iload cx 320 dX5_quotient_318 rfl rfl ?_
                                             refine aw_iaload cx 321 dX5_quotient_320 rfl (by first | with_reducible exact mm_0 | with_reducible exact mm_1 | with_reducible exact mm_2 | with_reducible exact mm_3 | with_reducible exact mm_4 | with_reducible exact mm_5 | with_reducible exact mm_6 | with_reducible exact mm_7 | with_reducible exact mm_8 | with_reducible exact mm_9) ⟨by omega, by omega⟩ (by decide) ?_
                                             refine aw_aload_n cx 322 dX5_quotient_321 rfl rfl ?_
                                             refine aw_getfield cx 325 dX5_quotient_322 rfl fdX5_32 (by first | with_reducible exact mm_0 | with_reducible exact mm_1 | with_reducible exact mm_2 | with_reducible exact mm_3 | with_reducible exact mm_4 | with_reducible exact mm_5 | with_reducible exact mm_6 | with_reducible exact mm_7 | with_reducible exact mm_8 | with_reducible exact mm_9) (by rfl) ?_
                                             refine aw_iload cx 327 dX5_quotient_325 rfl rfl ?_
                                             refine aw_iaload cx 328 dX5_quotient_327 rfl (by first | with_reducible exact mm_0 | with_reducible exact mm_1 | with_reducible exact mm_2 | with_reducible exact mm_3 | with_reducible exact mm_4 | with_reducible exact mm_5 | with_reducible exact mm_6 | with_reducible exact mm_7 | with_reducible exact mm_8 | with_reducible exact mm_9) ⟨by omega, by omega⟩ (by decide) ?_
                                             refine aw_icmp_le cx 331 345 dX5_quotient_328 rfl (by decide) ⟨⟨by omega, by omega⟩, ⟨by omega, by omega⟩⟩ (fun c328 => ?_) (fun c328 => ?_)
                                             · refine aw_iinc cx 348 dX5_quotient_345 rfl rfl (Nat.le_of_ble_eq_true rfl) rfl ?_
                                               dsimp only [List.set]
                                               refine aw_goto cx 194 dX5_quotient_348 (by decide) ?_
                                               first
                                               | exact aw_weak (ih194 (q + 1) D4 (by omega) ⟨by omega, by omega⟩ (QI_s0 hQ4 (by rw [← l1, ← l2, ← l3, ← l4]; omega))) (by simp [zz_le])
                                               | exact aw_weak (ih194 (q + 1) D4 (by omega) ⟨by omega, by omega⟩ (QI_s1 hg (by omega) ⟨by omega, by omega⟩ ⟨by omega, by omega⟩ hQ4 (by omega))) (by simp [zz_le])
                                               | exact aw_weak (ih194 (q + 1) (zz_up D4 (g (p / n) (p % n)) (D4 (g (q / n) (q % n)))) (by omega) ⟨by omega, by omega⟩ (QI_s2 hg (by omega) ⟨by omega, by omega⟩ ⟨by omega, by omega⟩ hQ4 (by rw [← l1, ← l2, ← l3, ← l4]; omega) (by omega))) (by simp [zz_le])
                                             · refine aw_aload_n cx 332 dX5_quotient_331 rfl rfl ?_
                                               refine aw_getfield cx 335 dX5_quotient_332 rfl fdX5_32 (by first | with_reducible exact mm_0 | with_reducible exact mm_1 | with_reducible exact mm_2 | with_reducible exact mm_3 | with_reducible exact mm_4 | with_reducible exact mm_5 | with_reducible exact mm_6 | with_reducible exact mm_7 | with_reducible exact mm_8 | with_reducible exact mm_9) (by rfl) ?_
                                               refine aw_iload cx 337 dX5_quotient_335 rfl rfl ?_
                                               refine aw_aload_n cx 338 dX5_quotient_337 rfl rfl ?_
                                               refine aw_getfield cx 341 dX5_quotient_338 rfl fdX5_32 (by first | with_reducible exact mm_0 | with_reducible exact mm_1 | with_reducible exact mm_2 | with_reducible exact mm_3 | with_reducible exact mm_4 | with_reducible exact mm_5 | with_reducible exact mm_6 | with_reducible exact mm_7 | with_reducible exact mm_8 | with_reducible exact mm_9) (by rfl) ?_
                                               refine aw_iload cx 343 dX5_quotient_341 rfl rfl ?_
                                               refine aw_iaload cx 344 dX5_quotient_343 rfl (by first | with_reducible exact mm_0 | with_reducible exact mm_1 | with_reducible exact mm_2 | with_reducible exact mm_3 | with_reducible exact mm_4 | with_reducible exact mm_5 | with_reducible exact mm_6 | with_reducible exact mm_7 | with_reducible exact mm_8 | with_reducible exact mm_9) ⟨by omega, by omega⟩ (by decide) ?_
                                               refine aw_iastore cx 345 dX5_quotient_344 rfl (by first | with_reducible exact mm_0 | with_reducible exact mm_1 | with_reducible exact mm_2 | with_reducible exact mm_3 | with_reducible exact mm_4 | with_reducible exact mm_5 | with_reducible exact mm_6 | with_reducible exact mm_7 | with_reducible exact mm_8 | with_reducible exact mm_9) ⟨by omega, by omega⟩ (by decide) ?_
                                               first | rw [my_0] | rw [my_1] | rw [my_2] | rw [my_3] | rw [my_4] | rw [my_5] | rw [my_6] | rw [my_7] | rw [my_8] | rw [my_9]
                                               refine aw_iinc cx 348 dX5_quotient_345 rfl rfl (Nat.le_of_ble_eq_true rfl) rfl ?_
                                               dsimp only [List.set]
                                               refine aw_goto cx 194 dX5_quotient_348 (by decide) ?_
                                               first
                                               | exact aw_weak (ih194 (q + 1) D4 (by omega) ⟨by omega, by omega⟩ (QI_s0 hQ4 (by rw [← l1, ← l2, ← l3, ← l4]; omega))) (by simp [zz_le])
                                               | exact aw_weak (ih194 (q + 1) D4 (by omega) ⟨by omega, by omega⟩ (QI_s1 hg (by omega) ⟨by omega, by omega⟩ ⟨by omega, by omega⟩ hQ4 (by omega))) (by simp [zz_le])
                                               | exact aw_weak (ih194 (q + 1) (zz_up D4 (g (p / n) (p % n)) (D4 (g (q / n) (q % n)))) (by omega) ⟨by omega, by omega⟩ (QI_s2 hg (by omega) ⟨by omega, by omega⟩ ⟨by omega, by omega⟩ hQ4 (by rw [← l1, ← l2, ← l3, ← l4]; omega) (by omega))) (by simp [zz_le]))
                                      · refine aw_iconst cx 263 dX5_quotient_262 rfl ?_
                                        refine aw_goto cx 267 dX5_quotient_263 (by decide) ?_
                                        refine aw_istore cx 269 dX5_quotient_267 rfl ⟨Nat.le_of_ble_eq_true rfl, Nat.le_of_ble_eq_true rfl⟩ rfl ?_
                                        dsimp only [List.set]
                                        refine aw_aload_n cx 270 dX5_quotient_269 rfl rfl ?_
                                        refine aw_iload cx 272 dX5_quotient_270 rfl rfl ?_
                                        refine aw_aload_n cx 273 dX5_quotient_272 rfl rfl ?_
                                        refine aw_getfield cx 276 dX5_quotient_273 rfl fdX5_7 (by first | with_reducible exact mm_0 | with_reducible exact mm_1 | with_reducible exact mm_2 | with_reducible exact mm_3 | with_reducible exact mm_4 | with_reducible exact mm_5 | with_reducible exact mm_6 | with_reducible exact mm_7 | with_reducible exact mm_8 | with_reducible exact mm_9) (by rfl) ?_
                                        refine aw_idivN cx 277 dX5_quotient_276 rfl ⟨by omega, by omega, by omega, by omega⟩ ?_
                                        refine aw_iload cx 279 dX5_quotient_277 rfl rfl ?_
                                        refine aw_aload_n cx 280 dX5_quotient_279 rfl rfl ?_
                                        refine aw_getfield cx 283 dX5_quotient_280 rfl fdX5_7 (by first | with_reducible exact mm_0 | with_reducible exact mm_1 | with_reducible exact mm_2 | with_reducible exact mm_3 | with_reducible exact mm_4 | with_reducible exact mm_5 | with_reducible exact mm_6 | with_reducible exact mm_7 | with_reducible exact mm_8 | with_reducible exact mm_9) (by rfl) ?_
                                        refine aw_iremN cx 284 dX5_quotient_283 rfl ⟨by omega, by omega, by omega, by omega⟩ ?_
                                        refine aw_V2v cx 287 mX5_hue (ci := 4) dX5_quotient_284 rfl okmX5_hue lkX5_53 (by first | with_reducible exact mm_0 | with_reducible exact mm_1 | with_reducible exact mm_2 | with_reducible exact mm_3 | with_reducible exact mm_4 | with_reducible exact mm_5 | with_reducible exact mm_6 | with_reducible exact mm_7 | with_reducible exact mm_8 | with_reducible exact mm_9) ⟨rfl, by decide⟩ (zz_rc0 mX5_quotient hRm hNS rfl rfl) (Nat.le_of_ble_eq_true rfl) ?_
                                        refine s_X5_hue ⟨by omega, by omega⟩ ⟨by omega, by omega⟩ (fun v284 e284 => ⟨_, rfl, ?_⟩)
                                        have q284 := hA (p / n) (p % n) c1.1 c1.2 c2.1 c2.2
                                        rw [q284] at e284
                                        have w284 := hg (p / n) (p % n) c1.1 c1.2 c2.1 c2.2
                                        subst e284
                                        refine aw_istore cx 289 dX5_quotient_287 rfl ⟨Nat.le_of_ble_eq_true rfl, Nat.le_of_ble_eq_true rfl⟩ rfl ?_
                                        dsimp only [List.set]
                                        refine aw_aload_n cx 290 dX5_quotient_289 rfl rfl ?_
                                        refine aw_iload cx 292 dX5_quotient_290 rfl rfl ?_
                                        refine aw_aload_n cx 293 dX5_quotient_292 rfl rfl ?_
                                        refine aw_getfield cx 296 dX5_quotient_293 rfl fdX5_7 (by first | with_reducible exact mm_0 | with_reducible exact mm_1 | with_reducible exact mm_2 | with_reducible exact mm_3 | with_reducible exact mm_4 | with_reducible exact mm_5 | with_reducible exact mm_6 | with_reducible exact mm_7 | with_reducible exact mm_8 | with_reducible exact mm_9) (by rfl) ?_
                                        refine aw_idivN cx 297 dX5_quotient_296 rfl ⟨by omega, by omega, by omega, by omega⟩ ?_
                                        refine aw_iload cx 299 dX5_quotient_297 rfl rfl ?_
                                        refine aw_aload_n cx 300 dX5_quotient_299 rfl rfl ?_
                                        refine aw_getfield cx 303 dX5_quotient_300 rfl fdX5_7 (by first | with_reducible exact mm_0 | with_reducible exact mm_1 | with_reducible exact mm_2 | with_reducible exact mm_3 | with_reducible exact mm_4 | with_reducible exact mm_5 | with_reducible exact mm_6 | with_reducible exact mm_7 | with_reducible exact mm_8 | with_reducible exact mm_9) (by rfl) ?_
                                        refine aw_iremN cx 304 dX5_quotient_303 rfl ⟨by omega, by omega, by omega, by omega⟩ ?_
                                        refine aw_V2v cx 307 mX5_hue (ci := 4) dX5_quotient_304 rfl okmX5_hue lkX5_53 (by first | with_reducible exact mm_0 | with_reducible exact mm_1 | with_reducible exact mm_2 | with_reducible exact mm_3 | with_reducible exact mm_4 | with_reducible exact mm_5 | with_reducible exact mm_6 | with_reducible exact mm_7 | with_reducible exact mm_8 | with_reducible exact mm_9) ⟨rfl, by decide⟩ (zz_rc0 mX5_quotient hRm hNS rfl rfl) (Nat.le_of_ble_eq_true rfl) ?_
                                        refine s_X5_hue ⟨by omega, by omega⟩ ⟨by omega, by omega⟩ (fun v304 e304 => ⟨_, rfl, ?_⟩)
                                        have q304 := hA (q / n) (q % n) d1.1 d1.2 d2.1 d2.2
                                        rw [q304] at e304
                                        have w304 := hg (q / n) (q % n) d1.1 d1.2 d2.1 d2.2
                                        subst e304
                                        have k5 := (hQ4.1 (g (p / n) (p % n)) (by omega) (by omega)).1
                                        have k6 := (hQ4.1 (g (q / n) (q % n)) (by omega) (by omega)).1
                                        refine aw_istore cx 309 dX5_quotient_307 rfl ⟨Nat.le_of_ble_eq_true rfl, Nat.le_of_ble_eq_true rfl⟩ rfl ?_
                                        dsimp only [List.set]
                                        refine aw_iload cx 311 dX5_quotient_309 rfl rfl ?_
                                        refine aw_if_eq cx 314 345 dX5_quotient_311 rfl (by decide) ⟨by omega, by omega⟩ (fun c311 => ?_) (fun c311 => ?_)
                                        · first
                                          | (exfalso; omega)
                                          | (refine aw_iinc cx 348 dX5_quotient_345 rfl rfl (Nat.le_of_ble_eq_true rfl) rfl ?_
                                             dsimp only [List.set]
                                             refine aw_goto cx 194 dX5_quotient_348 (by decide) ?_
                                             first
                                             | exact aw_weak (ih194 (q + 1) D4 (by omega) ⟨by omega, by omega⟩ (QI_s0 hQ4 (by rw [← l1, ← l2, ← l3, ← l4]; omega))) (by simp [zz_le])
                                             | exact aw_weak (ih194 (q + 1) D4 (by omega) ⟨by omega, by omega⟩ (QI_s1 hg (by omega) ⟨by omega, by omega⟩ ⟨by omega, by omega⟩ hQ4 (by omega))) (by simp [zz_le])
                                             | exact aw_weak (ih194 (q + 1) (zz_up D4 (g (p / n) (p % n)) (D4 (g (q / n) (q % n)))) (by omega) ⟨by omega, by omega⟩ (QI_s2 hg (by omega) ⟨by omega, by omega⟩ ⟨by omega, by omega⟩ hQ4 (by rw [← l1, ← l2, ← l3, ← l4]; omega) (by omega))) (by simp [zz_le]))
                                        · first
                                          | (exfalso; omega)
                                          | (refine aw_aload_n cx 315 dX5_quotient_314 rfl rfl ?_
                                             refine aw_getfield cx 318 dX5_quotient_315 rfl fdX5_32 (by first | with_reducible exact mm_0 | with_reducible exact mm_1 | with_reducible exact mm_2 | with_reducible exact mm_3 | with_reducible exact mm_4 | with_reducible exact mm_5 | with_reducible exact mm_6 | with_reducible exact mm_7 | with_reducible exact mm_8 | with_reducible exact mm_9) (by rfl) ?_
                                             refine aw_iload cx 320 dX5_quotient_318 rfl rfl ?_
                                             refine aw_iaload cx 321 dX5_quotient_320 rfl (by first | with_reducible exact mm_0 | with_reducible exact mm_1 | with_reducible exact mm_2 | with_reducible exact mm_3 | with_reducible exact mm_4 | with_reducible exact mm_5 | with_reducible exact mm_6 | with_reducible exact mm_7 | with_reducible exact mm_8 | with_reducible exact mm_9) ⟨by omega, by omega⟩ (by decide) ?_
                                             refine aw_aload_n cx 322 dX5_quotient_321 rfl rfl ?_
                                             refine aw_getfield cx 325 dX5_quotient_322 rfl fdX5_32 (by first | with_reducible exact mm_0 | with_reducible exact mm_1 | with_reducible exact mm_2 | with_reducible exact mm_3 | with_reducible exact mm_4 | with_reducible exact mm_5 | with_reducible exact mm_6 | with_reducible exact mm_7 | with_reducible exact mm_8 | with_reducible exact mm_9) (by rfl) ?_
                                             refine aw_iload cx 327 dX5_quotient_325 rfl rfl ?_
                                             refine aw_iaload cx 328 dX5_quotient_327 rfl (by first | with_reducible exact mm_0 | with_reducible exact mm_1 | with_reducible exact mm_2 | with_reducible exact mm_3 | with_reducible exact mm_4 | with_reducible exact mm_5 | with_reducible exact mm_6 | with_reducible exact mm_7 | with_reducible exact mm_8 | with_reducible exact mm_9) ⟨by omega, by omega⟩ (by decide) ?_
                                             refine aw_icmp_le cx 331 345 dX5_quotient_328 rfl (by decide) ⟨⟨by omega, by omega⟩, ⟨by omega, by omega⟩⟩ (fun c328 => ?_) (fun c328 => ?_)
                                             · refine aw_iinc cx 348 dX5_quotient_345 rfl rfl (Nat.le_of_ble_eq_true rfl) rfl ?_
                                               dsimp only [List.set]
                                               refine aw_goto cx 194 dX5_quotient_348 (by decide) ?_
                                               first
                                               | exact aw_weak (ih194 (q + 1) D4 (by omega) ⟨by omega, by omega⟩ (QI_s0 hQ4 (by rw [← l1, ← l2, ← l3, ← l4]; omega))) (by simp [zz_le])
                                               | exact aw_weak (ih194 (q + 1) D4 (by omega) ⟨by omega, by omega⟩ (QI_s1 hg (by omega) ⟨by omega, by omega⟩ ⟨by omega, by omega⟩ hQ4 (by omega))) (by simp [zz_le])
                                               | exact aw_weak (ih194 (q + 1) (zz_up D4 (g (p / n) (p % n)) (D4 (g (q / n) (q % n)))) (by omega) ⟨by omega, by omega⟩ (QI_s2 hg (by omega) ⟨by omega, by omega⟩ ⟨by omega, by omega⟩ hQ4 (by rw [← l1, ← l2, ← l3, ← l4]; omega) (by omega))) (by simp [zz_le])
                                             · refine aw_aload_n cx 332 dX5_quotient_331 rfl rfl ?_
                                               refine aw_getfield cx 335 dX5_quotient_332 rfl fdX5_32 (by first | with_reducible exact mm_0 | with_reducible exact mm_1 | with_reducible exact mm_2 | with_reducible exact mm_3 | with_reducible exact mm_4 | with_reducible exact mm_5 | with_reducible exact mm_6 | with_reducible exact mm_7 | with_reducible exact mm_8 | with_reducible exact mm_9) (by rfl) ?_
                                               refine aw_iload cx 337 dX5_quotient_335 rfl rfl ?_
                                               refine aw_aload_n cx 338 dX5_quotient_337 rfl rfl ?_
                                               refine aw_getfield cx 341 dX5_quotient_338 rfl fdX5_32 (by first | with_reducible exact mm_0 | with_reducible exact mm_1 | with_reducible exact mm_2 | with_reducible exact mm_3 | with_reducible exact mm_4 | with_reducible exact mm_5 | with_reducible exact mm_6 | with_reducible exact mm_7 | with_reducible exact mm_8 | with_reducible exact mm_9) (by rfl) ?_
                                               refine aw_iload cx 343 dX5_quotient_341 rfl rfl ?_
                                               refine aw_iaload cx 344 dX5_quotient_343 rfl (by first | with_reducible exact mm_0 | with_reducible exact mm_1 | with_reducible exact mm_2 | with_reducible exact mm_3 | with_reducible exact mm_4 | with_reducible exact mm_5 | with_reducible exact mm_6 | with_reducible exact mm_7 | with_reducible exact mm_8 | with_reducible exact mm_9) ⟨by omega, by omega⟩ (by decide) ?_
                                               refine aw_iastore cx 345 dX5_quotient_344 rfl (by first | with_reducible exact mm_0 | with_reducible exact mm_1 | with_reducible exact mm_2 | with_reducible exact mm_3 | with_reducible exact mm_4 | with_reducible exact mm_5 | with_reducible exact mm_6 | with_reducible exact mm_7 | with_reducible exact mm_8 | with_reducible exact mm_9) ⟨by omega, by omega⟩ (by decide) ?_
                                               first | rw [my_0] | rw [my_1] | rw [my_2] | rw [my_3] | rw [my_4] | rw [my_5] | rw [my_6] | rw [my_7] | rw [my_8] | rw [my_9]
                                               refine aw_iinc cx 348 dX5_quotient_345 rfl rfl (Nat.le_of_ble_eq_true rfl) rfl ?_
                                               dsimp only [List.set]
                                               refine aw_goto cx 194 dX5_quotient_348 (by decide) ?_
                                               first
                                               | exact aw_weak (ih194 (q + 1) D4 (by omega) ⟨by omega, by omega⟩ (QI_s0 hQ4 (by rw [← l1, ← l2, ← l3, ← l4]; omega))) (by simp [zz_le])
                                               | exact aw_weak (ih194 (q + 1) D4 (by omega) ⟨by omega, by omega⟩ (QI_s1 hg (by omega) ⟨by omega, by omega⟩ ⟨by omega, by omega⟩ hQ4 (by omega))) (by simp [zz_le])
                                               | exact aw_weak (ih194 (q + 1) (zz_up D4 (g (p / n) (p % n)) (D4 (g (q / n) (q % n)))) (by omega) ⟨by omega, by omega⟩ (QI_s2 hg (by omega) ⟨by omega, by omega⟩ ⟨by omega, by omega⟩ hQ4 (by rw [← l1, ← l2, ← l3, ← l4]; omega) (by omega))) (by simp [zz_le]))
                              exact aw_weak (lp194 65 0 D3 (by omega) ⟨by omega, by omega⟩ hQ) (by simp [zz_le])
                        exact aw_weak (lp177 65 0 D2 (by omega) ⟨by omega, by omega⟩ (QI_0 hRI.1)) (by simp [zz_le])
                  exact aw_weak (lp168 6 0 D1 (by omega) ⟨by omega, by omega⟩ (RI_0 (fun y y0 y1 => hD y y0 (by omega)))) (by simp [zz_le])
                · refine aw_aload_n cx 151 dX5_quotient_150 rfl rfl ?_
                  refine aw_getfield cx 154 dX5_quotient_151 rfl fdX5_32 (by first | with_reducible exact mm_0 | with_reducible exact mm_1 | with_reducible exact mm_2 | with_reducible exact mm_3 | with_reducible exact mm_4 | with_reducible exact mm_5 | with_reducible exact mm_6 | with_reducible exact mm_7 | with_reducible exact mm_8 | with_reducible exact mm_9) (by rfl) ?_
                  refine aw_iload cx 156 dX5_quotient_154 rfl rfl ?_
                  refine aw_iload cx 158 dX5_quotient_156 rfl rfl ?_
                  refine aw_iastore cx 159 dX5_quotient_158 rfl (by first | with_reducible exact mm_0 | with_reducible exact mm_1 | with_reducible exact mm_2 | with_reducible exact mm_3 | with_reducible exact mm_4 | with_reducible exact mm_5 | with_reducible exact mm_6 | with_reducible exact mm_7 | with_reducible exact mm_8 | with_reducible exact mm_9) ⟨by omega, by omega⟩ (by decide) ?_
                  first | rw [my_0] | rw [my_1] | rw [my_2] | rw [my_3] | rw [my_4] | rw [my_5] | rw [my_6] | rw [my_7] | rw [my_8] | rw [my_9]
                  refine aw_iinc cx 162 dX5_quotient_159 rfl rfl (Nat.le_of_ble_eq_true rfl) rfl ?_
                  dsimp only [List.set]
                  refine aw_goto cx 144 dX5_quotient_162 (by decide) ?_
                  exact ih144 (i + 1) _ (by omega) ⟨by omega, by omega⟩ (fun y y0 y1 => by
                    unfold zz_up
                    by_cases e : y = i
                    · rw [if_pos e, e]
                    · rw [if_neg e]
                      exact hD y y0 (by omega))
            exact aw_weak (lp144 6 0 D (by omega) ⟨by omega, by omega⟩ (fun y y0 y1 => by omega)) (by simp [zz_le])
          · refine aw_aload_n cx 46 dX5_quotient_45 rfl rfl ?_
            refine aw_getfield cx 49 dX5_quotient_46 rfl fdX5_29 (by first | with_reducible exact mm_0 | with_reducible exact mm_1 | with_reducible exact mm_2 | with_reducible exact mm_3 | with_reducible exact mm_4 | with_reducible exact mm_5 | with_reducible exact mm_6 | with_reducible exact mm_7 | with_reducible exact mm_8 | with_reducible exact mm_9) (by rfl) ?_
            refine aw_iload cx 51 dX5_quotient_49 rfl rfl ?_
            refine aw_iload_n cx 52 dX5_quotient_51 rfl rfl ?_
            refine aw_iastore cx 53 dX5_quotient_52 rfl (by first | with_reducible exact mm_0 | with_reducible exact mm_1 | with_reducible exact mm_2 | with_reducible exact mm_3 | with_reducible exact mm_4 | with_reducible exact mm_5 | with_reducible exact mm_6 | with_reducible exact mm_7 | with_reducible exact mm_8 | with_reducible exact mm_9) ⟨by omega, by omega⟩ (by decide) ?_
            first | rw [my_0] | rw [my_1] | rw [my_2] | rw [my_3] | rw [my_4] | rw [my_5] | rw [my_6] | rw [my_7] | rw [my_8] | rw [my_9]
            refine aw_iload cx 55 dX5_quotient_53 rfl rfl ?_
            refine aw_iconst cx 56 dX5_quotient_55 rfl ?_
            refine aw_isub cx 57 dX5_quotient_56 rfl ?_
            refine aw_istore cx 59 dX5_quotient_57 rfl ⟨Nat.le_of_ble_eq_true rfl, Nat.le_of_ble_eq_true rfl⟩ rfl ?_
            dsimp only [List.set]
            have lp59 : ∀ (kf : Nat) (b : Int) (L2 : Int → Int), (b + 1 < (kf : Int)) → (-1 ≤ b ∧ b < x) → (∀ y, 0 ≤ y → y < x → L2 y = (bst g v27 x).1 y) → FB g v27 (L2 x) x b → AW X 59 [some (vR 20), some (vI (a)), some (vI (v27)), some (vI (z)), some (vI (x)), some (vI (b)), none, none, none, none, none] [] (hmd h n tr C K V A16 B16 L2 D T U) := by
              intro kf
              induction kf with
              | zero =>
                intro b L2 hk hb hL2 hF
                exfalso
                omega
              | succ kf ih59 =>
                intro b L2 hk hb hL2 hF
                refine aw_iload cx 61 dX5_quotient_59 rfl rfl ?_
                refine aw_if_lt cx 64 110 dX5_quotient_61 rfl (by decide) ⟨by omega, by omega⟩ (fun c61 => ?_) (fun c61 => ?_)
                · rw [show b = -1 by omega] at hF
                  have nx := bb_nx hE hS ⟨by omega, by omega⟩ hL2 hF
                  have fr := FB_r hx.1 hF
                  rw [← hzx] at fr
                  refine aw_iload_n cx 111 dX5_quotient_110 rfl rfl ?_
                  refine aw_aload_n cx 112 dX5_quotient_111 rfl rfl ?_
                  refine aw_getfield cx 115 dX5_quotient_112 rfl fdX5_29 (by first | with_reducible exact mm_0 | with_reducible exact mm_1 | with_reducible exact mm_2 | with_reducible exact mm_3 | with_reducible exact mm_4 | with_reducible exact mm_5 | with_reducible exact mm_6 | with_reducible exact mm_7 | with_reducible exact mm_8 | with_reducible exact mm_9) (by rfl) ?_
                  refine aw_iload cx 117 dX5_quotient_115 rfl rfl ?_
                  refine aw_iaload cx 118 dX5_quotient_117 rfl (by first | with_reducible exact mm_0 | with_reducible exact mm_1 | with_reducible exact mm_2 | with_reducible exact mm_3 | with_reducible exact mm_4 | with_reducible exact mm_5 | with_reducible exact mm_6 | with_reducible exact mm_7 | with_reducible exact mm_8 | with_reducible exact mm_9) ⟨by omega, by omega⟩ (by decide) ?_
                  refine aw_iload_n cx 119 dX5_quotient_118 rfl rfl ?_
                  refine aw_icmp_ne cx 122 126 dX5_quotient_119 rfl (by decide) ⟨⟨by omega, by omega⟩, ⟨by omega, by omega⟩⟩ (fun c119 => ?_) (fun c119 => ?_)
                  · refine aw_iconst cx 127 dX5_quotient_126 rfl ?_
                    refine aw_iadd cx 128 dX5_quotient_127 rfl ?_
                    refine aw_istore_n cx 129 3 dX5_quotient_128 rfl rfl ⟨Nat.le_of_ble_eq_true rfl, Nat.le_of_ble_eq_true rfl⟩ rfl ?_
                    dsimp only [List.set]
                    refine aw_iinc cx 132 dX5_quotient_129 rfl rfl (Nat.le_of_ble_eq_true rfl) rfl ?_
                    dsimp only [List.set]
                    refine aw_goto cx 36 dX5_quotient_132 (by decide) ?_
                    first
                    | exact aw_weak (ih36 (x + 1) (z + 1) L2 (by omega) ⟨by omega, by omega⟩ (by rw [nx.2, ← hzx, if_pos (by omega)]) nx.1) (by simp [zz_le])
                    | exact aw_weak (ih36 (x + 1) (z + 0) L2 (by omega) ⟨by omega, by omega⟩ (by rw [nx.2, ← hzx, if_neg (by omega)]; omega) nx.1) (by simp [zz_le])
                  · refine aw_iconst cx 123 dX5_quotient_122 rfl ?_
                    refine aw_goto cx 127 dX5_quotient_123 (by decide) ?_
                    refine aw_iadd cx 128 dX5_quotient_127 rfl ?_
                    refine aw_istore_n cx 129 3 dX5_quotient_128 rfl rfl ⟨Nat.le_of_ble_eq_true rfl, Nat.le_of_ble_eq_true rfl⟩ rfl ?_
                    dsimp only [List.set]
                    refine aw_iinc cx 132 dX5_quotient_129 rfl rfl (Nat.le_of_ble_eq_true rfl) rfl ?_
                    dsimp only [List.set]
                    refine aw_goto cx 36 dX5_quotient_132 (by decide) ?_
                    first
                    | exact aw_weak (ih36 (x + 1) (z + 1) L2 (by omega) ⟨by omega, by omega⟩ (by rw [nx.2, ← hzx, if_pos (by omega)]) nx.1) (by simp [zz_le])
                    | exact aw_weak (ih36 (x + 1) (z + 0) L2 (by omega) ⟨by omega, by omega⟩ (by rw [nx.2, ← hzx, if_neg (by omega)]; omega) nx.1) (by simp [zz_le])
                · refine aw_aload_n cx 65 dX5_quotient_64 rfl rfl ?_
                  refine aw_getfield cx 68 dX5_quotient_65 rfl fdX5_29 (by first | with_reducible exact mm_0 | with_reducible exact mm_1 | with_reducible exact mm_2 | with_reducible exact mm_3 | with_reducible exact mm_4 | with_reducible exact mm_5 | with_reducible exact mm_6 | with_reducible exact mm_7 | with_reducible exact mm_8 | with_reducible exact mm_9) (by rfl) ?_
                  refine aw_iload cx 70 dX5_quotient_68 rfl rfl ?_
                  refine aw_iload_n cx 71 dX5_quotient_70 rfl rfl ?_
                  refine aw_aload_n cx 72 dX5_quotient_71 rfl rfl ?_
                  refine aw_iload cx 74 dX5_quotient_72 rfl rfl ?_
                  refine aw_iload cx 76 dX5_quotient_74 rfl rfl ?_
                  refine aw_V2v cx 79 mX5_hue (ci := 4) dX5_quotient_76 rfl okmX5_hue lkX5_53 (by first | with_reducible exact mm_0 | with_reducible exact mm_1 | with_reducible exact mm_2 | with_reducible exact mm_3 | with_reducible exact mm_4 | with_reducible exact mm_5 | with_reducible exact mm_6 | with_reducible exact mm_7 | with_reducible exact mm_8 | with_reducible exact mm_9) ⟨rfl, by decide⟩ (zz_rc0 mX5_quotient hRm hNS rfl rfl) (Nat.le_of_ble_eq_true rfl) ?_
                  refine s_X5_hue ⟨by omega, by omega⟩ ⟨by omega, by omega⟩ (fun v76 e76 => ⟨_, rfl, ?_⟩)
                  have q76 := hA b x (by omega) (by omega) (by omega) (by omega)
                  have w76 := hg b x (by omega) (by omega) (by omega) (by omega)
                  refine aw_ishr cx 80 dX5_quotient_79 rfl ?_
                  refine aw_iconst cx 81 dX5_quotient_80 rfl ?_
                  refine aw_iand cx 82 dX5_quotient_81 rfl ?_
                  refine aw_iconst cx 83 dX5_quotient_82 rfl ?_
                  refine aw_icmp_ne cx 86 96 dX5_quotient_83 rfl (by decide) ⟨and_r _ _, by omega, by omega⟩ (fun c83 => ?_) (fun c83 => ?_)
                  · refine aw_aload_n cx 97 dX5_quotient_96 rfl rfl ?_
                    refine aw_getfield cx 100 dX5_quotient_97 rfl fdX5_29 (by first | with_reducible exact mm_0 | with_reducible exact mm_1 | with_reducible exact mm_2 | with_reducible exact mm_3 | with_reducible exact mm_4 | with_reducible exact mm_5 | with_reducible exact mm_6 | with_reducible exact mm_7 | with_reducible exact mm_8 | with_reducible exact mm_9) (by rfl) ?_
                    refine aw_iload cx 102 dX5_quotient_100 rfl rfl ?_
                    refine aw_iaload cx 103 dX5_quotient_102 rfl (by first | with_reducible exact mm_0 | with_reducible exact mm_1 | with_reducible exact mm_2 | with_reducible exact mm_3 | with_reducible exact mm_4 | with_reducible exact mm_5 | with_reducible exact mm_6 | with_reducible exact mm_7 | with_reducible exact mm_8 | with_reducible exact mm_9) ⟨by omega, by omega⟩ (by decide) ?_
                    refine aw_iastore cx 104 dX5_quotient_103 rfl (by first | with_reducible exact mm_0 | with_reducible exact mm_1 | with_reducible exact mm_2 | with_reducible exact mm_3 | with_reducible exact mm_4 | with_reducible exact mm_5 | with_reducible exact mm_6 | with_reducible exact mm_7 | with_reducible exact mm_8 | with_reducible exact mm_9) ⟨by omega, by omega⟩ (by decide) ?_
                    first | rw [my_0] | rw [my_1] | rw [my_2] | rw [my_3] | rw [my_4] | rw [my_5] | rw [my_6] | rw [my_7] | rw [my_8] | rw [my_9]
                    refine aw_iinc cx 107 dX5_quotient_104 rfl rfl (Nat.le_of_ble_eq_true rfl) rfl ?_
                    dsimp only [List.set]
                    refine aw_goto cx 59 dX5_quotient_107 (by decide) ?_
                    first
                    | exact ih59 (b + -1) _ (by omega) ⟨by omega, by omega⟩ (fun y y0 y1 => by rw [zz_up_n _ _ (by omega)]; exact hL2 y y0 y1) (by rw [zz_up_s, hL2 b (by omega) (by omega)]; exact FB_1 ⟨by omega, by omega⟩ (by rw [← q76, ← e76]; assumption) rfl)
                    | exact ih59 (b + -1) _ (by omega) ⟨by omega, by omega⟩ (fun y y0 y1 => by rw [zz_up_n _ _ (by omega)]; exact hL2 y y0 y1) (by rw [zz_up_s]; exact FB_n ⟨by omega, by omega⟩ (by rw [← q76, ← e76]; assumption) hF)
                  · refine aw_aload_n cx 87 dX5_quotient_86 rfl rfl ?_
                    refine aw_getfield cx 90 dX5_quotient_87 rfl fdX5_29 (by first | with_reducible exact mm_0 | with_reducible exact mm_1 | with_reducible exact mm_2 | with_reducible exact mm_3 | with_reducible exact mm_4 | with_reducible exact mm_5 | with_reducible exact mm_6 | with_reducible exact mm_7 | with_reducible exact mm_8 | with_reducible exact mm_9) (by rfl) ?_
                    refine aw_iload cx 92 dX5_quotient_90 rfl rfl ?_
                    refine aw_iaload cx 93 dX5_quotient_92 rfl (by first | with_reducible exact mm_0 | with_reducible exact mm_1 | with_reducible exact mm_2 | with_reducible exact mm_3 | with_reducible exact mm_4 | with_reducible exact mm_5 | with_reducible exact mm_6 | with_reducible exact mm_7 | with_reducible exact mm_8 | with_reducible exact mm_9) ⟨by omega, by omega⟩ (by decide) ?_
                    refine aw_goto cx 103 dX5_quotient_93 (by decide) ?_
                    refine aw_iastore cx 104 dX5_quotient_103 rfl (by first | with_reducible exact mm_0 | with_reducible exact mm_1 | with_reducible exact mm_2 | with_reducible exact mm_3 | with_reducible exact mm_4 | with_reducible exact mm_5 | with_reducible exact mm_6 | with_reducible exact mm_7 | with_reducible exact mm_8 | with_reducible exact mm_9) ⟨by omega, by omega⟩ (by decide) ?_
                    first | rw [my_0] | rw [my_1] | rw [my_2] | rw [my_3] | rw [my_4] | rw [my_5] | rw [my_6] | rw [my_7] | rw [my_8] | rw [my_9]
                    refine aw_iinc cx 107 dX5_quotient_104 rfl rfl (Nat.le_of_ble_eq_true rfl) rfl ?_
                    dsimp only [List.set]
                    refine aw_goto cx 59 dX5_quotient_107 (by decide) ?_
                    first
                    | exact ih59 (b + -1) _ (by omega) ⟨by omega, by omega⟩ (fun y y0 y1 => by rw [zz_up_n _ _ (by omega)]; exact hL2 y y0 y1) (by rw [zz_up_s, hL2 b (by omega) (by omega)]; exact FB_1 ⟨by omega, by omega⟩ (by rw [← q76, ← e76]; assumption) rfl)
                    | exact ih59 (b + -1) _ (by omega) ⟨by omega, by omega⟩ (fun y y0 y1 => by rw [zz_up_n _ _ (by omega)]; exact hL2 y y0 y1) (by rw [zz_up_s]; exact FB_n ⟨by omega, by omega⟩ (by rw [← q76, ← e76]; assumption) hF)
            exact aw_weak (lp59 (n.toNat + 1) (x - 1) _ (by omega) ⟨by omega, by omega⟩ (fun y y0 y1 => by rw [zz_up_n _ _ (by omega)]; exact hL y y0 y1) (by rw [zz_up_s, hzx]; exact FB_0)) (by simp [zz_le])
      exact aw_weak (lp36 (n.toNat + 1) 0 0 L (by omega) ⟨by omega, by omega⟩ rfl (fun y y0 y1 => by omega)) (by simp [zz_le])
    · refine aw_bipush cx 24 dX5_quotient_22 rfl (by decide +kernel) ?_
      refine aw_ireturn cx dX5_quotient_24 ?_
      refine hRet _ _ True.intro rfl ?_
      refine k _ _ (by unfold f_quot; rw [if_pos (by omega), if_neg (by omega)]) ?_
      unfold n_quot g_quot
      rw [if_neg (fun q9 => by have := q9.2; omega), if_neg (fun q9 => by have := q9.2; omega)]
      exact (mp_mk hn hA hg hV)
  · refine aw_iconst cx 14 dX5_quotient_13 rfl ?_
    refine aw_ireturn cx dX5_quotient_14 ?_
    refine hRet _ _ True.intro rfl ?_
    refine k _ _ (by unfold f_quot; rw [if_neg (by omega)]) ?_
    unfold n_quot g_quot
    rw [if_neg (fun q9 => by have := q9.1; omega), if_neg (fun q9 => by have := q9.1; omega)]
    exact (mp_mk hn hA hg hV)
