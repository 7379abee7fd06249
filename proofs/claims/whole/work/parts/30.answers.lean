def MI (h : AH) (n : Int) (g : Gr) (V : Int → Int) (tr : Int) : Prop := ∃ C K A B L D T U, (zz_get h 20 = cM n tr ∧ zz_get h 21 = cA 64 C ∧ zz_get h 22 = cA 64 K ∧ zz_get h 23 = cA 5 V ∧ zz_get h 24 = cA 5 A ∧ zz_get h 25 = cA 5 B ∧ zz_get h 26 = cA 8 L ∧ zz_get h 27 = cA 5 D ∧ zz_get h 28 = cL 8 T ∧ zz_get h 29 = cL 8 U) ∧ (1 ≤ n ∧ n ≤ 8) ∧ ag n C g ∧ rgn n g ∧ wtI V
def xm (h h' : AH) : Prop := (∀ k, k < 20 → zz_get h' k = zz_get h k) ∧ h'.1 = h.1
def MP (h h' : AH) (n : Int) (g : Gr) (V : Int → Int) (tr : Int) : Prop := MI h' n g V tr ∧ xm h h'
theorem mp_mk {h : AH} {n tr : Int} {g : Gr} {C K V A B L D T U : Int → Int} (hn : 1 ≤ n ∧ n ≤ 8) (hA : ag n C g) (hg : rgn n g) (hV : wtI V) : MP h (hmd h n tr C K V A B L D T U) n g V tr := ⟨⟨C, K, A, B, L, D, T, U, ⟨mm_0, mm_1, mm_2, mm_3, mm_4, mm_5, mm_6, mm_7, mm_8, mm_9⟩, hn, hA, hg, hV⟩, ⟨fun k hk => mm_x (Or.inl hk), rfl⟩⟩
theorem xm_XI {h h' : AH} {n : Int} {g : Gr} {V : Int → Int} {tr : Int} (H : XI h n g V tr) (x : xm h h') : XI h' n g V tr := by
  obtain ⟨p, q, C, F, Nu, Co, r, f, ⟨a, b, c, d, e, i, j⟩, hM, hV⟩ := H
  exact ⟨p, q, C, F, Nu, Co, r, f, ⟨a, (x.1 _ (by omega)).trans b, (x.1 _ (by omega)).trans c, xcol_k d (fun k k0 k1 => x.1 _ (by omega)), xS_k e (fun k k0 k1 => x.1 _ (by omega)), xW_k i (fun k k0 k1 => x.1 _ (by omega)), xD_k j (fun k k0 k1 => x.1 _ (by omega))⟩, hM, hV⟩
theorem xo_MI {h h' : AH} {n : Int} {g : Gr} {V : Int → Int} {tr : Int} (H : MI h n g V tr) (x : xo h h') : MI h' n g V tr := by
  obtain ⟨C, K, A, B, L, D, T, U, ⟨m0, m1, m2, m3, m4, m5, m6, m7, m8, m9⟩, hn, hA, hg, hV⟩ := H
  exact ⟨C, K, A, B, L, D, T, U, ⟨(x.1 _ (by omega)).trans m0, (x.1 _ (by omega)).trans m1, (x.1 _ (by omega)).trans m2, (x.1 _ (by omega)).trans m3, (x.1 _ (by omega)).trans m4, (x.1 _ (by omega)).trans m5, (x.1 _ (by omega)).trans m6, (x.1 _ (by omega)).trans m7, (x.1 _ (by omega)).trans m8, (x.1 _ (by omega)).trans m9⟩, hn, hA, hg, hV⟩
theorem and_01 {w : Int} (h : w = 0 ∨ w = 1) : zz_and w 1 = w ∧ zz_and w 0 = 0 := by
  rcases h with h | h <;> rw [h] <;> decide +kernel
set_option maxRecDepth 100000 in
set_option maxHeartbeats 4000000 in
theorem s_X5_points {h : AH} {Q : Option AV → AH → Prop} {n tr : Int} {g : Gr} {V : Int → Int} (hX : MI h n g V tr) {a : Int} (ha : R32 a) (k : ∀ v h', v = f_points n a → MP h h' (n_points n a) (g_points g a) (V) (tr) → Q (some (vI v)) h') : MC mX5_points [vR 20, vI a] h Q := by
  obtain ⟨C, K, A, B, L, D, T, U, ⟨m0, m1, m2, m3, m4, m5, m6, m7, m8, m9⟩, hn, hA, hg, hV⟩ := hX
  rw [mm_in m0 m1 m2 m3 m4 m5 m6 m7 m8 m9]
  have hR := rk_b (n := n) (g := g) (by omega) hg
  refine mc_start mX5_points RX5 "points" ⟨rfl, rfl, by decide +kernel⟩ [some (vR 20), some (vI a), none, none, none] ⟨3, rfl⟩ rfl (fun X cx hRm hNS hRet => ?_)
  refine aw_aload_n cx 1 dX5_points_0 rfl rfl ?_
  refine aw_iconst cx 2 dX5_points_1 rfl ?_
  refine aw_putfield cx 5 dX5_points_2 rfl fdX5_42 (by first | exact mm_0 | exact mm_1 | exact mm_2 | exact mm_3 | exact mm_4 | exact mm_5 | exact mm_6 | exact mm_7 | exact mm_8 | exact mm_9) (by exact Nat.le_of_ble_eq_true rfl) rfl ?_
  dsimp only [List.set]
  first | rw [my_0] | rw [my_1] | rw [my_2] | rw [my_3] | rw [my_4] | rw [my_5] | rw [my_6] | rw [my_7] | rw [my_8] | rw [my_9]
  refine aw_iload_n cx 6 dX5_points_5 rfl rfl ?_
  refine aw_iconst cx 7 dX5_points_6 rfl ?_
  refine aw_bipush cx 9 dX5_points_7 rfl (by decide +kernel) ?_
  refine aw_S3v cx 12 mX5_in dX5_points_9 rfl okmX5_in lkX5_45 (zz_rc0 mX5_points hRm hNS rfl rfl) (Nat.le_of_ble_eq_true rfl) ?_
  refine s_X5_in (by first | assumption | exact ⟨by omega, by omega⟩) (by first | assumption | exact ⟨by omega, by omega⟩) (by first | assumption | exact ⟨by omega, by omega⟩) (fun v9 e9 => ⟨_, rfl, ?_⟩)
  have z9 : v9 = 0 ∨ v9 = 1 := by omega
  have y9 : v9 = 1 ∨ v9 = 0 := by omega
  refine aw_if_ne cx 15 17 dX5_points_12 rfl (by decide) ⟨by omega, by omega⟩ (fun c12 => ?_) (fun c12 => ?_)
  · refine aw_aload_n cx 18 dX5_points_17 rfl rfl ?_
    refine aw_getfield cx 21 dX5_points_18 rfl fdX5_7 (by first | exact mm_0 | exact mm_1 | exact mm_2 | exact mm_3 | exact mm_4 | exact mm_5 | exact mm_6 | exact mm_7 | exact mm_8 | exact mm_9) (by rfl) ?_
    refine aw_istore_n cx 22 2 dX5_points_21 rfl rfl ⟨Nat.le_of_ble_eq_true rfl, Nat.le_of_ble_eq_true rfl⟩ rfl ?_
    dsimp only [List.set]
    refine aw_aload_n cx 23 dX5_points_22 rfl rfl ?_
    refine aw_iload_n cx 24 dX5_points_23 rfl rfl ?_
    refine aw_putfield cx 27 dX5_points_24 rfl fdX5_7 (by first | exact mm_0 | exact mm_1 | exact mm_2 | exact mm_3 | exact mm_4 | exact mm_5 | exact mm_6 | exact mm_7 | exact mm_8 | exact mm_9) (by exact Nat.le_of_ble_eq_true rfl) rfl ?_
    dsimp only [List.set]
    first | rw [my_0] | rw [my_1] | rw [my_2] | rw [my_3] | rw [my_4] | rw [my_5] | rw [my_6] | rw [my_7] | rw [my_8] | rw [my_9]
    refine aw_iconst cx 28 dX5_points_27 rfl ?_
    refine aw_istore_n cx 29 3 dX5_points_28 rfl rfl ⟨Nat.le_of_ble_eq_true rfl, Nat.le_of_ble_eq_true rfl⟩ rfl ?_
    dsimp only [List.set]
    have lp29 : ∀ (kf : Nat) (x : Int) (C1 : Int → Int), (8 - x < (kf : Int)) → (0 ≤ x ∧ x ≤ 8) → (∀ u v, 0 ≤ u → u < x → 0 ≤ v → v < 8 → C1 (8 * u + v) = gB u v) → AW X 29 [some (vR 20), some (vI (a)), some (vI (n)), some (vI (x)), none] [] (hmd h a tr C1 K V A B L D T U) := by
      intro kf
      induction kf with
      | zero =>
        intro x C1 hk hx hC1
        exfalso
        omega
      | succ kf ih29 =>
        intro x C1 hk hx hC1
        refine aw_iload_n cx 30 dX5_points_29 rfl rfl ?_
        refine aw_bipush cx 32 dX5_points_30 rfl (by decide +kernel) ?_
        refine aw_icmp_ge cx 35 80 dX5_points_32 rfl (by decide) ⟨⟨by omega, by omega⟩, ⟨by omega, by omega⟩⟩ (fun c32 => ?_) (fun c32 => ?_)
        · refine aw_iload_n cx 81 dX5_points_80 rfl rfl ?_
          refine aw_ireturn cx dX5_points_81 ?_
          refine hRet _ _ True.intro rfl ?_
          refine k _ _ (by unfold f_points; rw [if_pos (by omega)]) ?_
          unfold n_points g_points
          rw [if_pos (by omega), if_pos (by omega)]
          exact mp_mk ⟨by omega, by omega⟩ (fun u v u0 u1 v0 v1 => hC1 u v u0 (by omega) v0 (by omega)) (gB_r _) hV
        · refine aw_iconst cx 36 dX5_points_35 rfl ?_
          refine aw_istore cx 38 dX5_points_36 rfl ⟨Nat.le_of_ble_eq_true rfl, Nat.le_of_ble_eq_true rfl⟩ rfl ?_
          dsimp only [List.set]
          have lp38 : ∀ (kf : Nat) (y : Int) (C2 : Int → Int), (8 - y < (kf : Int)) → (0 ≤ y ∧ y ≤ 8) → (∀ u v, 0 ≤ u → u < x → 0 ≤ v → v < 8 → C2 (8 * u + v) = gB u v) → (∀ v, 0 ≤ v → v < y → C2 (8 * x + v) = gB x v) → AW X 38 [some (vR 20), some (vI (a)), some (vI (n)), some (vI (x)), some (vI (y))] [] (hmd h a tr C2 K V A B L D T U) := by
            intro kf
            induction kf with
            | zero =>
              intro y C2 hk hy hC2 hC3
              exfalso
              omega
            | succ kf ih38 =>
              intro y C2 hk hy hC2 hC3
              refine aw_iload cx 40 dX5_points_38 rfl rfl ?_
              refine aw_bipush cx 42 dX5_points_40 rfl (by decide +kernel) ?_
              refine aw_icmp_ge cx 45 74 dX5_points_42 rfl (by decide) ⟨⟨by omega, by omega⟩, ⟨by omega, by omega⟩⟩ (fun c42 => ?_) (fun c42 => ?_)
              · refine aw_iinc cx 77 dX5_points_74 rfl rfl (Nat.le_of_ble_eq_true rfl) rfl ?_
                dsimp only [List.set]
                refine aw_goto cx 29 dX5_points_77 (by decide) ?_
                exact aw_weak (ih29 (x + 1) C2 (by omega) ⟨by omega, by omega⟩ (fun u v u0 u1 v0 v1 => by
                  by_cases e : u = x
                  · rw [e]
                    exact hC3 v v0 (by omega)
                  · exact hC2 u v u0 (by omega) v0 v1)) (by simp [zz_le])
              · refine aw_aload_n cx 46 dX5_points_45 rfl rfl ?_
                refine aw_getfield cx 49 dX5_points_46 rfl fdX5_13 (by first | exact mm_0 | exact mm_1 | exact mm_2 | exact mm_3 | exact mm_4 | exact mm_5 | exact mm_6 | exact mm_7 | exact mm_8 | exact mm_9) (by rfl) ?_
                refine aw_bipush cx 51 dX5_points_49 rfl (by decide +kernel) ?_
                refine aw_iload_n cx 52 dX5_points_51 rfl rfl ?_
                refine aw_imul cx 53 dX5_points_52 rfl ?_
                refine aw_iload cx 55 dX5_points_53 rfl rfl ?_
                refine aw_iadd cx 56 dX5_points_55 rfl ?_
                refine aw_iload_n cx 57 dX5_points_56 rfl rfl ?_
                refine aw_iload cx 59 dX5_points_57 rfl rfl ?_
                refine aw_icmp_ne cx 62 66 dX5_points_59 rfl (by decide) ⟨⟨by omega, by omega⟩, ⟨by omega, by omega⟩⟩ (fun c59 => ?_) (fun c59 => ?_)
                · refine aw_iconst cx 67 dX5_points_66 rfl ?_
                  refine aw_iastore cx 68 dX5_points_67 rfl (by first | exact mm_0 | exact mm_1 | exact mm_2 | exact mm_3 | exact mm_4 | exact mm_5 | exact mm_6 | exact mm_7 | exact mm_8 | exact mm_9) ⟨by omega, by omega⟩ (by decide) ?_
                  first | rw [my_0] | rw [my_1] | rw [my_2] | rw [my_3] | rw [my_4] | rw [my_5] | rw [my_6] | rw [my_7] | rw [my_8] | rw [my_9]
                  refine aw_iinc cx 71 dX5_points_68 rfl rfl (Nat.le_of_ble_eq_true rfl) rfl ?_
                  dsimp only [List.set]
                  refine aw_goto cx 38 dX5_points_71 (by decide) ?_
                  exact ih38 (y + 1) _ (by omega) ⟨by omega, by omega⟩ (fun u v u0 u1 v0 v1 => by
                    rw [up_at ⟨by omega, by omega⟩ ⟨v0, v1⟩, if_neg (by omega)]
                    exact hC2 u v u0 u1 v0 v1) (fun v v0 v1 => by
                    rw [up_at ⟨by omega, by omega⟩ ⟨v0, by omega⟩]
                    by_cases e : v = y
                    · rw [if_pos ⟨rfl, e⟩]
                      unfold gB
                      first | (rw [if_pos (by omega)]; done) | (rw [if_neg (by omega)]; done)
                    · rw [if_neg (by omega)]
                      exact hC3 v v0 (by omega))
                · refine aw_iconst cx 63 dX5_points_62 rfl ?_
                  refine aw_goto cx 67 dX5_points_63 (by decide) ?_
                  refine aw_iastore cx 68 dX5_points_67 rfl (by first | exact mm_0 | exact mm_1 | exact mm_2 | exact mm_3 | exact mm_4 | exact mm_5 | exact mm_6 | exact mm_7 | exact mm_8 | exact mm_9) ⟨by omega, by omega⟩ (by decide) ?_
                  first | rw [my_0] | rw [my_1] | rw [my_2] | rw [my_3] | rw [my_4] | rw [my_5] | rw [my_6] | rw [my_7] | rw [my_8] | rw [my_9]
                  refine aw_iinc cx 71 dX5_points_68 rfl rfl (Nat.le_of_ble_eq_true rfl) rfl ?_
                  dsimp only [List.set]
                  refine aw_goto cx 38 dX5_points_71 (by decide) ?_
                  exact ih38 (y + 1) _ (by omega) ⟨by omega, by omega⟩ (fun u v u0 u1 v0 v1 => by
                    rw [up_at ⟨by omega, by omega⟩ ⟨v0, v1⟩, if_neg (by omega)]
                    exact hC2 u v u0 u1 v0 v1) (fun v v0 v1 => by
                    rw [up_at ⟨by omega, by omega⟩ ⟨v0, by omega⟩]
                    by_cases e : v = y
                    · rw [if_pos ⟨rfl, e⟩]
                      unfold gB
                      first | (rw [if_pos (by omega)]; done) | (rw [if_neg (by omega)]; done)
                    · rw [if_neg (by omega)]
                      exact hC3 v v0 (by omega))
          exact lp38 9 0 C1 (by omega) ⟨by omega, by omega⟩ hC1 (fun v v0 v1 => by omega)
    exact lp29 9 0 C (by omega) ⟨by omega, by omega⟩ (fun u v u0 u1 => by omega)
  · refine aw_iconst cx 16 dX5_points_15 rfl ?_
    refine aw_ireturn cx dX5_points_16 ?_
    refine hRet _ _ True.intro rfl ?_
    refine k _ _ (by unfold f_points; rw [if_neg (by omega)]) ?_
    unfold n_points g_points
    rw [if_neg (by omega), if_neg (by omega)]
    exact (mp_mk hn hA hg hV)
set_option maxRecDepth 100000 in
set_option maxHeartbeats 4000000 in
theorem s_X5_colour {h : AH} {Q : Option AV → AH → Prop} {n tr : Int} {g : Gr} {V : Int → Int} (hX : MI h n g V tr) {a b c : Int} (ha : R32 a) (hb : R32 b) (hc : R32 c) (k : ∀ v h', v = f_colour n g a b c → MP h h' (n) (g_colour n g a b c) (V) (tr) → Q (some (vI v)) h') : MC mX5_colour [vR 20, vI a, vI b, vI c] h Q := by
  obtain ⟨C, K, A, B, L, D, T, U, ⟨m0, m1, m2, m3, m4, m5, m6, m7, m8, m9⟩, hn, hA, hg, hV⟩ := hX
  rw [mm_in m0 m1 m2 m3 m4 m5 m6 m7 m8 m9]
  have hR := rk_b (n := n) (g := g) (by omega) hg
  refine mc_start mX5_colour RX5 "colour" ⟨rfl, rfl, by decide +kernel⟩ [some (vR 20), some (vI a), some (vI b), some (vI c), none] ⟨1, rfl⟩ rfl (fun X cx hRm hNS hRet => ?_)
  refine aw_aload_n cx 1 dX5_colour_0 rfl rfl ?_
  refine aw_iconst cx 2 dX5_colour_1 rfl ?_
  refine aw_putfield cx 5 dX5_colour_2 rfl fdX5_42 (by first | exact mm_0 | exact mm_1 | exact mm_2 | exact mm_3 | exact mm_4 | exact mm_5 | exact mm_6 | exact mm_7 | exact mm_8 | exact mm_9) (by exact Nat.le_of_ble_eq_true rfl) rfl ?_
  dsimp only [List.set]
  first | rw [my_0] | rw [my_1] | rw [my_2] | rw [my_3] | rw [my_4] | rw [my_5] | rw [my_6] | rw [my_7] | rw [my_8] | rw [my_9]
  refine aw_aload_n cx 6 dX5_colour_5 rfl rfl ?_
  refine aw_iload_n cx 7 dX5_colour_6 rfl rfl ?_
  refine aw_V1v cx 10 mX5_isPoint (ci := 4) dX5_colour_7 rfl okmX5_isPoint lkX5_49 (by first | exact mm_0 | exact mm_1 | exact mm_2 | exact mm_3 | exact mm_4 | exact mm_5 | exact mm_6 | exact mm_7 | exact mm_8 | exact mm_9) ⟨rfl, by decide⟩ (zz_rc0 mX5_colour hRm hNS rfl rfl) (Nat.le_of_ble_eq_true rfl) ?_
  refine s_X5_isPoint hn (by first | assumption | exact ⟨by omega, by omega⟩) (fun v7 e7 => ⟨_, rfl, ?_⟩)
  refine aw_if_eq cx 13 30 dX5_colour_10 rfl (by decide) ⟨by omega, by omega⟩ (fun c10 => ?_) (fun c10 => ?_)
  · refine aw_iconst cx 31 dX5_colour_30 rfl ?_
    refine aw_ireturn cx dX5_colour_31 ?_
    refine hRet _ _ True.intro rfl ?_
    refine k _ _ (by unfold f_colour; rw [if_neg (by unfold ok_colour; omega)]) ?_
    unfold g_colour
    rw [if_neg (by unfold ok_colour; omega)]
    exact (mp_mk hn hA hg hV)
  · refine aw_aload_n cx 14 dX5_colour_13 rfl rfl ?_
    refine aw_iload_n cx 15 dX5_colour_14 rfl rfl ?_
    refine aw_V1v cx 18 mX5_isPoint (ci := 4) dX5_colour_15 rfl okmX5_isPoint lkX5_49 (by first | exact mm_0 | exact mm_1 | exact mm_2 | exact mm_3 | exact mm_4 | exact mm_5 | exact mm_6 | exact mm_7 | exact mm_8 | exact mm_9) ⟨rfl, by decide⟩ (zz_rc0 mX5_colour hRm hNS rfl rfl) (Nat.le_of_ble_eq_true rfl) ?_
    refine s_X5_isPoint hn (by first | assumption | exact ⟨by omega, by omega⟩) (fun v15 e15 => ⟨_, rfl, ?_⟩)
    refine aw_if_eq cx 21 30 dX5_colour_18 rfl (by decide) ⟨by omega, by omega⟩ (fun c18 => ?_) (fun c18 => ?_)
    · refine aw_iconst cx 31 dX5_colour_30 rfl ?_
      refine aw_ireturn cx dX5_colour_31 ?_
      refine hRet _ _ True.intro rfl ?_
      refine k _ _ (by unfold f_colour; rw [if_neg (by unfold ok_colour; omega)]) ?_
      unfold g_colour
      rw [if_neg (by unfold ok_colour; omega)]
      exact (mp_mk hn hA hg hV)
    · refine aw_iload_n cx 22 dX5_colour_21 rfl rfl ?_
      refine aw_iconst cx 23 dX5_colour_22 rfl ?_
      refine aw_iconst cx 24 dX5_colour_23 rfl ?_
      refine aw_S3v cx 27 mX5_in dX5_colour_24 rfl okmX5_in lkX5_45 (zz_rc0 mX5_colour hRm hNS rfl rfl) (Nat.le_of_ble_eq_true rfl) ?_
      refine s_X5_in (by first | assumption | exact ⟨by omega, by omega⟩) (by first | assumption | exact ⟨by omega, by omega⟩) (by first | assumption | exact ⟨by omega, by omega⟩) (fun v24 e24 => ⟨_, rfl, ?_⟩)
      have z24 : v24 = 0 ∨ v24 = 1 := by omega
      have y24 : v24 = 1 ∨ v24 = 0 := by omega
      refine aw_if_ne cx 30 32 dX5_colour_27 rfl (by decide) ⟨by omega, by omega⟩ (fun c27 => ?_) (fun c27 => ?_)
      · refine aw_aload_n cx 33 dX5_colour_32 rfl rfl ?_
        refine aw_iload_n cx 34 dX5_colour_33 rfl rfl ?_
        refine aw_iload_n cx 35 dX5_colour_34 rfl rfl ?_
        refine aw_V2v cx 38 mX5_hue (ci := 4) dX5_colour_35 rfl okmX5_hue lkX5_53 (by first | exact mm_0 | exact mm_1 | exact mm_2 | exact mm_3 | exact mm_4 | exact mm_5 | exact mm_6 | exact mm_7 | exact mm_8 | exact mm_9) ⟨rfl, by decide⟩ (zz_rc0 mX5_colour hRm hNS rfl rfl) (Nat.le_of_ble_eq_true rfl) ?_
        refine s_X5_hue ⟨by omega, by omega⟩ ⟨by omega, by omega⟩ (fun v35 e35 => ⟨_, rfl, ?_⟩)
        have q35 := hA a b (by omega) (by omega) (by omega) (by omega)
        have w35 := hg a b (by omega) (by omega) (by omega) (by omega)
        refine aw_istore cx 40 dX5_colour_38 rfl ⟨Nat.le_of_ble_eq_true rfl, Nat.le_of_ble_eq_true rfl⟩ rfl ?_
        dsimp only [List.set]
        refine aw_aload_n cx 41 dX5_colour_40 rfl rfl ?_
        refine aw_getfield cx 44 dX5_colour_41 rfl fdX5_13 (by first | exact mm_0 | exact mm_1 | exact mm_2 | exact mm_3 | exact mm_4 | exact mm_5 | exact mm_6 | exact mm_7 | exact mm_8 | exact mm_9) (by rfl) ?_
        refine aw_bipush cx 46 dX5_colour_44 rfl (by decide +kernel) ?_
        refine aw_iload_n cx 47 dX5_colour_46 rfl rfl ?_
        refine aw_imul cx 48 dX5_colour_47 rfl ?_
        refine aw_iload_n cx 49 dX5_colour_48 rfl rfl ?_
        refine aw_iadd cx 50 dX5_colour_49 rfl ?_
        refine aw_iload_n cx 51 dX5_colour_50 rfl rfl ?_
        refine aw_iastore cx 52 dX5_colour_51 rfl (by first | exact mm_0 | exact mm_1 | exact mm_2 | exact mm_3 | exact mm_4 | exact mm_5 | exact mm_6 | exact mm_7 | exact mm_8 | exact mm_9) ⟨by omega, by omega⟩ (by decide) ?_
        first | rw [my_0] | rw [my_1] | rw [my_2] | rw [my_3] | rw [my_4] | rw [my_5] | rw [my_6] | rw [my_7] | rw [my_8] | rw [my_9]
        refine aw_iload cx 54 dX5_colour_52 rfl rfl ?_
        refine aw_ireturn cx dX5_colour_54 ?_
        refine hRet _ _ True.intro rfl ?_
        have hA2 : ag n (zz_up C (8 * a + b) c) (up2 g a b c) := fun x y x0 x1 y0 y1 => by
          rw [up_at ⟨by omega, by omega⟩ ⟨by omega, by omega⟩]
          unfold up2
          split
          · rfl
          · exact hA x y x0 x1 y0 y1
        have hG2 : rgn n (up2 g a b c) := fun x y x0 x1 y0 y1 => by
          unfold up2
          split
          · omega
          · exact hg x y x0 x1 y0 y1
        refine k _ _ (by unfold f_colour; rw [if_pos (by unfold ok_colour; omega), e35, q35]) ?_
        unfold g_colour
        rw [if_pos (by unfold ok_colour; omega)]
        exact mp_mk hn hA2 hG2 hV
      · refine aw_iconst cx 31 dX5_colour_30 rfl ?_
        refine aw_ireturn cx dX5_colour_31 ?_
        refine hRet _ _ True.intro rfl ?_
        refine k _ _ (by unfold f_colour; rw [if_neg (by unfold ok_colour; omega)]) ?_
        unfold g_colour
        rw [if_neg (by unfold ok_colour; omega)]
        exact (mp_mk hn hA hg hV)
set_option maxRecDepth 100000 in
set_option maxHeartbeats 4000000 in
theorem s_X5_at {h : AH} {Q : Option AV → AH → Prop} {n tr : Int} {g : Gr} {V : Int → Int} (hX : MI h n g V tr) {a b : Int} (ha : R32 a) (hb : R32 b) (k : ∀ v h', v = f_at n g a b → MP h h' (n) (g) (V) (tr) → Q (some (vI v)) h') : MC mX5_at [vR 20, vI a, vI b] h Q := by
  obtain ⟨C, K, A, B, L, D, T, U, ⟨m0, m1, m2, m3, m4, m5, m6, m7, m8, m9⟩, hn, hA, hg, hV⟩ := hX
  rw [mm_in m0 m1 m2 m3 m4 m5 m6 m7 m8 m9]
  have hR := rk_b (n := n) (g := g) (by omega) hg
  refine mc_start mX5_at RX5 "at" ⟨rfl, rfl, by decide +kernel⟩ [some (vR 20), some (vI a), some (vI b)] ⟨0, rfl⟩ rfl (fun X cx hRm hNS hRet => ?_)
  refine aw_aload_n cx 1 dX5_at_0 rfl rfl ?_
  refine aw_iconst cx 2 dX5_at_1 rfl ?_
  refine aw_putfield cx 5 dX5_at_2 rfl fdX5_42 (by first | exact mm_0 | exact mm_1 | exact mm_2 | exact mm_3 | exact mm_4 | exact mm_5 | exact mm_6 | exact mm_7 | exact mm_8 | exact mm_9) (by exact Nat.le_of_ble_eq_true rfl) rfl ?_
  dsimp only [List.set]
  first | rw [my_0] | rw [my_1] | rw [my_2] | rw [my_3] | rw [my_4] | rw [my_5] | rw [my_6] | rw [my_7] | rw [my_8] | rw [my_9]
  refine aw_aload_n cx 6 dX5_at_5 rfl rfl ?_
  refine aw_iload_n cx 7 dX5_at_6 rfl rfl ?_
  refine aw_V1v cx 10 mX5_isPoint (ci := 4) dX5_at_7 rfl okmX5_isPoint lkX5_49 (by first | exact mm_0 | exact mm_1 | exact mm_2 | exact mm_3 | exact mm_4 | exact mm_5 | exact mm_6 | exact mm_7 | exact mm_8 | exact mm_9) ⟨rfl, by decide⟩ (zz_rc0 mX5_at hRm hNS rfl rfl) (Nat.le_of_ble_eq_true rfl) ?_
  refine s_X5_isPoint hn (by first | assumption | exact ⟨by omega, by omega⟩) (fun v7 e7 => ⟨_, rfl, ?_⟩)
  refine aw_if_eq cx 13 30 dX5_at_10 rfl (by decide) ⟨by omega, by omega⟩ (fun c10 => ?_) (fun c10 => ?_)
  · refine aw_iconst cx 31 dX5_at_30 rfl ?_
    refine aw_ireturn cx dX5_at_31 ?_
    refine hRet _ _ True.intro rfl ?_
    first
    | exact k _ _ (by unfold f_at; rw [if_neg (by omega)]) (mp_mk hn hA hg hV)
    | exact k _ _ (by unfold f_at; rw [if_pos (by omega), e24, q24]) (mp_mk hn hA hg hV)
  · refine aw_aload_n cx 14 dX5_at_13 rfl rfl ?_
    refine aw_iload_n cx 15 dX5_at_14 rfl rfl ?_
    refine aw_V1v cx 18 mX5_isPoint (ci := 4) dX5_at_15 rfl okmX5_isPoint lkX5_49 (by first | exact mm_0 | exact mm_1 | exact mm_2 | exact mm_3 | exact mm_4 | exact mm_5 | exact mm_6 | exact mm_7 | exact mm_8 | exact mm_9) ⟨rfl, by decide⟩ (zz_rc0 mX5_at hRm hNS rfl rfl) (Nat.le_of_ble_eq_true rfl) ?_
    refine s_X5_isPoint hn (by first | assumption | exact ⟨by omega, by omega⟩) (fun v15 e15 => ⟨_, rfl, ?_⟩)
    refine aw_if_eq cx 21 30 dX5_at_18 rfl (by decide) ⟨by omega, by omega⟩ (fun c18 => ?_) (fun c18 => ?_)
    · refine aw_iconst cx 31 dX5_at_30 rfl ?_
      refine aw_ireturn cx dX5_at_31 ?_
      refine hRet _ _ True.intro rfl ?_
      first
      | exact k _ _ (by unfold f_at; rw [if_neg (by omega)]) (mp_mk hn hA hg hV)
      | exact k _ _ (by unfold f_at; rw [if_pos (by omega), e24, q24]) (mp_mk hn hA hg hV)
    · refine aw_aload_n cx 22 dX5_at_21 rfl rfl ?_
      refine aw_iload_n cx 23 dX5_at_22 rfl rfl ?_
      refine aw_iload_n cx 24 dX5_at_23 rfl rfl ?_
      refine aw_V2v cx 27 mX5_hue (ci := 4) dX5_at_24 rfl okmX5_hue lkX5_53 (by first | exact mm_0 | exact mm_1 | exact mm_2 | exact mm_3 | exact mm_4 | exact mm_5 | exact mm_6 | exact mm_7 | exact mm_8 | exact mm_9) ⟨rfl, by decide⟩ (zz_rc0 mX5_at hRm hNS rfl rfl) (Nat.le_of_ble_eq_true rfl) ?_
      refine s_X5_hue ⟨by omega, by omega⟩ ⟨by omega, by omega⟩ (fun v24 e24 => ⟨_, rfl, ?_⟩)
      have q24 := hA a b (by omega) (by omega) (by omega) (by omega)
      have w24 := hg a b (by omega) (by omega) (by omega) (by omega)
      refine aw_goto cx 31 dX5_at_27 (by decide) ?_
      refine aw_ireturn cx dX5_at_31 ?_
      refine hRet _ _ True.intro rfl ?_
      first
      | exact k _ _ (by unfold f_at; rw [if_neg (by omega)]) (mp_mk hn hA hg hV)
      | exact k _ _ (by unfold f_at; rw [if_pos (by omega), e24, q24]) (mp_mk hn hA hg hV)
set_option maxRecDepth 100000 in
set_option maxHeartbeats 4000000 in
theorem s_X5_fails {h : AH} {Q : Option AV → AH → Prop} {n tr : Int} {g : Gr} {V : Int → Int} (hX : MI h n g V tr)  (k : ∀ v h', v = fl n g → MP h h' (n) (g) (V) (tr) → Q (some (vI v)) h') : MC mX5_fails [vR 20] h Q := by
  obtain ⟨C, K, A, B, L, D, T, U, ⟨m0, m1, m2, m3, m4, m5, m6, m7, m8, m9⟩, hn, hA, hg, hV⟩ := hX
  rw [mm_in m0 m1 m2 m3 m4 m5 m6 m7 m8 m9]
  have hR := rk_b (n := n) (g := g) (by omega) hg
  refine mc_start mX5_fails RX5 "fails" ⟨rfl, rfl, by decide +kernel⟩ [some (vR 20)] ⟨0, rfl⟩ rfl (fun X cx hRm hNS hRet => ?_)
  refine aw_aload_n cx 1 dX5_fails_0 rfl rfl ?_
  refine aw_iconst cx 2 dX5_fails_1 rfl ?_
  refine aw_putfield cx 5 dX5_fails_2 rfl fdX5_42 (by first | exact mm_0 | exact mm_1 | exact mm_2 | exact mm_3 | exact mm_4 | exact mm_5 | exact mm_6 | exact mm_7 | exact mm_8 | exact mm_9) (by exact Nat.le_of_ble_eq_true rfl) rfl ?_
  dsimp only [List.set]
  first | rw [my_0] | rw [my_1] | rw [my_2] | rw [my_3] | rw [my_4] | rw [my_5] | rw [my_6] | rw [my_7] | rw [my_8] | rw [my_9]
  refine aw_aload_n cx 6 dX5_fails_5 rfl rfl ?_
  refine aw_V0v cx 9 mX5_failsBy (ci := 4) dX5_fails_6 rfl okmX5_failsBy lkX5_57 (by first | exact mm_0 | exact mm_1 | exact mm_2 | exact mm_3 | exact mm_4 | exact mm_5 | exact mm_6 | exact mm_7 | exact mm_8 | exact mm_9) ⟨rfl, by decide⟩ (zz_rc0 mX5_fails hRm hNS rfl rfl) (Nat.le_of_ble_eq_true rfl) ?_
  refine s_X5_failsBy hn hA hg (fun v6 A6 B6 e6 P6 => ⟨_, rfl, ?_⟩)
  have b6 := fl_b (n := n) (g := g) hn
  rw [← e6] at b6
  refine aw_ireturn cx dX5_fails_9 ?_
  refine hRet _ _ True.intro rfl ?_
  exact k _ _ e6 (mp_mk hn hA hg hV)
set_option maxRecDepth 100000 in
set_option maxHeartbeats 4000000 in
theorem s_X5_number {h : AH} {Q : Option AV → AH → Prop} {n tr : Int} {g : Gr} {V : Int → Int} (hX : MI h n g V tr) {a b c : Int} (ha : R32 a) (hb : R32 b) (hc : R32 c) (k : ∀ v h', v = f_number n g a b c → MP h h' (n) (g) (V) (tr) → Q (some (vI v)) h') : MC mX5_number [vR 20, vI a, vI b, vI c] h Q := by
  obtain ⟨C, K, A, B, L, D, T, U, ⟨m0, m1, m2, m3, m4, m5, m6, m7, m8, m9⟩, hn, hA, hg, hV⟩ := hX
  rw [mm_in m0 m1 m2 m3 m4 m5 m6 m7 m8 m9]
  have hR := rk_b (n := n) (g := g) (by omega) hg
  refine mc_start mX5_number RX5 "number" ⟨rfl, rfl, by decide +kernel⟩ [some (vR 20), some (vI a), some (vI b), some (vI c)] ⟨0, rfl⟩ rfl (fun X cx hRm hNS hRet => ?_)
  refine aw_aload_n cx 1 dX5_number_0 rfl rfl ?_
  refine aw_iconst cx 2 dX5_number_1 rfl ?_
  refine aw_putfield cx 5 dX5_number_2 rfl fdX5_42 (by first | exact mm_0 | exact mm_1 | exact mm_2 | exact mm_3 | exact mm_4 | exact mm_5 | exact mm_6 | exact mm_7 | exact mm_8 | exact mm_9) (by exact Nat.le_of_ble_eq_true rfl) rfl ?_
  dsimp only [List.set]
  first | rw [my_0] | rw [my_1] | rw [my_2] | rw [my_3] | rw [my_4] | rw [my_5] | rw [my_6] | rw [my_7] | rw [my_8] | rw [my_9]
  refine aw_aload_n cx 6 dX5_number_5 rfl rfl ?_
  refine aw_iload_n cx 7 dX5_number_6 rfl rfl ?_
  refine aw_V1v cx 10 mX5_isColour (ci := 4) dX5_number_7 rfl okmX5_isColour lkX5_72 (by first | exact mm_0 | exact mm_1 | exact mm_2 | exact mm_3 | exact mm_4 | exact mm_5 | exact mm_6 | exact mm_7 | exact mm_8 | exact mm_9) ⟨rfl, by decide⟩ (zz_rc0 mX5_number hRm hNS rfl rfl) (Nat.le_of_ble_eq_true rfl) ?_
  refine s_X5_isColour hn hA hg (by assumption) (fun v7 e7 => ⟨_, rfl, ?_⟩)
  refine aw_if_eq cx 13 29 dX5_number_10 rfl (by decide) ⟨by omega, by omega⟩ (fun c10 => ?_) (fun c10 => ?_)
  · refine aw_iconst cx 30 dX5_number_29 rfl ?_
    refine aw_ireturn cx dX5_number_30 ?_
    refine hRet _ _ True.intro rfl ?_
    exact k _ _ (by unfold f_number; rw [if_neg (by omega)]) (mp_mk hn hA hg hV)
  · refine aw_aload_n cx 14 dX5_number_13 rfl rfl ?_
    refine aw_iload_n cx 15 dX5_number_14 rfl rfl ?_
    refine aw_V1v cx 18 mX5_isColour (ci := 4) dX5_number_15 rfl okmX5_isColour lkX5_72 (by first | exact mm_0 | exact mm_1 | exact mm_2 | exact mm_3 | exact mm_4 | exact mm_5 | exact mm_6 | exact mm_7 | exact mm_8 | exact mm_9) ⟨rfl, by decide⟩ (zz_rc0 mX5_number hRm hNS rfl rfl) (Nat.le_of_ble_eq_true rfl) ?_
    refine s_X5_isColour hn hA hg (by assumption) (fun v15 e15 => ⟨_, rfl, ?_⟩)
    refine aw_if_eq cx 21 29 dX5_number_18 rfl (by decide) ⟨by omega, by omega⟩ (fun c18 => ?_) (fun c18 => ?_)
    · refine aw_iconst cx 30 dX5_number_29 rfl ?_
      refine aw_ireturn cx dX5_number_30 ?_
      refine hRet _ _ True.intro rfl ?_
      exact k _ _ (by unfold f_number; rw [if_neg (by omega)]) (mp_mk hn hA hg hV)
    · refine aw_aload_n cx 22 dX5_number_21 rfl rfl ?_
      refine aw_iload_n cx 23 dX5_number_22 rfl rfl ?_
      refine aw_V1v cx 26 mX5_isColour (ci := 4) dX5_number_23 rfl okmX5_isColour lkX5_72 (by first | exact mm_0 | exact mm_1 | exact mm_2 | exact mm_3 | exact mm_4 | exact mm_5 | exact mm_6 | exact mm_7 | exact mm_8 | exact mm_9) ⟨rfl, by decide⟩ (zz_rc0 mX5_number hRm hNS rfl rfl) (Nat.le_of_ble_eq_true rfl) ?_
      refine s_X5_isColour hn hA hg (by assumption) (fun v23 e23 => ⟨_, rfl, ?_⟩)
      refine aw_if_ne cx 29 31 dX5_number_26 rfl (by decide) ⟨by omega, by omega⟩ (fun c26 => ?_) (fun c26 => ?_)
      · refine aw_aload_n cx 32 dX5_number_31 rfl rfl ?_
        refine aw_V0v cx 35 mX5_isEven (ci := 4) dX5_number_32 rfl okmX5_isEven lkX5_75 (by first | exact mm_0 | exact mm_1 | exact mm_2 | exact mm_3 | exact mm_4 | exact mm_5 | exact mm_6 | exact mm_7 | exact mm_8 | exact mm_9) ⟨rfl, by decide⟩ (zz_rc0 mX5_number hRm hNS rfl rfl) (Nat.le_of_ble_eq_true rfl) ?_
        refine s_X5_isEven hn hA hg (fun v32 A32 B32 e32 P32 => ⟨_, rfl, ?_⟩)
        refine aw_if_eq cx 38 48 dX5_number_35 rfl (by decide) ⟨by omega, by omega⟩ (fun c35 => ?_) (fun c35 => ?_)
        · refine aw_bipush cx 50 dX5_number_48 rfl (by decide +kernel) ?_
          refine aw_ireturn cx dX5_number_50 ?_
          refine hRet _ _ True.intro rfl ?_
          first
          | exact k _ _ (by unfold f_number; rw [if_pos (by omega), if_neg (by omega)]) (mp_mk hn hA hg hV)
          | exact k _ _ (by unfold f_number; rw [if_pos (by omega), if_pos (by omega)]; exact e42) (mp_mk hn hA hg hV)
        · have hz : fl n g = 0 := by omega
          have hP := P32 hz
          have hO : ∀ c, 0 ≤ c → c < 5 → c < rk n g → fp n g c ≠ -1 := fun c c0 c1 c2 => (fl_z (by omega) hz).2.1 c c0 c1 c2
          refine aw_aload_n cx 39 dX5_number_38 rfl rfl ?_
          refine aw_iload_n cx 40 dX5_number_39 rfl rfl ?_
          refine aw_iload_n cx 41 dX5_number_40 rfl rfl ?_
          refine aw_iload_n cx 42 dX5_number_41 rfl rfl ?_
          refine aw_V3v cx 45 mX5_numberOf (ci := 4) dX5_number_42 rfl okmX5_numberOf lkX5_78 (by first | exact mm_0 | exact mm_1 | exact mm_2 | exact mm_3 | exact mm_4 | exact mm_5 | exact mm_6 | exact mm_7 | exact mm_8 | exact mm_9) ⟨rfl, by decide⟩ (zz_rc0 mX5_number hRm hNS rfl rfl) (Nat.le_of_ble_eq_true rfl) ?_
          refine s_X5_numberOf hn hA hg hP ⟨by omega, by omega⟩ ⟨by omega, by omega⟩ ⟨by omega, by omega⟩ (hO _ (by omega) (by omega) (by omega)) (fun v42 e42 => ⟨_, rfl, ?_⟩)
          have b42 := nu_b (n := n) (g := g) (by omega)
          refine aw_goto cx 50 dX5_number_45 (by decide) ?_
          refine aw_ireturn cx dX5_number_50 ?_
          refine hRet _ _ True.intro rfl ?_
          first
          | exact k _ _ (by unfold f_number; rw [if_pos (by omega), if_neg (by omega)]) (mp_mk hn hA hg hV)
          | exact k _ _ (by unfold f_number; rw [if_pos (by omega), if_pos (by omega)]; exact e42) (mp_mk hn hA hg hV)
      · refine aw_iconst cx 30 dX5_number_29 rfl ?_
        refine aw_ireturn cx dX5_number_30 ?_
        refine hRet _ _ True.intro rfl ?_
        exact k _ _ (by unfold f_number; rw [if_neg (by omega)]) (mp_mk hn hA hg hV)
set_option maxRecDepth 100000 in
set_option maxHeartbeats 4000000 in
theorem s_X5_of {h : AH} {Q : Option AV → AH → Prop} {n tr : Int} {g : Gr} {V : Int → Int} (hX : MI h n g V tr) {a b : Int} (ha : R32 a) (hb : R32 b) (k : ∀ v h', v = f_of n g a b → MP h h' (n) (g) (V) (tr) → Q (some (vI v)) h') : MC mX5_of [vR 20, vI a, vI b] h Q := by
  obtain ⟨C, K, A, B, L, D, T, U, ⟨m0, m1, m2, m3, m4, m5, m6, m7, m8, m9⟩, hn, hA, hg, hV⟩ := hX
  rw [mm_in m0 m1 m2 m3 m4 m5 m6 m7 m8 m9]
  have hR := rk_b (n := n) (g := g) (by omega) hg
  refine mc_start mX5_of RX5 "of" ⟨rfl, rfl, by decide +kernel⟩ [some (vR 20), some (vI a), some (vI b)] ⟨0, rfl⟩ rfl (fun X cx hRm hNS hRet => ?_)
  refine aw_aload_n cx 1 dX5_of_0 rfl rfl ?_
  refine aw_iconst cx 2 dX5_of_1 rfl ?_
  refine aw_putfield cx 5 dX5_of_2 rfl fdX5_42 (by first | exact mm_0 | exact mm_1 | exact mm_2 | exact mm_3 | exact mm_4 | exact mm_5 | exact mm_6 | exact mm_7 | exact mm_8 | exact mm_9) (by exact Nat.le_of_ble_eq_true rfl) rfl ?_
  dsimp only [List.set]
  first | rw [my_0] | rw [my_1] | rw [my_2] | rw [my_3] | rw [my_4] | rw [my_5] | rw [my_6] | rw [my_7] | rw [my_8] | rw [my_9]
  refine aw_aload_n cx 6 dX5_of_5 rfl rfl ?_
  refine aw_iload_n cx 7 dX5_of_6 rfl rfl ?_
  refine aw_V1v cx 10 mX5_isColour (ci := 4) dX5_of_7 rfl okmX5_isColour lkX5_72 (by first | exact mm_0 | exact mm_1 | exact mm_2 | exact mm_3 | exact mm_4 | exact mm_5 | exact mm_6 | exact mm_7 | exact mm_8 | exact mm_9) ⟨rfl, by decide⟩ (zz_rc0 mX5_of hRm hNS rfl rfl) (Nat.le_of_ble_eq_true rfl) ?_
  refine s_X5_isColour hn hA hg (by assumption) (fun v7 e7 => ⟨_, rfl, ?_⟩)
  refine aw_if_eq cx 13 22 dX5_of_10 rfl (by decide) ⟨by omega, by omega⟩ (fun c10 => ?_) (fun c10 => ?_)
  · refine aw_iconst cx 23 dX5_of_22 rfl ?_
    refine aw_ireturn cx dX5_of_23 ?_
    refine hRet _ _ True.intro rfl ?_
    exact k _ _ (by unfold f_of; rw [if_neg (by omega)]) (mp_mk hn hA hg hV)
  · refine aw_iload_n cx 14 dX5_of_13 rfl rfl ?_
    refine aw_iconst cx 15 dX5_of_14 rfl ?_
    refine aw_iconst cx 16 dX5_of_15 rfl ?_
    refine aw_S3v cx 19 mX5_in dX5_of_16 rfl okmX5_in lkX5_45 (zz_rc0 mX5_of hRm hNS rfl rfl) (Nat.le_of_ble_eq_true rfl) ?_
    refine s_X5_in (by first | assumption | exact ⟨by omega, by omega⟩) (by first | assumption | exact ⟨by omega, by omega⟩) (by first | assumption | exact ⟨by omega, by omega⟩) (fun v16 e16 => ⟨_, rfl, ?_⟩)
    have z16 : v16 = 0 ∨ v16 = 1 := by omega
    have y16 : v16 = 1 ∨ v16 = 0 := by omega
    refine aw_if_ne cx 22 24 dX5_of_19 rfl (by decide) ⟨by omega, by omega⟩ (fun c19 => ?_) (fun c19 => ?_)
    · refine aw_aload_n cx 25 dX5_of_24 rfl rfl ?_
      refine aw_V0v cx 28 mX5_isEven (ci := 4) dX5_of_25 rfl okmX5_isEven lkX5_75 (by first | exact mm_0 | exact mm_1 | exact mm_2 | exact mm_3 | exact mm_4 | exact mm_5 | exact mm_6 | exact mm_7 | exact mm_8 | exact mm_9) ⟨rfl, by decide⟩ (zz_rc0 mX5_of hRm hNS rfl rfl) (Nat.le_of_ble_eq_true rfl) ?_
      refine s_X5_isEven hn hA hg (fun v25 A25 B25 e25 P25 => ⟨_, rfl, ?_⟩)
      refine aw_if_ne cx 31 34 dX5_of_28 rfl (by decide) ⟨by omega, by omega⟩ (fun c28 => ?_) (fun c28 => ?_)
      · have hz : fl n g = 0 := by omega
        have hP := P25 hz
        have hO : ∀ c, 0 ≤ c → c < 5 → c < rk n g → fp n g c ≠ -1 := fun c c0 c1 c2 => (fl_z (by omega) hz).2.1 c c0 c1 c2
        have oc := hO a (by omega) (by omega) (by omega)
        obtain ⟨pA, pB⟩ := hP a (by omega) (by omega) oc
        obtain ⟨f0, f1, f2⟩ := fp_col (n := n) (g := g) ⟨by omega, by omega⟩ oc
        refine aw_iload_n cx 35 dX5_of_34 rfl rfl ?_
        refine aw_if_ne cx 38 57 dX5_of_35 rfl (by decide) ⟨by omega, by omega⟩ (fun c35 => ?_) (fun c35 => ?_)
        · refine aw_aload_n cx 58 dX5_of_57 rfl rfl ?_
          refine aw_iload_n cx 59 dX5_of_58 rfl rfl ?_
          refine aw_V1v cx 62 mX5_degree (ci := 4) dX5_of_59 rfl okmX5_degree lkX5_82 (by first | exact mm_0 | exact mm_1 | exact mm_2 | exact mm_3 | exact mm_4 | exact mm_5 | exact mm_6 | exact mm_7 | exact mm_8 | exact mm_9) ⟨rfl, by decide⟩ (zz_rc0 mX5_of hRm hNS rfl rfl) (Nat.le_of_ble_eq_true rfl) ?_
          refine s_X5_degree hn hA hg ⟨by omega, by omega⟩ (fun v59 e59 => ⟨_, rfl, ?_⟩)
          refine aw_ireturn cx dX5_of_62 ?_
          refine hRet _ _ True.intro rfl ?_
          first
          | exact k _ _ (by unfold f_of; rw [if_pos (by omega), if_pos (by omega), if_pos (by omega), e51, q51]) (mp_mk hn hA hg hV)
          | exact k _ _ (by unfold f_of; rw [if_pos (by omega), if_pos (by omega), if_neg (by omega)]; exact e59) (mp_mk hn hA hg hV)
        · refine aw_aload_n cx 39 dX5_of_38 rfl rfl ?_
          refine aw_aload_n cx 40 dX5_of_39 rfl rfl ?_
          refine aw_getfield cx 43 dX5_of_40 rfl fdX5_26 (by first | exact mm_0 | exact mm_1 | exact mm_2 | exact mm_3 | exact mm_4 | exact mm_5 | exact mm_6 | exact mm_7 | exact mm_8 | exact mm_9) (by rfl) ?_
          refine aw_iload_n cx 44 dX5_of_43 rfl rfl ?_
          refine aw_iaload cx 45 dX5_of_44 rfl (by first | exact mm_0 | exact mm_1 | exact mm_2 | exact mm_3 | exact mm_4 | exact mm_5 | exact mm_6 | exact mm_7 | exact mm_8 | exact mm_9) ⟨by omega, by omega⟩ (by decide) ?_
          refine aw_aload_n cx 46 dX5_of_45 rfl rfl ?_
          refine aw_getfield cx 49 dX5_of_46 rfl fdX5_23 (by first | exact mm_0 | exact mm_1 | exact mm_2 | exact mm_3 | exact mm_4 | exact mm_5 | exact mm_6 | exact mm_7 | exact mm_8 | exact mm_9) (by rfl) ?_
          refine aw_iload_n cx 50 dX5_of_49 rfl rfl ?_
          refine aw_iaload cx 51 dX5_of_50 rfl (by first | exact mm_0 | exact mm_1 | exact mm_2 | exact mm_3 | exact mm_4 | exact mm_5 | exact mm_6 | exact mm_7 | exact mm_8 | exact mm_9) ⟨by omega, by omega⟩ (by decide) ?_
          refine aw_V2v cx 54 mX5_hue (ci := 4) dX5_of_51 rfl okmX5_hue lkX5_53 (by first | exact mm_0 | exact mm_1 | exact mm_2 | exact mm_3 | exact mm_4 | exact mm_5 | exact mm_6 | exact mm_7 | exact mm_8 | exact mm_9) ⟨rfl, by decide⟩ (zz_rc0 mX5_of hRm hNS rfl rfl) (Nat.le_of_ble_eq_true rfl) ?_
          refine s_X5_hue ⟨by omega, by omega⟩ ⟨by omega, by omega⟩ (fun v51 e51 => ⟨_, rfl, ?_⟩)
          rw [pA, pB] at e51
          have q51 := hA (fp n g a % 8) (fp n g a / 8) (by omega) (by omega) (by omega) (by omega)
          rw [← rv_f oc] at q51
          refine aw_goto cx 62 dX5_of_54 (by decide) ?_
          refine aw_ireturn cx dX5_of_62 ?_
          refine hRet _ _ True.intro rfl ?_
          first
          | exact k _ _ (by unfold f_of; rw [if_pos (by omega), if_pos (by omega), if_pos (by omega), e51, q51]) (mp_mk hn hA hg hV)
          | exact k _ _ (by unfold f_of; rw [if_pos (by omega), if_pos (by omega), if_neg (by omega)]; exact e59) (mp_mk hn hA hg hV)
      · refine aw_bipush cx 33 dX5_of_31 rfl (by decide +kernel) ?_
        refine aw_ireturn cx dX5_of_33 ?_
        refine hRet _ _ True.intro rfl ?_
        exact k _ _ (by unfold f_of; rw [if_pos (by omega), if_neg (by omega)]) (mp_mk hn hA hg hV)
    · refine aw_iconst cx 23 dX5_of_22 rfl ?_
      refine aw_ireturn cx dX5_of_23 ?_
      refine hRet _ _ True.intro rfl ?_
      exact k _ _ (by unfold f_of; rw [if_neg (by omega)]) (mp_mk hn hA hg hV)
set_option maxRecDepth 100000 in
set_option maxHeartbeats 4000000 in
theorem s_X5_order {h : AH} {Q : Option AV → AH → Prop} {n tr : Int} {g : Gr} {V : Int → Int} (hX : MI h n g V tr) {a : Int} (ha : R32 a) (k : ∀ v h', v = f_order n g a → MP h h' (n) (g) (V) (tr) → Q (some (vI v)) h') : MC mX5_order [vR 20, vI a] h Q := by
  obtain ⟨C, K, A, B, L, D, T, U, ⟨m0, m1, m2, m3, m4, m5, m6, m7, m8, m9⟩, hn, hA, hg, hV⟩ := hX
  rw [mm_in m0 m1 m2 m3 m4 m5 m6 m7 m8 m9]
  have hR := rk_b (n := n) (g := g) (by omega) hg
  refine mc_start mX5_order RX5 "order" ⟨rfl, rfl, by decide +kernel⟩ [some (vR 20), some (vI a)] ⟨0, rfl⟩ rfl (fun X cx hRm hNS hRet => ?_)
  refine aw_aload_n cx 1 dX5_order_0 rfl rfl ?_
  refine aw_iconst cx 2 dX5_order_1 rfl ?_
  refine aw_putfield cx 5 dX5_order_2 rfl fdX5_42 (by first | exact mm_0 | exact mm_1 | exact mm_2 | exact mm_3 | exact mm_4 | exact mm_5 | exact mm_6 | exact mm_7 | exact mm_8 | exact mm_9) (by exact Nat.le_of_ble_eq_true rfl) rfl ?_
  dsimp only [List.set]
  first | rw [my_0] | rw [my_1] | rw [my_2] | rw [my_3] | rw [my_4] | rw [my_5] | rw [my_6] | rw [my_7] | rw [my_8] | rw [my_9]
  refine aw_aload_n cx 6 dX5_order_5 rfl rfl ?_
  refine aw_iload_n cx 7 dX5_order_6 rfl rfl ?_
  refine aw_V1v cx 10 mX5_isSet (ci := 4) dX5_order_7 rfl okmX5_isSet lkX5_89 (by first | exact mm_0 | exact mm_1 | exact mm_2 | exact mm_3 | exact mm_4 | exact mm_5 | exact mm_6 | exact mm_7 | exact mm_8 | exact mm_9) ⟨rfl, by decide⟩ (zz_rc0 mX5_order hRm hNS rfl rfl) (Nat.le_of_ble_eq_true rfl) ?_
  refine s_X5_isSet hn hA hg (by assumption) (fun v7 e7 => ⟨_, rfl, ?_⟩)
  refine aw_if_ne cx 13 15 dX5_order_10 rfl (by decide) ⟨by omega, by omega⟩ (fun c10 => ?_) (fun c10 => ?_)
  · refine aw_aload_n cx 16 dX5_order_15 rfl rfl ?_
    refine aw_V0v cx 19 mX5_isEven (ci := 4) dX5_order_16 rfl okmX5_isEven lkX5_75 (by first | exact mm_0 | exact mm_1 | exact mm_2 | exact mm_3 | exact mm_4 | exact mm_5 | exact mm_6 | exact mm_7 | exact mm_8 | exact mm_9) ⟨rfl, by decide⟩ (zz_rc0 mX5_order hRm hNS rfl rfl) (Nat.le_of_ble_eq_true rfl) ?_
    refine s_X5_isEven hn hA hg (fun v16 A16 B16 e16 P16 => ⟨_, rfl, ?_⟩)
    refine aw_if_eq cx 22 34 dX5_order_19 rfl (by decide) ⟨by omega, by omega⟩ (fun c19 => ?_) (fun c19 => ?_)
    · refine aw_bipush cx 36 dX5_order_34 rfl (by decide +kernel) ?_
      refine aw_ireturn cx dX5_order_36 ?_
      refine hRet _ _ True.intro rfl ?_
      first
      | exact k _ _ (by unfold f_order; rw [if_pos (by omega), if_neg (by omega)]) (mp_mk hn hA hg hV)
      | exact k _ _ (by unfold f_order; rw [if_pos (by omega), if_pos (by omega), e28, e25]) (mp_mk hn hA hg hV)
    · have hz : fl n g = 0 := by omega
      have hP := P16 hz
      have hO : ∀ c, 0 ≤ c → c < 5 → c < rk n g → fp n g c ≠ -1 := fun c c0 c1 c2 => (fl_z (by omega) hz).2.1 c c0 c1 c2
      have hlt := shl_lt (v := a) (R := rk n g) ⟨by omega, by omega⟩ (by omega) (by omega)
      have lt1 := hlt.1
      have lt2 : blw n g a := hlt.2
      refine aw_aload_n cx 23 dX5_order_22 rfl rfl ?_
      refine aw_aload_n cx 24 dX5_order_23 rfl rfl ?_
      refine aw_iload_n cx 25 dX5_order_24 rfl rfl ?_
      refine aw_V1v cx 28 mX5_hull (ci := 4) dX5_order_25 rfl okmX5_hull lkX5_92 (by first | exact mm_0 | exact mm_1 | exact mm_2 | exact mm_3 | exact mm_4 | exact mm_5 | exact mm_6 | exact mm_7 | exact mm_8 | exact mm_9) ⟨rfl, by decide⟩ (zz_rc0 mX5_order hRm hNS rfl rfl) (Nat.le_of_ble_eq_true rfl) ?_
      refine s_X5_hull hn hA hg hP hO (by assumption) (by assumption) (fun v25 e25 => ⟨_, rfl, ?_⟩)
      refine aw_V1v cx 31 mX5_orderOf (ci := 4) dX5_order_28 rfl okmX5_orderOf lkX5_95 (by first | exact mm_0 | exact mm_1 | exact mm_2 | exact mm_3 | exact mm_4 | exact mm_5 | exact mm_6 | exact mm_7 | exact mm_8 | exact mm_9) ⟨rfl, by decide⟩ (zz_rc0 mX5_order hRm hNS rfl rfl) (Nat.le_of_ble_eq_true rfl) ?_
      refine s_X5_orderOf hn hA hg (fun v28 e28 => ⟨_, rfl, ?_⟩)
      refine aw_goto cx 36 dX5_order_31 (by decide) ?_
      refine aw_ireturn cx dX5_order_36 ?_
      refine hRet _ _ True.intro rfl ?_
      first
      | exact k _ _ (by unfold f_order; rw [if_pos (by omega), if_neg (by omega)]) (mp_mk hn hA hg hV)
      | exact k _ _ (by unfold f_order; rw [if_pos (by omega), if_pos (by omega), e28, e25]) (mp_mk hn hA hg hV)
  · refine aw_iconst cx 14 dX5_order_13 rfl ?_
    refine aw_ireturn cx dX5_order_14 ?_
    refine hRet _ _ True.intro rfl ?_
    exact k _ _ (by unfold f_order; rw [if_neg (by omega)]) (mp_mk hn hA hg hV)
set_option maxRecDepth 100000 in
set_option maxHeartbeats 4000000 in
theorem s_X5_weight {h : AH} {Q : Option AV → AH → Prop} {n tr : Int} {g : Gr} {V : Int → Int} (hX : MI h n g V tr) {a b : Int} (ha : R32 a) (hb : R32 b) (k : ∀ v h', v = f_weight V a b → MP h h' (n) (g) (v_weight V a b) (tr) → Q (some (vI v)) h') : MC mX5_weight [vR 20, vI a, vI b] h Q := by
  obtain ⟨C, K, A, B, L, D, T, U, ⟨m0, m1, m2, m3, m4, m5, m6, m7, m8, m9⟩, hn, hA, hg, hV⟩ := hX
  rw [mm_in m0 m1 m2 m3 m4 m5 m6 m7 m8 m9]
  have hR := rk_b (n := n) (g := g) (by omega) hg
  refine mc_start mX5_weight RX5 "weight" ⟨rfl, rfl, by decide +kernel⟩ [some (vR 20), some (vI a), some (vI b), none] ⟨1, rfl⟩ rfl (fun X cx hRm hNS hRet => ?_)
  refine aw_aload_n cx 1 dX5_weight_0 rfl rfl ?_
  refine aw_iconst cx 2 dX5_weight_1 rfl ?_
  refine aw_putfield cx 5 dX5_weight_2 rfl fdX5_42 (by first | exact mm_0 | exact mm_1 | exact mm_2 | exact mm_3 | exact mm_4 | exact mm_5 | exact mm_6 | exact mm_7 | exact mm_8 | exact mm_9) (by exact Nat.le_of_ble_eq_true rfl) rfl ?_
  dsimp only [List.set]
  first | rw [my_0] | rw [my_1] | rw [my_2] | rw [my_3] | rw [my_4] | rw [my_5] | rw [my_6] | rw [my_7] | rw [my_8] | rw [my_9]
  refine aw_iload_n cx 6 dX5_weight_5 rfl rfl ?_
  refine aw_iconst cx 7 dX5_weight_6 rfl ?_
  refine aw_iconst cx 8 dX5_weight_7 rfl ?_
  refine aw_S3v cx 11 mX5_in dX5_weight_8 rfl okmX5_in lkX5_45 (zz_rc0 mX5_weight hRm hNS rfl rfl) (Nat.le_of_ble_eq_true rfl) ?_
  refine s_X5_in (by first | assumption | exact ⟨by omega, by omega⟩) (by first | assumption | exact ⟨by omega, by omega⟩) (by first | assumption | exact ⟨by omega, by omega⟩) (fun v8 e8 => ⟨_, rfl, ?_⟩)
  have z8 : v8 = 0 ∨ v8 = 1 := by omega
  have y8 : v8 = 1 ∨ v8 = 0 := by omega
  refine aw_if_eq cx 14 24 dX5_weight_11 rfl (by decide) ⟨by omega, by omega⟩ (fun c11 => ?_) (fun c11 => ?_)
  · refine aw_iconst cx 25 dX5_weight_24 rfl ?_
    refine aw_ireturn cx dX5_weight_25 ?_
    refine hRet _ _ True.intro rfl ?_
    refine k _ _ (by unfold f_weight; rw [if_neg (by unfold ok_weight; omega)]) ?_
    unfold v_weight
    rw [if_neg (by unfold ok_weight; omega)]
    exact (mp_mk hn hA hg hV)
  · refine aw_iload_n cx 15 dX5_weight_14 rfl rfl ?_
    refine aw_iconst cx 16 dX5_weight_15 rfl ?_
    refine aw_bipush cx 18 dX5_weight_16 rfl (by decide +kernel) ?_
    refine aw_S3v cx 21 mX5_in dX5_weight_18 rfl okmX5_in lkX5_45 (zz_rc0 mX5_weight hRm hNS rfl rfl) (Nat.le_of_ble_eq_true rfl) ?_
    refine s_X5_in (by first | assumption | exact ⟨by omega, by omega⟩) (by first | assumption | exact ⟨by omega, by omega⟩) (by first | assumption | exact ⟨by omega, by omega⟩) (fun v18 e18 => ⟨_, rfl, ?_⟩)
    have z18 : v18 = 0 ∨ v18 = 1 := by omega
    have y18 : v18 = 1 ∨ v18 = 0 := by omega
    refine aw_if_ne cx 24 26 dX5_weight_21 rfl (by decide) ⟨by omega, by omega⟩ (fun c21 => ?_) (fun c21 => ?_)
    · refine aw_aload_n cx 27 dX5_weight_26 rfl rfl ?_
      refine aw_getfield cx 30 dX5_weight_27 rfl fdX5_20 (by first | exact mm_0 | exact mm_1 | exact mm_2 | exact mm_3 | exact mm_4 | exact mm_5 | exact mm_6 | exact mm_7 | exact mm_8 | exact mm_9) (by rfl) ?_
      refine aw_iload_n cx 31 dX5_weight_30 rfl rfl ?_
      refine aw_iaload cx 32 dX5_weight_31 rfl (by first | exact mm_0 | exact mm_1 | exact mm_2 | exact mm_3 | exact mm_4 | exact mm_5 | exact mm_6 | exact mm_7 | exact mm_8 | exact mm_9) ⟨by omega, by omega⟩ (by decide) ?_
      refine aw_istore_n cx 33 3 dX5_weight_32 rfl rfl ⟨Nat.le_of_ble_eq_true rfl, Nat.le_of_ble_eq_true rfl⟩ rfl ?_
      dsimp only [List.set]
      refine aw_aload_n cx 34 dX5_weight_33 rfl rfl ?_
      refine aw_getfield cx 37 dX5_weight_34 rfl fdX5_20 (by first | exact mm_0 | exact mm_1 | exact mm_2 | exact mm_3 | exact mm_4 | exact mm_5 | exact mm_6 | exact mm_7 | exact mm_8 | exact mm_9) (by rfl) ?_
      refine aw_iload_n cx 38 dX5_weight_37 rfl rfl ?_
      refine aw_iload_n cx 39 dX5_weight_38 rfl rfl ?_
      refine aw_iastore cx 40 dX5_weight_39 rfl (by first | exact mm_0 | exact mm_1 | exact mm_2 | exact mm_3 | exact mm_4 | exact mm_5 | exact mm_6 | exact mm_7 | exact mm_8 | exact mm_9) ⟨by omega, by omega⟩ (by decide) ?_
      first | rw [my_0] | rw [my_1] | rw [my_2] | rw [my_3] | rw [my_4] | rw [my_5] | rw [my_6] | rw [my_7] | rw [my_8] | rw [my_9]
      refine aw_iload_n cx 41 dX5_weight_40 rfl rfl ?_
      refine aw_ireturn cx dX5_weight_41 ?_
      refine hRet _ _ True.intro rfl ?_
      refine k _ _ (by unfold f_weight; rw [if_pos (by unfold ok_weight; omega)]) ?_
      unfold v_weight
      rw [if_pos (by unfold ok_weight; omega)]
      exact mp_mk hn hA hg (fun i i0 i1 => by
        unfold zz_up
        split
        · omega
        · exact hV i i0 i1)
    · refine aw_iconst cx 25 dX5_weight_24 rfl ?_
      refine aw_ireturn cx dX5_weight_25 ?_
      refine hRet _ _ True.intro rfl ?_
      refine k _ _ (by unfold f_weight; rw [if_neg (by unfold ok_weight; omega)]) ?_
      unfold v_weight
      rw [if_neg (by unfold ok_weight; omega)]
      exact (mp_mk hn hA hg hV)
set_option maxRecDepth 100000 in
set_option maxHeartbeats 4000000 in
theorem s_X5_sieve {h : AH} {Q : Option AV → AH → Prop} {n tr : Int} {g : Gr} {V : Int → Int} (hX : MI h n g V tr) {a b c d : Int} (ha : R32 a) (hb : R32 b) (hc : R32 c) (hd : R32 d) (k : ∀ v h', v = f_sieve a b c d → MP h h' (n) (g) (V) (tr) → Q (some (vI v)) h') : MC mX5_sieve [vR 20, vI a, vI b, vI c, vI d] h Q := by
  obtain ⟨C, K, A, B, L, D, T, U, ⟨m0, m1, m2, m3, m4, m5, m6, m7, m8, m9⟩, hn, hA, hg, hV⟩ := hX
  rw [mm_in m0 m1 m2 m3 m4 m5 m6 m7 m8 m9]
  have hR := rk_b (n := n) (g := g) (by omega) hg
  refine mc_start mX5_sieve RX5 "sieve" ⟨rfl, rfl, by decide +kernel⟩ [some (vR 20), some (vI a), some (vI b), some (vI c), some (vI d)] ⟨0, rfl⟩ rfl (fun X cx hRm hNS hRet => ?_)
  refine aw_aload_n cx 1 dX5_sieve_0 rfl rfl ?_
  refine aw_iconst cx 2 dX5_sieve_1 rfl ?_
  refine aw_putfield cx 5 dX5_sieve_2 rfl fdX5_42 (by first | exact mm_0 | exact mm_1 | exact mm_2 | exact mm_3 | exact mm_4 | exact mm_5 | exact mm_6 | exact mm_7 | exact mm_8 | exact mm_9) (by exact Nat.le_of_ble_eq_true rfl) rfl ?_
  dsimp only [List.set]
  first | rw [my_0] | rw [my_1] | rw [my_2] | rw [my_3] | rw [my_4] | rw [my_5] | rw [my_6] | rw [my_7] | rw [my_8] | rw [my_9]
  refine aw_iload_n cx 6 dX5_sieve_5 rfl rfl ?_
  refine aw_iconst cx 7 dX5_sieve_6 rfl ?_
  refine aw_sipush cx 10 dX5_sieve_7 rfl (by decide +kernel) ?_
  refine aw_S3v cx 13 mX5_in dX5_sieve_10 rfl okmX5_in lkX5_45 (zz_rc0 mX5_sieve hRm hNS rfl rfl) (Nat.le_of_ble_eq_true rfl) ?_
  refine s_X5_in (by first | assumption | exact ⟨by omega, by omega⟩) (by first | assumption | exact ⟨by omega, by omega⟩) (by first | assumption | exact ⟨by omega, by omega⟩) (fun v10 e10 => ⟨_, rfl, ?_⟩)
  have z10 : v10 = 0 ∨ v10 = 1 := by omega
  have y10 : v10 = 1 ∨ v10 = 0 := by omega
  refine aw_if_eq cx 16 59 dX5_sieve_13 rfl (by decide) ⟨by omega, by omega⟩ (fun c13 => ?_) (fun c13 => ?_)
  · refine aw_iconst cx 60 dX5_sieve_59 rfl ?_
    refine aw_ireturn cx dX5_sieve_60 ?_
    refine hRet _ _ True.intro rfl ?_
    first
    | exact k _ _ (by unfold f_sieve; rw [if_neg (by unfold svI; omega)]) (mp_mk hn hA hg hV)
    | exact k _ _ (by unfold f_sieve; rw [if_pos (by unfold svI; omega)]; exact e53) (mp_mk hn hA hg hV)
  · refine aw_iload_n cx 17 dX5_sieve_16 rfl rfl ?_
    refine aw_iconst cx 18 dX5_sieve_17 rfl ?_
    refine aw_iload_n cx 19 dX5_sieve_18 rfl rfl ?_
    refine aw_iconst cx 20 dX5_sieve_19 rfl ?_
    refine aw_isub cx 21 dX5_sieve_20 rfl ?_
    refine aw_S3v cx 24 mX5_in dX5_sieve_21 rfl okmX5_in lkX5_45 (zz_rc0 mX5_sieve hRm hNS rfl rfl) (Nat.le_of_ble_eq_true rfl) ?_
    refine s_X5_in (by first | assumption | exact ⟨by omega, by omega⟩) (by first | assumption | exact ⟨by omega, by omega⟩) (by first | assumption | exact ⟨by omega, by omega⟩) (fun v21 e21 => ⟨_, rfl, ?_⟩)
    have z21 : v21 = 0 ∨ v21 = 1 := by omega
    have y21 : v21 = 1 ∨ v21 = 0 := by omega
    refine aw_if_eq cx 27 59 dX5_sieve_24 rfl (by decide) ⟨by omega, by omega⟩ (fun c24 => ?_) (fun c24 => ?_)
    · refine aw_iconst cx 60 dX5_sieve_59 rfl ?_
      refine aw_ireturn cx dX5_sieve_60 ?_
      refine hRet _ _ True.intro rfl ?_
      first
      | exact k _ _ (by unfold f_sieve; rw [if_neg (by unfold svI; omega)]) (mp_mk hn hA hg hV)
      | exact k _ _ (by unfold f_sieve; rw [if_pos (by unfold svI; omega)]; exact e53) (mp_mk hn hA hg hV)
    · refine aw_iload_n cx 28 dX5_sieve_27 rfl rfl ?_
      refine aw_iconst cx 29 dX5_sieve_28 rfl ?_
      refine aw_iload_n cx 30 dX5_sieve_29 rfl rfl ?_
      refine aw_iconst cx 31 dX5_sieve_30 rfl ?_
      refine aw_isub cx 32 dX5_sieve_31 rfl ?_
      refine aw_S3v cx 35 mX5_in dX5_sieve_32 rfl okmX5_in lkX5_45 (zz_rc0 mX5_sieve hRm hNS rfl rfl) (Nat.le_of_ble_eq_true rfl) ?_
      refine s_X5_in (by first | assumption | exact ⟨by omega, by omega⟩) (by first | assumption | exact ⟨by omega, by omega⟩) (by first | assumption | exact ⟨by omega, by omega⟩) (fun v32 e32 => ⟨_, rfl, ?_⟩)
      have z32 : v32 = 0 ∨ v32 = 1 := by omega
      have y32 : v32 = 1 ∨ v32 = 0 := by omega
      refine aw_if_eq cx 38 59 dX5_sieve_35 rfl (by decide) ⟨by omega, by omega⟩ (fun c35 => ?_) (fun c35 => ?_)
      · refine aw_iconst cx 60 dX5_sieve_59 rfl ?_
        refine aw_ireturn cx dX5_sieve_60 ?_
        refine hRet _ _ True.intro rfl ?_
        first
        | exact k _ _ (by unfold f_sieve; rw [if_neg (by unfold svI; omega)]) (mp_mk hn hA hg hV)
        | exact k _ _ (by unfold f_sieve; rw [if_pos (by unfold svI; omega)]; exact e53) (mp_mk hn hA hg hV)
      · refine aw_iload cx 40 dX5_sieve_38 rfl rfl ?_
        refine aw_iconst cx 41 dX5_sieve_40 rfl ?_
        refine aw_iload_n cx 42 dX5_sieve_41 rfl rfl ?_
        refine aw_S3v cx 45 mX5_in dX5_sieve_42 rfl okmX5_in lkX5_45 (zz_rc0 mX5_sieve hRm hNS rfl rfl) (Nat.le_of_ble_eq_true rfl) ?_
        refine s_X5_in (by first | assumption | exact ⟨by omega, by omega⟩) (by first | assumption | exact ⟨by omega, by omega⟩) (by first | assumption | exact ⟨by omega, by omega⟩) (fun v42 e42 => ⟨_, rfl, ?_⟩)
        have z42 : v42 = 0 ∨ v42 = 1 := by omega
        have y42 : v42 = 1 ∨ v42 = 0 := by omega
        refine aw_if_eq cx 48 59 dX5_sieve_45 rfl (by decide) ⟨by omega, by omega⟩ (fun c45 => ?_) (fun c45 => ?_)
        · refine aw_iconst cx 60 dX5_sieve_59 rfl ?_
          refine aw_ireturn cx dX5_sieve_60 ?_
          refine hRet _ _ True.intro rfl ?_
          first
          | exact k _ _ (by unfold f_sieve; rw [if_neg (by unfold svI; omega)]) (mp_mk hn hA hg hV)
          | exact k _ _ (by unfold f_sieve; rw [if_pos (by unfold svI; omega)]; exact e53) (mp_mk hn hA hg hV)
        · refine aw_iload_n cx 49 dX5_sieve_48 rfl rfl ?_
          refine aw_iload_n cx 50 dX5_sieve_49 rfl rfl ?_
          refine aw_iload_n cx 51 dX5_sieve_50 rfl rfl ?_
          refine aw_iload cx 53 dX5_sieve_51 rfl rfl ?_
          refine aw_S4v cx 56 mX5_sieved dX5_sieve_53 rfl okmX5_sieved lkX5_122 (zz_rc0 mX5_sieve hRm hNS rfl rfl) (Nat.le_of_ble_eq_true rfl) ?_
          refine s_X5_sieved ⟨⟨by omega, by omega⟩, ⟨by omega, by omega⟩, ⟨by omega, by omega⟩, ⟨by omega, by omega⟩⟩ (fun v53 e53 => ⟨_, rfl, ?_⟩)
          refine aw_goto cx 60 dX5_sieve_56 (by decide) ?_
          refine aw_ireturn cx dX5_sieve_60 ?_
          refine hRet _ _ True.intro rfl ?_
          first
          | exact k _ _ (by unfold f_sieve; rw [if_neg (by unfold svI; omega)]) (mp_mk hn hA hg hV)
          | exact k _ _ (by unfold f_sieve; rw [if_pos (by unfold svI; omega)]; exact e53) (mp_mk hn hA hg hV)
set_option maxRecDepth 100000 in
set_option maxHeartbeats 4000000 in
theorem s_X5_many {h : AH} {Q : Option AV → AH → Prop} {n tr : Int} {g : Gr} {V : Int → Int} (hX : MI h n g V tr) {a : Int} (ha : R32 a) (k : ∀ v h', v = f_many a → MP h h' (n) (g) (V) (tr) → Q (some (vI v)) h') : MC mX5_many [vR 20, vI a] h Q := by
  obtain ⟨C, K, A, B, L, D, T, U, ⟨m0, m1, m2, m3, m4, m5, m6, m7, m8, m9⟩, hn, hA, hg, hV⟩ := hX
  rw [mm_in m0 m1 m2 m3 m4 m5 m6 m7 m8 m9]
  have hR := rk_b (n := n) (g := g) (by omega) hg
  refine mc_start mX5_many RX5 "many" ⟨rfl, rfl, by decide +kernel⟩ [some (vR 20), some (vI a), none, none, none, none] ⟨4, rfl⟩ rfl (fun X cx hRm hNS hRet => ?_)
  refine aw_aload_n cx 1 dX5_many_0 rfl rfl ?_
  refine aw_iconst cx 2 dX5_many_1 rfl ?_
  refine aw_putfield cx 5 dX5_many_2 rfl fdX5_42 (by first | exact mm_0 | exact mm_1 | exact mm_2 | exact mm_3 | exact mm_4 | exact mm_5 | exact mm_6 | exact mm_7 | exact mm_8 | exact mm_9) (by exact Nat.le_of_ble_eq_true rfl) rfl ?_
  dsimp only [List.set]
  first | rw [my_0] | rw [my_1] | rw [my_2] | rw [my_3] | rw [my_4] | rw [my_5] | rw [my_6] | rw [my_7] | rw [my_8] | rw [my_9]
  refine aw_iload_n cx 6 dX5_many_5 rfl rfl ?_
  refine aw_iconst cx 7 dX5_many_6 rfl ?_
  refine aw_bipush cx 9 dX5_many_7 rfl (by decide +kernel) ?_
  refine aw_S3v cx 12 mX5_in dX5_many_9 rfl okmX5_in lkX5_45 (zz_rc0 mX5_many hRm hNS rfl rfl) (Nat.le_of_ble_eq_true rfl) ?_
  refine s_X5_in (by first | assumption | exact ⟨by omega, by omega⟩) (by first | assumption | exact ⟨by omega, by omega⟩) (by first | assumption | exact ⟨by omega, by omega⟩) (fun v9 e9 => ⟨_, rfl, ?_⟩)
  have z9 : v9 = 0 ∨ v9 = 1 := by omega
  have y9 : v9 = 1 ∨ v9 = 0 := by omega
  refine aw_if_ne cx 15 17 dX5_many_12 rfl (by decide) ⟨by omega, by omega⟩ (fun c12 => ?_) (fun c12 => ?_)
  · refine aw_iconst cx 18 dX5_many_17 rfl ?_
    refine aw_istore_n cx 19 2 dX5_many_18 rfl rfl ⟨Nat.le_of_ble_eq_true rfl, Nat.le_of_ble_eq_true rfl⟩ rfl ?_
    dsimp only [List.set]
    refine aw_iconst cx 20 dX5_many_19 rfl ?_
    refine aw_istore_n cx 21 3 dX5_many_20 rfl rfl ⟨Nat.le_of_ble_eq_true rfl, Nat.le_of_ble_eq_true rfl⟩ rfl ?_
    dsimp only [List.set]
    have lp21 : ∀ (kf : Nat) (k1 s : Int), ((a - 1) / 2 + 1 - k1 < (kf : Int)) → (1 ≤ k1 ∧ k1 ≤ (a - 1) / 2 + 1) → s = mnk a (k1 - 1) 0 → AW X 21 [some (vR 20), some (vI (a)), some (vI (s)), some (vI (k1)), none, none] [] (hmd h n tr C K V A B L D T U) := by
      intro kf
      induction kf with
      | zero =>
        intro k1 s hk hk1 hs
        exfalso
        omega
      | succ kf ih21 =>
        intro k1 s hk hk1 hs
        refine aw_iconst cx 22 dX5_many_21 rfl ?_
        refine aw_iload_n cx 23 dX5_many_22 rfl rfl ?_
        refine aw_imul cx 24 dX5_many_23 rfl ?_
        refine aw_iload_n cx 25 dX5_many_24 rfl rfl ?_
        refine aw_iconst cx 26 dX5_many_25 rfl ?_
        refine aw_isub cx 27 dX5_many_26 rfl ?_
        refine aw_icmp_gt cx 30 93 dX5_many_27 rfl (by decide) ⟨⟨by omega, by omega⟩, ⟨by omega, by omega⟩⟩ (fun c27 => ?_) (fun c27 => ?_)
        · refine aw_iload_n cx 94 dX5_many_93 rfl rfl ?_
          refine aw_ireturn cx dX5_many_94 ?_
          refine hRet _ _ True.intro rfl ?_
          exact k _ _ (by unfold f_many; rw [if_pos (by omega), hs, show k1 - 1 = (a - 1) / 2 by omega]; rfl) (mp_mk hn hA hg hV)
        · refine aw_iload_n cx 31 dX5_many_30 rfl rfl ?_
          refine aw_iload_n cx 32 dX5_many_31 rfl rfl ?_
          refine aw_iconst cx 33 dX5_many_32 rfl ?_
          refine aw_isub cx 34 dX5_many_33 rfl ?_
          refine aw_icmp_gt cx 37 93 dX5_many_34 rfl (by decide) ⟨⟨by omega, by omega⟩, ⟨by omega, by omega⟩⟩ (fun c34 => ?_) (fun c34 => ?_)
          · first
            | (exfalso; omega)
            | (refine aw_iload_n cx 94 dX5_many_93 rfl rfl ?_
               refine aw_ireturn cx dX5_many_94 ?_
               refine hRet _ _ True.intro rfl ?_
               exact k _ _ (by unfold f_many; rw [if_pos (by omega), hs, show k1 - 1 = (a - 1) / 2 by omega]; rfl) (mp_mk hn hA hg hV))
          · refine aw_iconst cx 38 dX5_many_37 rfl ?_
            refine aw_istore cx 40 dX5_many_38 rfl ⟨Nat.le_of_ble_eq_true rfl, Nat.le_of_ble_eq_true rfl⟩ rfl ?_
            dsimp only [List.set]
            have lp40 : ∀ (kf : Nat) (l s2 : Int), (k1 - l < (kf : Int)) → (0 ≤ l ∧ l ≤ k1) → s2 = mnl a k1 l s → AW X 40 [some (vR 20), some (vI (a)), some (vI (s2)), some (vI (k1)), some (vI (l)), none] [] (hmd h n tr C K V A B L D T U) := by
              intro kf
              induction kf with
              | zero =>
                intro l s2 hk hl hs2
                exfalso
                omega
              | succ kf ih40 =>
                intro l s2 hk hl hs2
                refine aw_iload cx 42 dX5_many_40 rfl rfl ?_
                refine aw_iload_n cx 43 dX5_many_42 rfl rfl ?_
                refine aw_icmp_ge cx 46 87 dX5_many_43 rfl (by decide) ⟨⟨by omega, by omega⟩, ⟨by omega, by omega⟩⟩ (fun c43 => ?_) (fun c43 => ?_)
                · refine aw_iinc cx 90 dX5_many_87 rfl rfl (Nat.le_of_ble_eq_true rfl) rfl ?_
                  dsimp only [List.set]
                  refine aw_goto cx 21 dX5_many_90 (by decide) ?_
                  exact aw_weak (ih21 (k1 + 1) s2 (by omega) ⟨by omega, by omega⟩ (by rw [show k1 + 1 - 1 = k1 - 1 + 1 by omega, mnk_s (by omega), ← hs, show k1 - 1 + 1 = k1 by omega, hs2, show l = k1 by omega])) (by simp [zz_le])
                · refine aw_iconst cx 47 dX5_many_46 rfl ?_
                  refine aw_istore cx 49 dX5_many_47 rfl ⟨Nat.le_of_ble_eq_true rfl, Nat.le_of_ble_eq_true rfl⟩ rfl ?_
                  dsimp only [List.set]
                  have lp49 : ∀ (kf : Nat) (m s3 : Int), (k1 + 1 - m < (kf : Int)) → (0 ≤ m ∧ m ≤ k1 + 1) → s3 = mnm a k1 l m s2 → AW X 49 [some (vR 20), some (vI (a)), some (vI (s3)), some (vI (k1)), some (vI (l)), some (vI (m))] [] (hmd h n tr C K V A B L D T U) := by
                    intro kf
                    induction kf with
                    | zero =>
                      intro m s3 hk hm hs3
                      exfalso
                      omega
                    | succ kf ih49 =>
                      intro m s3 hk hm hs3
                      refine aw_iload cx 51 dX5_many_49 rfl rfl ?_
                      refine aw_iload_n cx 52 dX5_many_51 rfl rfl ?_
                      refine aw_icmp_gt cx 55 81 dX5_many_52 rfl (by decide) ⟨⟨by omega, by omega⟩, ⟨by omega, by omega⟩⟩ (fun c52 => ?_) (fun c52 => ?_)
                      · refine aw_iinc cx 84 dX5_many_81 rfl rfl (Nat.le_of_ble_eq_true rfl) rfl ?_
                        dsimp only [List.set]
                        refine aw_goto cx 40 dX5_many_84 (by decide) ?_
                        exact aw_weak (ih40 (l + 1) s3 (by omega) ⟨by omega, by omega⟩ (by rw [mnl_s hl.1, ← hs2, hs3, show m = k1 + 1 by omega])) (by simp [zz_le])
                      · refine aw_iload_n cx 56 dX5_many_55 rfl rfl ?_
                        refine aw_iload_n cx 57 dX5_many_56 rfl rfl ?_
                        refine aw_iload_n cx 58 dX5_many_57 rfl rfl ?_
                        refine aw_iload cx 60 dX5_many_58 rfl rfl ?_
                        refine aw_iload cx 62 dX5_many_60 rfl rfl ?_
                        refine aw_S4v cx 65 mX5_sieved dX5_many_62 rfl okmX5_sieved lkX5_122 (zz_rc0 mX5_many hRm hNS rfl rfl) (Nat.le_of_ble_eq_true rfl) ?_
                        refine s_X5_sieved ⟨⟨by omega, by omega⟩, ⟨by omega, by omega⟩, ⟨by omega, by omega⟩, ⟨by omega, by omega⟩⟩ (fun v62 e62 => ⟨_, rfl, ?_⟩)
                        have r62 := sv_r a k1 l m
                        refine aw_if_ne cx 68 72 dX5_many_65 rfl (by decide) ⟨by omega, by omega⟩ (fun c65 => ?_) (fun c65 => ?_)
                        · refine aw_iconst cx 73 dX5_many_72 rfl ?_
                          refine aw_iadd cx 74 dX5_many_73 rfl ?_
                          refine aw_istore_n cx 75 2 dX5_many_74 rfl rfl ⟨Nat.le_of_ble_eq_true rfl, Nat.le_of_ble_eq_true rfl⟩ rfl ?_
                          dsimp only [List.set]
                          refine aw_iinc cx 78 dX5_many_75 rfl rfl (Nat.le_of_ble_eq_true rfl) rfl ?_
                          dsimp only [List.set]
                          refine aw_goto cx 49 dX5_many_78 (by decide) ?_
                          exact ih49 (m + 1) _ (by omega) ⟨by omega, by omega⟩ (by rw [mnm_s hm.1]; first | (rw [if_pos (by omega)]; omega) | (rw [if_neg (by omega)]; omega))
                        · refine aw_iconst cx 69 dX5_many_68 rfl ?_
                          refine aw_goto cx 73 dX5_many_69 (by decide) ?_
                          refine aw_iadd cx 74 dX5_many_73 rfl ?_
                          refine aw_istore_n cx 75 2 dX5_many_74 rfl rfl ⟨Nat.le_of_ble_eq_true rfl, Nat.le_of_ble_eq_true rfl⟩ rfl ?_
                          dsimp only [List.set]
                          refine aw_iinc cx 78 dX5_many_75 rfl rfl (Nat.le_of_ble_eq_true rfl) rfl ?_
                          dsimp only [List.set]
                          refine aw_goto cx 49 dX5_many_78 (by decide) ?_
                          exact ih49 (m + 1) _ (by omega) ⟨by omega, by omega⟩ (by rw [mnm_s hm.1]; first | (rw [if_pos (by omega)]; omega) | (rw [if_neg (by omega)]; omega))
                  exact lp49 42 0 s2 (by omega) ⟨by omega, by omega⟩ rfl
            exact aw_weak (lp40 41 0 s (by omega) ⟨by omega, by omega⟩ rfl) (by simp [zz_le])
    exact aw_weak (lp21 21 1 0 (by omega) ⟨by omega, by omega⟩ rfl) (by simp [zz_le])
  · refine aw_iconst cx 16 dX5_many_15 rfl ?_
    refine aw_ireturn cx dX5_many_16 ?_
    refine hRet _ _ True.intro rfl ?_
    exact k _ _ (by unfold f_many; rw [if_neg (by omega)]) (mp_mk hn hA hg hV)
set_option maxRecDepth 100000 in
set_option maxHeartbeats 4000000 in
theorem s_X5_count {h : AH} {Q : Option AV → AH → Prop} {n tr : Int} {g : Gr} {V : Int → Int} (hX : MI h n g V tr) {a : Int} (ha : R32 a) (k : ∀ v h', v = f_count n g V a → MP h h' (n) (g) (V) (tr) → Q (some (vI v)) h') : MC mX5_count [vR 20, vI a] h Q := by
  obtain ⟨C, K, A, B, L, D, T, U, ⟨m0, m1, m2, m3, m4, m5, m6, m7, m8, m9⟩, hn, hA, hg, hV⟩ := hX
  rw [mm_in m0 m1 m2 m3 m4 m5 m6 m7 m8 m9]
  have hR := rk_b (n := n) (g := g) (by omega) hg
  refine mc_start mX5_count RX5 "count" ⟨rfl, rfl, by decide +kernel⟩ [some (vR 20), some (vI a)] ⟨0, rfl⟩ rfl (fun X cx hRm hNS hRet => ?_)
  refine aw_aload_n cx 1 dX5_count_0 rfl rfl ?_
  refine aw_iconst cx 2 dX5_count_1 rfl ?_
  refine aw_putfield cx 5 dX5_count_2 rfl fdX5_42 (by first | exact mm_0 | exact mm_1 | exact mm_2 | exact mm_3 | exact mm_4 | exact mm_5 | exact mm_6 | exact mm_7 | exact mm_8 | exact mm_9) (by exact Nat.le_of_ble_eq_true rfl) rfl ?_
  dsimp only [List.set]
  first | rw [my_0] | rw [my_1] | rw [my_2] | rw [my_3] | rw [my_4] | rw [my_5] | rw [my_6] | rw [my_7] | rw [my_8] | rw [my_9]
  refine aw_iload_n cx 6 dX5_count_5 rfl rfl ?_
  rcases (show a = 0 ∨ a = 1 ∨ a = 2 ∨ a = 3 ∨ (a < 0 ∨ 3 < a) by omega) with t6 | t6 | t6 | t6 | t6
  · subst t6
    refine aw_tableIn cx 36 (off := 30) dX5_count_6 (by assumption) ⟨by decide, by decide⟩ (by decide +kernel) (by decide) ?_
    refine aw_aload_n cx 37 dX5_count_36 rfl rfl ?_
    refine aw_getfield cx 40 dX5_count_37 rfl fdX5_7 (by first | exact mm_0 | exact mm_1 | exact mm_2 | exact mm_3 | exact mm_4 | exact mm_5 | exact mm_6 | exact mm_7 | exact mm_8 | exact mm_9) (by rfl) ?_
    refine aw_ireturn cx dX5_count_40 ?_
    refine hRet _ _ True.intro rfl ?_
    exact k _ _ (by rfl) (mp_mk hn hA hg hV)
  · subst t6
    refine aw_tableIn cx 41 (off := 35) dX5_count_6 (by assumption) ⟨by decide, by decide⟩ (by decide +kernel) (by decide) ?_
    refine aw_aload_n cx 42 dX5_count_41 rfl rfl ?_
    refine aw_V0v cx 45 mX5_rank (ci := 4) dX5_count_42 rfl okmX5_rank lkX5_61 (by first | exact mm_0 | exact mm_1 | exact mm_2 | exact mm_3 | exact mm_4 | exact mm_5 | exact mm_6 | exact mm_7 | exact mm_8 | exact mm_9) ⟨rfl, by decide⟩ (zz_rc0 mX5_count hRm hNS rfl rfl) (Nat.le_of_ble_eq_true rfl) ?_
    refine s_X5_rank hn hA hg (fun v42 e42 => ⟨_, rfl, ?_⟩)
    refine aw_ireturn cx dX5_count_45 ?_
    refine hRet _ _ True.intro rfl ?_
    exact k _ _ (by exact e42) (mp_mk hn hA hg hV)
  · subst t6
    refine aw_tableIn cx 46 (off := 40) dX5_count_6 (by assumption) ⟨by decide, by decide⟩ (by decide +kernel) (by decide) ?_
    refine aw_aload_n cx 47 dX5_count_46 rfl rfl ?_
    refine aw_V0v cx 50 mX5_isEven (ci := 4) dX5_count_47 rfl okmX5_isEven lkX5_75 (by first | exact mm_0 | exact mm_1 | exact mm_2 | exact mm_3 | exact mm_4 | exact mm_5 | exact mm_6 | exact mm_7 | exact mm_8 | exact mm_9) ⟨rfl, by decide⟩ (zz_rc0 mX5_count hRm hNS rfl rfl) (Nat.le_of_ble_eq_true rfl) ?_
    refine s_X5_isEven hn hA hg (fun v47 A47 B47 e47 P47 => ⟨_, rfl, ?_⟩)
    refine aw_if_eq cx 53 57 dX5_count_50 rfl (by decide) ⟨by omega, by omega⟩ (fun c50 => ?_) (fun c50 => ?_)
    · refine aw_iconst cx 58 dX5_count_57 rfl ?_
      refine aw_ireturn cx dX5_count_58 ?_
      refine hRet _ _ True.intro rfl ?_
      exact k _ _ (by show _ = if fl n g = 0 then 1 else 0; first | (rw [if_pos (by omega)]; done) | (rw [if_neg (by omega)]; done)) (mp_mk hn hA hg hV)
    · refine aw_iconst cx 54 dX5_count_53 rfl ?_
      refine aw_goto cx 58 dX5_count_54 (by decide) ?_
      refine aw_ireturn cx dX5_count_58 ?_
      refine hRet _ _ True.intro rfl ?_
      exact k _ _ (by show _ = if fl n g = 0 then 1 else 0; first | (rw [if_pos (by omega)]; done) | (rw [if_neg (by omega)]; done)) (mp_mk hn hA hg hV)
  · subst t6
    refine aw_tableIn cx 59 (off := 53) dX5_count_6 (by assumption) ⟨by decide, by decide⟩ (by decide +kernel) (by decide) ?_
    refine aw_aload_n cx 60 dX5_count_59 rfl rfl ?_
    refine aw_V0v cx 63 mX5_weights (ci := 4) dX5_count_60 rfl okmX5_weights lkX5_108 (by first | exact mm_0 | exact mm_1 | exact mm_2 | exact mm_3 | exact mm_4 | exact mm_5 | exact mm_6 | exact mm_7 | exact mm_8 | exact mm_9) ⟨rfl, by decide⟩ (zz_rc0 mX5_count hRm hNS rfl rfl) (Nat.le_of_ble_eq_true rfl) ?_
    refine s_X5_weights hn hA hg hV (fun v60 e60 => ⟨_, rfl, ?_⟩)
    refine aw_ireturn cx dX5_count_63 ?_
    refine hRet _ _ True.intro rfl ?_
    exact k _ _ (by exact e60) (mp_mk hn hA hg hV)
  · refine aw_tableOut cx 64 dX5_count_6 (by assumption) t6 (by decide) ?_
    refine aw_iconst cx 65 dX5_count_64 rfl ?_
    refine aw_ireturn cx dX5_count_65 ?_
    refine hRet _ _ True.intro rfl ?_
    exact k _ _ (by unfold f_count; rw [if_neg (by omega), if_neg (by omega), if_neg (by omega), if_neg (by omega)]) (mp_mk hn hA hg hV)
set_option maxRecDepth 100000 in
set_option maxHeartbeats 4000000 in
theorem s_X5_trace {h : AH} {Q : Option AV → AH → Prop} {n tr : Int} {g : Gr} {V : Int → Int} (hX : MI h n g V tr)  (k : ∀ v h', v = tr → MP h h' (n) (g) (V) (tr) → Q (some (vJ v)) h') : MC mX5_trace [vR 20] h Q := by
  obtain ⟨C, K, A, B, L, D, T, U, ⟨m0, m1, m2, m3, m4, m5, m6, m7, m8, m9⟩, hn, hA, hg, hV⟩ := hX
  rw [mm_in m0 m1 m2 m3 m4 m5 m6 m7 m8 m9]
  have hR := rk_b (n := n) (g := g) (by omega) hg
  refine mc_start mX5_trace RX5 "trace" ⟨rfl, rfl, by decide +kernel⟩ [some (vR 20)] ⟨0, rfl⟩ rfl (fun X cx hRm hNS hRet => ?_)
  refine aw_aload_n cx 1 dX5_trace_0 rfl rfl ?_
  refine aw_iconst cx 2 dX5_trace_1 rfl ?_
  refine aw_putfield cx 5 dX5_trace_2 rfl fdX5_42 (by first | exact mm_0 | exact mm_1 | exact mm_2 | exact mm_3 | exact mm_4 | exact mm_5 | exact mm_6 | exact mm_7 | exact mm_8 | exact mm_9) (by exact Nat.le_of_ble_eq_true rfl) rfl ?_
  dsimp only [List.set]
  first | rw [my_0] | rw [my_1] | rw [my_2] | rw [my_3] | rw [my_4] | rw [my_5] | rw [my_6] | rw [my_7] | rw [my_8] | rw [my_9]
  refine aw_aload_n cx 6 dX5_trace_5 rfl rfl ?_
  refine aw_getfield cx 9 dX5_trace_6 rfl fdX5_98 (by first | exact mm_0 | exact mm_1 | exact mm_2 | exact mm_3 | exact mm_4 | exact mm_5 | exact mm_6 | exact mm_7 | exact mm_8 | exact mm_9) (by rfl) ?_
  refine aw_lreturn cx dX5_trace_9 ?_
  refine hRet _ _ True.intro rfl ?_
  exact k _ _ (by rfl) (mp_mk hn hA hg hV)
