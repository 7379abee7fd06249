set_option maxRecDepth 100000 in
set_option maxHeartbeats 4000000 in
theorem s_X4_points {h : AH} {Q : Option AV → AH → Prop} {n tr : Int} {g : Gr} {V : Int → Int} (hX : XI h n g V tr) {a : Int} (ha : R32 a) (k : ∀ v h', v = f_points n a → XP h h' (n_points n a) (g_points g a) (V) (tr) → Q (some (vI v)) h') : MC mX4_points [vR 0, vI a] h Q := by
  refine mc_start mX4_points RX4 "points" ⟨rfl, rfl, by decide +kernel⟩ [some (vR 0), some (vI a), none] ⟨1, rfl⟩ rfl (fun X cx hRm hNS hRet => ?_)
  obtain ⟨p, q, C, F, Nu, Co, r, f, hXC, hM, hV⟩ := hX
  obtain ⟨hpq, g0, g1, ⟨c0, c1, c2, c3, c4⟩, -⟩ := id hXC
  obtain ⟨hn, hA, hg, hr, hf, hF, hN⟩ := id hM
  have hR := rk_b (n := n) (g := g) (by omega) hg
  refine aw_iload_n cx 1 dX4_points_0 rfl rfl ?_
  refine aw_iconst cx 2 dX4_points_1 rfl ?_
  refine aw_icmp_lt cx 5 11 dX4_points_2 rfl (by decide) ⟨⟨by omega, by omega⟩, ⟨by omega, by omega⟩⟩ (fun c2 => ?_) (fun c2 => ?_)
  · refine aw_iconst cx 12 dX4_points_11 rfl ?_
    refine aw_ireturn cx dX4_points_12 ?_
    refine hRet _ _ True.intro rfl ?_
    refine k _ _ (by unfold f_points; rw [if_neg (by omega)]) ?_
    unfold n_points g_points
    rw [if_neg (by omega), if_neg (by omega)]
    exact ⟨⟨p, q, C, F, Nu, Co, r, f, hXC, hM, hV⟩, xo_r _⟩
  · refine aw_iload_n cx 6 dX4_points_5 rfl rfl ?_
    refine aw_bipush cx 8 dX4_points_6 rfl (by decide +kernel) ?_
    refine aw_icmp_le cx 11 13 dX4_points_8 rfl (by decide) ⟨⟨by omega, by omega⟩, ⟨by omega, by omega⟩⟩ (fun c8 => ?_) (fun c8 => ?_)
    · refine aw_aload_n cx 14 dX4_points_13 rfl rfl ?_
      refine aw_getfield cx 17 dX4_points_14 rfl fdX4_30 (by first | assumption) (by rfl) ?_
      refine aw_getfield cx 20 dX4_points_17 rfl fdX4_45 (by first | assumption) (by rfl) ?_
      refine aw_istore_n cx 21 2 dX4_points_20 rfl rfl ⟨Nat.le_of_ble_eq_true rfl, Nat.le_of_ble_eq_true rfl⟩ rfl ?_
      dsimp only [List.set]
      refine aw_aload_n cx 22 dX4_points_21 rfl rfl ?_
      refine aw_getfield cx 25 dX4_points_22 rfl fdX4_30 (by first | assumption) (by rfl) ?_
      refine aw_iload_n cx 26 dX4_points_25 rfl rfl ?_
      refine aw_V1n cx 29 mX0_begin (ci := 0) dX4_points_26 rfl okmX0_begin lkX4_37 (by first | assumption) ⟨rfl, by decide⟩ (zz_rc0 mX4_points hRm hNS rfl rfl) (Nat.le_of_ble_eq_true rfl) ?_
      rw [xc_p hXC]
      refine s_X0_begin ⟨by omega, by omega⟩ (fun C26 F26 Nu26 Co26 r26 f26 m26 => ⟨rfl, ?_⟩)
      refine aw_iload_n cx 30 dX4_points_29 rfl rfl ?_
      refine aw_ireturn cx dX4_points_30 ?_
      refine hRet _ _ True.intro rfl ?_
      refine k _ _ (by unfold f_points; rw [if_pos (by omega)]) ?_
      unfold n_points g_points
      rw [if_pos (by omega), if_pos (by omega)]
      exact ⟨⟨p, q, _, _, _, _, _, _, xc_now hXC, m26, hV⟩, xo_col (by omega)⟩
    · refine aw_iconst cx 12 dX4_points_11 rfl ?_
      refine aw_ireturn cx dX4_points_12 ?_
      refine hRet _ _ True.intro rfl ?_
      refine k _ _ (by unfold f_points; rw [if_neg (by omega)]) ?_
      unfold n_points g_points
      rw [if_neg (by omega), if_neg (by omega)]
      exact ⟨⟨p, q, C, F, Nu, Co, r, f, hXC, hM, hV⟩, xo_r _⟩
set_option maxRecDepth 100000 in
set_option maxHeartbeats 4000000 in
theorem s_X4_colour {h : AH} {Q : Option AV → AH → Prop} {n tr : Int} {g : Gr} {V : Int → Int} (hX : XI h n g V tr) {a b c : Int} (ha : R32 a) (hb : R32 b) (hc : R32 c) (k : ∀ v h', v = f_colour n g a b c → XP h h' (n) (g_colour n g a b c) (V) (tr) → Q (some (vI v)) h') : MC mX4_colour [vR 0, vI a, vI b, vI c] h Q := by
  refine mc_start mX4_colour RX4 "colour" ⟨rfl, rfl, by decide +kernel⟩ [some (vR 0), some (vI a), some (vI b), some (vI c), none] ⟨1, rfl⟩ rfl (fun X cx hRm hNS hRet => ?_)
  obtain ⟨p, q, C, F, Nu, Co, r, f, hXC, hM, hV⟩ := hX
  obtain ⟨hpq, g0, g1, ⟨c0, c1, c2, c3, c4⟩, -⟩ := id hXC
  obtain ⟨hn, hA, hg, hr, hf, hF, hN⟩ := id hM
  have hR := rk_b (n := n) (g := g) (by omega) hg
  refine aw_aload_n cx 1 dX4_colour_0 rfl rfl ?_
  refine aw_iload_n cx 2 dX4_colour_1 rfl rfl ?_
  refine aw_V1v cx 5 mX4_isPoint (ci := 3) dX4_colour_2 rfl okmX4_isPoint lkX4_49 (by first | assumption | exact hc_0 | exact hc_1 | exact zz_gs _ _ _ | exact (hc_x (by omega)).trans (by assumption) | exact (zz_gn (by omega)).trans (by assumption)) ⟨rfl, by decide⟩ (zz_rc0 mX4_colour hRm hNS rfl rfl) (Nat.le_of_ble_eq_true rfl) ?_
  refine s_X4_isPoint (by assumption) (by assumption) hn (by assumption) (fun v2 e2 => ⟨_, rfl, ?_⟩)
  refine aw_if_eq cx 8 25 dX4_colour_5 rfl (by decide) ⟨by omega, by omega⟩ (fun c5 => ?_) (fun c5 => ?_)
  · refine aw_iconst cx 26 dX4_colour_25 rfl ?_
    refine aw_ireturn cx dX4_colour_26 ?_
    refine hRet _ _ True.intro rfl ?_
    refine k _ _ (by unfold f_colour; rw [if_neg (by unfold ok_colour; omega)]) ?_
    unfold g_colour
    rw [if_neg (by unfold ok_colour; omega)]
    exact ⟨⟨p, q, C, F, Nu, Co, r, f, hXC, hM, hV⟩, xo_r _⟩
  · refine aw_aload_n cx 9 dX4_colour_8 rfl rfl ?_
    refine aw_iload_n cx 10 dX4_colour_9 rfl rfl ?_
    refine aw_V1v cx 13 mX4_isPoint (ci := 3) dX4_colour_10 rfl okmX4_isPoint lkX4_49 (by first | assumption | exact hc_0 | exact hc_1 | exact zz_gs _ _ _ | exact (hc_x (by omega)).trans (by assumption) | exact (zz_gn (by omega)).trans (by assumption)) ⟨rfl, by decide⟩ (zz_rc0 mX4_colour hRm hNS rfl rfl) (Nat.le_of_ble_eq_true rfl) ?_
    refine s_X4_isPoint (by assumption) (by assumption) hn (by assumption) (fun v10 e10 => ⟨_, rfl, ?_⟩)
    refine aw_if_eq cx 16 25 dX4_colour_13 rfl (by decide) ⟨by omega, by omega⟩ (fun c13 => ?_) (fun c13 => ?_)
    · refine aw_iconst cx 26 dX4_colour_25 rfl ?_
      refine aw_ireturn cx dX4_colour_26 ?_
      refine hRet _ _ True.intro rfl ?_
      refine k _ _ (by unfold f_colour; rw [if_neg (by unfold ok_colour; omega)]) ?_
      unfold g_colour
      rw [if_neg (by unfold ok_colour; omega)]
      exact ⟨⟨p, q, C, F, Nu, Co, r, f, hXC, hM, hV⟩, xo_r _⟩
    · refine aw_iload_n cx 17 dX4_colour_16 rfl rfl ?_
      refine aw_if_lt cx 20 25 dX4_colour_17 rfl (by decide) ⟨by omega, by omega⟩ (fun c17 => ?_) (fun c17 => ?_)
      · refine aw_iconst cx 26 dX4_colour_25 rfl ?_
        refine aw_ireturn cx dX4_colour_26 ?_
        refine hRet _ _ True.intro rfl ?_
        refine k _ _ (by unfold f_colour; rw [if_neg (by unfold ok_colour; omega)]) ?_
        unfold g_colour
        rw [if_neg (by unfold ok_colour; omega)]
        exact ⟨⟨p, q, C, F, Nu, Co, r, f, hXC, hM, hV⟩, xo_r _⟩
      · refine aw_iload_n cx 21 dX4_colour_20 rfl rfl ?_
        refine aw_iconst cx 22 dX4_colour_21 rfl ?_
        refine aw_icmp_lt cx 25 27 dX4_colour_22 rfl (by decide) ⟨⟨by omega, by omega⟩, ⟨by omega, by omega⟩⟩ (fun c22 => ?_) (fun c22 => ?_)
        · refine aw_aload_n cx 28 dX4_colour_27 rfl rfl ?_
          refine aw_getfield cx 31 dX4_colour_28 rfl fdX4_30 (by first | assumption | exact hc_0 | exact hc_1 | exact zz_gs _ _ _ | exact (hc_x (by omega)).trans (by assumption) | exact (zz_gn (by omega)).trans (by assumption)) (by rfl) ?_
          refine aw_iload_n cx 32 dX4_colour_31 rfl rfl ?_
          refine aw_iload_n cx 33 dX4_colour_32 rfl rfl ?_
          refine aw_V2v cx 36 mX0_colourOf (ci := 0) dX4_colour_33 rfl okmX0_colourOf lkX4_53 (by first | assumption | exact hc_0 | exact hc_1 | exact zz_gs _ _ _ | exact (hc_x (by omega)).trans (by assumption) | exact (zz_gn (by omega)).trans (by assumption)) ⟨rfl, by decide⟩ (zz_rc0 mX4_colour hRm hNS rfl rfl) (Nat.le_of_ble_eq_true rfl) ?_
          refine s_X0_colourOf (by assumption) (by assumption) ⟨by omega, by omega⟩ ⟨by omega, by omega⟩ (fun v33 e33 => ⟨_, rfl, ?_⟩)
          refine aw_istore cx 38 dX4_colour_36 rfl ⟨Nat.le_of_ble_eq_true rfl, Nat.le_of_ble_eq_true rfl⟩ rfl ?_
          dsimp only [List.set]
          refine aw_aload_n cx 39 dX4_colour_38 rfl rfl ?_
          refine aw_getfield cx 42 dX4_colour_39 rfl fdX4_30 (by first | assumption | exact hc_0 | exact hc_1 | exact zz_gs _ _ _ | exact (hc_x (by omega)).trans (by assumption) | exact (zz_gn (by omega)).trans (by assumption)) (by rfl) ?_
          refine aw_iload_n cx 43 dX4_colour_42 rfl rfl ?_
          refine aw_iload_n cx 44 dX4_colour_43 rfl rfl ?_
          refine aw_iload_n cx 45 dX4_colour_44 rfl rfl ?_
          refine aw_V3n cx 48 mX0_paint (ci := 0) dX4_colour_45 rfl okmX0_paint lkX4_57 (by first | assumption | exact hc_0 | exact hc_1 | exact zz_gs _ _ _ | exact (hc_x (by omega)).trans (by assumption) | exact (zz_gn (by omega)).trans (by assumption)) ⟨rfl, by decide⟩ (zz_rc0 mX4_colour hRm hNS rfl rfl) (Nat.le_of_ble_eq_true rfl) ?_
          rw [xc_p hXC]
          refine s_X0_paint (by exact hc_0) (by exact hc_1) ⟨by omega, by omega⟩ ⟨by omega, by omega⟩ ⟨rfl, ?_⟩
          rw [hp_1]
          have hA2 : ag n (zz_up C (8 * a + b) c) (up2 g a b c) := fun x y x0 x1 y0 y1 => by
            rw [up_at ⟨by omega, by omega⟩ ⟨by omega, by omega⟩]
            unfold up2
            split
            · rfl
            · exact hA x y x0 x1 y0 y1
          have hG2 : rgn n (up2 g a b c) := fun x y x0 x1 y0 y1 => by
            unfold up2
            split
            · omega
            · exact hg x y x0 x1 y0 y1
          refine aw_aload_n cx 49 dX4_colour_48 rfl rfl ?_
          refine aw_getfield cx 52 dX4_colour_49 rfl fdX4_30 (by first | assumption | exact hc_0 | exact hc_1 | exact zz_gs _ _ _ | exact (hc_x (by omega)).trans (by assumption) | exact (zz_gn (by omega)).trans (by assumption)) (by rfl) ?_
          refine aw_V0n cx 55 mX0_measure (ci := 0) dX4_colour_52 rfl okmX0_measure lkX4_61 (by first | assumption | exact hc_0 | exact hc_1 | exact zz_gs _ _ _ | exact (hc_x (by omega)).trans (by assumption) | exact (zz_gn (by omega)).trans (by assumption)) ⟨rfl, by decide⟩ (zz_rc0 mX4_colour hRm hNS rfl rfl) (Nat.le_of_ble_eq_true rfl) ?_
          refine s_X0_measure hn hA2 hG2 (fun F52 Nu52 Co52 r52 f52 m52 => ⟨rfl, ?_⟩)
          refine aw_iload cx 57 dX4_colour_55 rfl rfl ?_
          refine aw_ireturn cx dX4_colour_57 ?_
          refine hRet _ _ True.intro rfl ?_
          refine k _ _ (by unfold f_colour; rw [if_pos (by unfold ok_colour; omega), e33, hA a b (by omega) (by omega) (by omega) (by omega)]) ?_
          unfold g_colour
          rw [if_pos (by unfold ok_colour; omega)]
          exact ⟨⟨p, q, _, _, _, _, _, _, xc_now hXC, m52, hV⟩, xo_col (by omega)⟩
        · refine aw_iconst cx 26 dX4_colour_25 rfl ?_
          refine aw_ireturn cx dX4_colour_26 ?_
          refine hRet _ _ True.intro rfl ?_
          refine k _ _ (by unfold f_colour; rw [if_neg (by unfold ok_colour; omega)]) ?_
          unfold g_colour
          rw [if_neg (by unfold ok_colour; omega)]
          exact ⟨⟨p, q, C, F, Nu, Co, r, f, hXC, hM, hV⟩, xo_r _⟩
theorem p5_s {n : Int} (h : 0 ≤ n) : p5 (n + 1) = p5 n * 5 := zi_s _ _ h
theorem p5_b {n : Int} (h : 0 ≤ n ∧ n ≤ 7) : 1 ≤ p5 n ∧ p5 n ≤ 78125 := by
  have p0 : p5 0 = 1 := by decide +kernel
  have p1 : p5 1 = 5 := by decide +kernel
  have p2 : p5 2 = 25 := by decide +kernel
  have p3 : p5 3 = 125 := by decide +kernel
  have p4 : p5 4 = 625 := by decide +kernel
  have p5' : p5 5 = 3125 := by decide +kernel
  have p6 : p5 6 = 15625 := by decide +kernel
  have p7 : p5 7 = 78125 := by decide +kernel
  rcases (show n = 0 ∨ n = 1 ∨ n = 2 ∨ n = 3 ∨ n = 4 ∨ n = 5 ∨ n = 6 ∨ n = 7 by omega) with e | e | e | e | e | e | e | e <;> rw [e] <;> omega
set_option maxRecDepth 100000 in
set_option maxHeartbeats 4000000 in
theorem s_X4_ring {h : AH} {Q : Option AV → AH → Prop} {n tr : Int} {g : Gr} {V : Int → Int} (hX : XI h n g V tr) {a : Int} (ha : R32 a) (k : ∀ v h', v = f_ring n a → XP h h' (n) (g_ring n g a) (V) (tr) → Q (some (vI v)) h') : MC mX4_ring [vR 0, vI a] h Q := by
  refine mc_start mX4_ring RX4 "ring" ⟨rfl, rfl, by decide +kernel⟩ [some (vR 0), some (vI a), none, none] ⟨2, rfl⟩ rfl (fun X cx hRm hNS hRet => ?_)
  obtain ⟨p, q, C, F, Nu, Co, r, f, hXC, hM, hV⟩ := hX
  obtain ⟨hpq, g0, g1, ⟨c0, c1, c2, c3, c4⟩, -⟩ := id hXC
  obtain ⟨hn, hA, hg, hr, hf, hF, hN⟩ := id hM
  have hR := rk_b (n := n) (g := g) (by omega) hg
  refine aw_iconst cx 1 dX4_ring_0 rfl ?_
  refine aw_istore_n cx 2 2 dX4_ring_1 rfl rfl ⟨Nat.le_of_ble_eq_true rfl, Nat.le_of_ble_eq_true rfl⟩ rfl ?_
  dsimp only [List.set]
  refine aw_iconst cx 3 dX4_ring_2 rfl ?_
  refine aw_istore_n cx 4 3 dX4_ring_3 rfl rfl ⟨Nat.le_of_ble_eq_true rfl, Nat.le_of_ble_eq_true rfl⟩ rfl ?_
  dsimp only [List.set]
  have lp4 : ∀ (kf : Nat) (s b : Int), (n - s < (kf : Int)) → (1 ≤ s ∧ s ≤ n) → b = p5 (s - 1) → AW X 4 [some (vR 0), some (vI a), some (vI b), some (vI s)] [] (h) := by
    intro kf
    induction kf with
    | zero =>
      intro s b hk hs hb
      exfalso
      omega
    | succ kf ih4 =>
      intro s b hk hs hb
      refine aw_iload_n cx 5 dX4_ring_4 rfl rfl ?_
      refine aw_aload_n cx 6 dX4_ring_5 rfl rfl ?_
      refine aw_getfield cx 9 dX4_ring_6 rfl fdX4_30 (by first | assumption | exact hc_0 | exact hc_1 | exact zz_gs _ _ _ | exact (hc_x (by omega)).trans (by assumption) | exact (zz_gn (by omega)).trans (by assumption)) (by rfl) ?_
      refine aw_getfield cx 12 dX4_ring_9 rfl fdX4_45 (by first | assumption | exact hc_0 | exact hc_1 | exact zz_gs _ _ _ | exact (hc_x (by omega)).trans (by assumption) | exact (zz_gn (by omega)).trans (by assumption)) (by rfl) ?_
      refine aw_icmp_ge cx 15 25 dX4_ring_12 rfl (by decide) ⟨⟨by omega, by omega⟩, ⟨by omega, by omega⟩⟩ (fun c12 => ?_) (fun c12 => ?_)
      · have hb2 : b = p5 (n - 1) := by rw [hb, show s = n by omega]
        have hb3 := p5_b (n := n - 1) ⟨by omega, by omega⟩
        refine aw_iload_n cx 26 dX4_ring_25 rfl rfl ?_
        refine aw_if_lt cx 29 34 dX4_ring_26 rfl (by decide) ⟨by omega, by omega⟩ (fun c26 => ?_) (fun c26 => ?_)
        · refine aw_iconst cx 35 dX4_ring_34 rfl ?_
          refine aw_ireturn cx dX4_ring_35 ?_
          refine hRet _ _ True.intro rfl ?_
          refine k _ _ (by unfold f_ring; rw [if_neg (by omega)]) ?_
          unfold g_ring
          rw [if_neg (by omega)]
          exact ⟨⟨p, q, C, F, Nu, Co, r, f, hXC, hM, hV⟩, xo_r _⟩
        · refine aw_iload_n cx 30 dX4_ring_29 rfl rfl ?_
          refine aw_iload_n cx 31 dX4_ring_30 rfl rfl ?_
          refine aw_icmp_lt cx 34 36 dX4_ring_31 rfl (by decide) ⟨⟨by omega, by omega⟩, ⟨by omega, by omega⟩⟩ (fun c31 => ?_) (fun c31 => ?_)
          · refine aw_aload_n cx 37 dX4_ring_36 rfl rfl ?_
            refine aw_getfield cx 40 dX4_ring_37 rfl fdX4_30 (by first | assumption | exact hc_0 | exact hc_1 | exact zz_gs _ _ _ | exact (hc_x (by omega)).trans (by assumption) | exact (zz_gn (by omega)).trans (by assumption)) (by rfl) ?_
            refine aw_iload_n cx 41 dX4_ring_40 rfl rfl ?_
            refine aw_V1n cx 44 mX0_paintRing (ci := 0) dX4_ring_41 rfl okmX0_paintRing lkX4_64 (by first | assumption | exact hc_0 | exact hc_1 | exact zz_gs _ _ _ | exact (hc_x (by omega)).trans (by assumption) | exact (zz_gn (by omega)).trans (by assumption)) ⟨rfl, by decide⟩ (zz_rc0 mX4_ring hRm hNS rfl rfl) (Nat.le_of_ble_eq_true rfl) ?_
            rw [xc_p hXC]
            refine s_X0_paintRing hn ⟨by omega, by omega⟩ (fun C41 F41 Nu41 Co41 r41 f41 m41 => ⟨rfl, ?_⟩)
            refine aw_aload_n cx 45 dX4_ring_44 rfl rfl ?_
            refine aw_V0v cx 48 mX4_isEven (ci := 3) dX4_ring_45 rfl okmX4_isEven lkX4_67 (by first | assumption | exact hc_0 | exact hc_1 | exact zz_gs _ _ _ | exact (hc_x (by omega)).trans (by assumption) | exact (zz_gn (by omega)).trans (by assumption)) ⟨rfl, by decide⟩ (zz_rc0 mX4_ring hRm hNS rfl rfl) (Nat.le_of_ble_eq_true rfl) ?_
            have hf41 := m41.2.2.2.2.1
            refine s_X4_isEven (by first | assumption | exact hc_0 | exact hc_1 | exact zz_gs _ _ _ | exact (hc_x (by omega)).trans (by assumption) | exact (zz_gn (by omega)).trans (by assumption)) (by first | assumption | exact hc_0 | exact hc_1 | exact zz_gs _ _ _ | exact (hc_x (by omega)).trans (by assumption) | exact (zz_gn (by omega)).trans (by assumption)) (by rw [hf41]; exact fl_b hn) (fun v45 e45 => ⟨_, rfl, ?_⟩)
            rw [hf41] at e45
            refine aw_if_eq cx 51 55 dX4_ring_48 rfl (by decide) ⟨by omega, by omega⟩ (fun c48 => ?_) (fun c48 => ?_)
            · refine aw_iconst cx 56 dX4_ring_55 rfl ?_
              refine aw_ireturn cx dX4_ring_56 ?_
              refine hRet _ _ True.intro rfl ?_
              refine k _ _ (by unfold f_ring; rw [if_pos (by omega)]; first | (rw [if_pos (by omega)]; done) | (rw [if_neg (by omega)]; done)) ?_
              unfold g_ring
              rw [if_pos (by omega)]
              exact ⟨⟨p, q, _, _, _, _, _, _, xc_now hXC, m41, hV⟩, xo_col (by omega)⟩
            · refine aw_iconst cx 52 dX4_ring_51 rfl ?_
              refine aw_goto cx 56 dX4_ring_52 (by decide) ?_
              refine aw_ireturn cx dX4_ring_56 ?_
              refine hRet _ _ True.intro rfl ?_
              refine k _ _ (by unfold f_ring; rw [if_pos (by omega)]; first | (rw [if_pos (by omega)]; done) | (rw [if_neg (by omega)]; done)) ?_
              unfold g_ring
              rw [if_pos (by omega)]
              exact ⟨⟨p, q, _, _, _, _, _, _, xc_now hXC, m41, hV⟩, xo_col (by omega)⟩
          · refine aw_iconst cx 35 dX4_ring_34 rfl ?_
            refine aw_ireturn cx dX4_ring_35 ?_
            refine hRet _ _ True.intro rfl ?_
            refine k _ _ (by unfold f_ring; rw [if_neg (by omega)]) ?_
            unfold g_ring
            rw [if_neg (by omega)]
            exact ⟨⟨p, q, C, F, Nu, Co, r, f, hXC, hM, hV⟩, xo_r _⟩
      · refine aw_iload_n cx 16 dX4_ring_15 rfl rfl ?_
        refine aw_iconst cx 17 dX4_ring_16 rfl ?_
        refine aw_imul cx 18 dX4_ring_17 rfl ?_
        refine aw_istore_n cx 19 2 dX4_ring_18 rfl rfl ⟨Nat.le_of_ble_eq_true rfl, Nat.le_of_ble_eq_true rfl⟩ rfl ?_
        dsimp only [List.set]
        refine aw_iinc cx 22 dX4_ring_19 rfl rfl (Nat.le_of_ble_eq_true rfl) rfl ?_
        dsimp only [List.set]
        refine aw_goto cx 4 dX4_ring_22 (by decide) ?_
        exact ih4 (s + 1) _ (by omega) ⟨by omega, by omega⟩ (by rw [hb, ← p5_s (by omega), show s - 1 + 1 = s + 1 - 1 by omega])
  exact lp4 9 1 1 (by omega) ⟨by omega, by omega⟩ rfl
set_option maxRecDepth 100000 in
set_option maxHeartbeats 4000000 in
theorem s_X4_weight {h : AH} {Q : Option AV → AH → Prop} {n tr : Int} {g : Gr} {V : Int → Int} (hX : XI h n g V tr) {a b : Int} (ha : R32 a) (hb : R32 b) (k : ∀ v h', v = f_weight V a b → XP h h' (n) (g) (v_weight V a b) (tr) → Q (some (vI v)) h') : MC mX4_weight [vR 0, vI a, vI b] h Q := by
  refine mc_start mX4_weight RX4 "weight" ⟨rfl, rfl, by decide +kernel⟩ [some (vR 0), some (vI a), some (vI b), none] ⟨1, rfl⟩ rfl (fun X cx hRm hNS hRet => ?_)
  obtain ⟨p, q, C, F, Nu, Co, r, f, hXC, hM, hV⟩ := hX
  obtain ⟨hpq, g0, g1, ⟨c0, c1, c2, c3, c4⟩, -⟩ := id hXC
  obtain ⟨hn, hA, hg, hr, hf, hF, hN⟩ := id hM
  have hR := rk_b (n := n) (g := g) (by omega) hg
  refine aw_iload_n cx 1 dX4_weight_0 rfl rfl ?_
  refine aw_if_lt cx 4 19 dX4_weight_1 rfl (by decide) ⟨by omega, by omega⟩ (fun c1 => ?_) (fun c1 => ?_)
  · refine aw_iconst cx 20 dX4_weight_19 rfl ?_
    refine aw_ireturn cx dX4_weight_20 ?_
    refine hRet _ _ True.intro rfl ?_
    refine k _ _ (by unfold f_weight; rw [if_neg (by unfold ok_weight; omega)]) ?_
    unfold v_weight
    rw [if_neg (by unfold ok_weight; omega)]
    exact ⟨⟨p, q, C, F, Nu, Co, r, f, hXC, hM, hV⟩, xo_r _⟩
  · refine aw_iload_n cx 5 dX4_weight_4 rfl rfl ?_
    refine aw_iconst cx 6 dX4_weight_5 rfl ?_
    refine aw_icmp_ge cx 9 19 dX4_weight_6 rfl (by decide) ⟨⟨by omega, by omega⟩, ⟨by omega, by omega⟩⟩ (fun c6 => ?_) (fun c6 => ?_)
    · refine aw_iconst cx 20 dX4_weight_19 rfl ?_
      refine aw_ireturn cx dX4_weight_20 ?_
      refine hRet _ _ True.intro rfl ?_
      refine k _ _ (by unfold f_weight; rw [if_neg (by unfold ok_weight; omega)]) ?_
      unfold v_weight
      rw [if_neg (by unfold ok_weight; omega)]
      exact ⟨⟨p, q, C, F, Nu, Co, r, f, hXC, hM, hV⟩, xo_r _⟩
    · refine aw_iload_n cx 10 dX4_weight_9 rfl rfl ?_
      refine aw_if_lt cx 13 19 dX4_weight_10 rfl (by decide) ⟨by omega, by omega⟩ (fun c10 => ?_) (fun c10 => ?_)
      · refine aw_iconst cx 20 dX4_weight_19 rfl ?_
        refine aw_ireturn cx dX4_weight_20 ?_
        refine hRet _ _ True.intro rfl ?_
        refine k _ _ (by unfold f_weight; rw [if_neg (by unfold ok_weight; omega)]) ?_
        unfold v_weight
        rw [if_neg (by unfold ok_weight; omega)]
        exact ⟨⟨p, q, C, F, Nu, Co, r, f, hXC, hM, hV⟩, xo_r _⟩
      · refine aw_iload_n cx 14 dX4_weight_13 rfl rfl ?_
        refine aw_bipush cx 16 dX4_weight_14 rfl (by decide +kernel) ?_
        refine aw_icmp_le cx 19 21 dX4_weight_16 rfl (by decide) ⟨⟨by omega, by omega⟩, ⟨by omega, by omega⟩⟩ (fun c16 => ?_) (fun c16 => ?_)
        · refine aw_aload_n cx 22 dX4_weight_21 rfl rfl ?_
          refine aw_getfield cx 25 dX4_weight_22 rfl fdX4_9 (by first | assumption) (by rfl) ?_
          refine aw_iload_n cx 26 dX4_weight_25 rfl rfl ?_
          refine aw_iaload cx 27 dX4_weight_26 rfl (by first | assumption) ⟨by omega, by omega⟩ (by decide) ?_
          refine aw_istore_n cx 28 3 dX4_weight_27 rfl rfl ⟨Nat.le_of_ble_eq_true rfl, Nat.le_of_ble_eq_true rfl⟩ rfl ?_
          dsimp only [List.set]
          refine aw_aload_n cx 29 dX4_weight_28 rfl rfl ?_
          refine aw_getfield cx 32 dX4_weight_29 rfl fdX4_9 (by first | assumption) (by rfl) ?_
          refine aw_iload_n cx 33 dX4_weight_32 rfl rfl ?_
          refine aw_iload_n cx 34 dX4_weight_33 rfl rfl ?_
          refine aw_iastore cx 35 dX4_weight_34 rfl (by first | assumption) ⟨by omega, by omega⟩ (by decide) ?_
          refine aw_iload_n cx 36 dX4_weight_35 rfl rfl ?_
          refine aw_ireturn cx dX4_weight_36 ?_
          refine hRet _ _ True.intro rfl ?_
          refine k _ _ (by unfold f_weight; rw [if_pos (by unfold ok_weight; omega)]) ?_
          unfold v_weight
          rw [if_pos (by unfold ok_weight; omega)]
          exact ⟨⟨p, q, C, F, Nu, Co, r, f, xc_V hXC, hM, fun i i0 i1 => by
            unfold zz_up
            split
            · omega
            · exact hV i i0 i1⟩, xo_put (by decide)⟩
        · refine aw_iconst cx 20 dX4_weight_19 rfl ?_
          refine aw_ireturn cx dX4_weight_20 ?_
          refine hRet _ _ True.intro rfl ?_
          refine k _ _ (by unfold f_weight; rw [if_neg (by unfold ok_weight; omega)]) ?_
          unfold v_weight
          rw [if_neg (by unfold ok_weight; omega)]
          exact ⟨⟨p, q, C, F, Nu, Co, r, f, hXC, hM, hV⟩, xo_r _⟩
set_option maxRecDepth 100000 in
set_option maxHeartbeats 4000000 in
theorem s_X4_sieve {h : AH} {Q : Option AV → AH → Prop} {n tr : Int} {g : Gr} {V : Int → Int} (hX : XI h n g V tr) {a b c d : Int} (ha : R32 a) (hb : R32 b) (hc : R32 c) (hd : R32 d) (k : ∀ v h', v = f_sieve a b c d → XP h h' (n) (g) (V) (tr) → Q (some (vI v)) h') : MC mX4_sieve [vR 0, vI a, vI b, vI c, vI d] h Q := by
  refine mc_start mX4_sieve RX4 "sieve" ⟨rfl, rfl, by decide +kernel⟩ [some (vR 0), some (vI a), some (vI b), some (vI c), some (vI d)] ⟨0, rfl⟩ rfl (fun X cx hRm hNS hRet => ?_)
  obtain ⟨p, q, C, F, Nu, Co, r, f, hXC, hM, hV⟩ := hX
  obtain ⟨hpq, g0, g1, ⟨c0, c1, c2, c3, c4⟩, -⟩ := id hXC
  obtain ⟨hn, hA, hg, hr, hf, hF, hN⟩ := id hM
  have hR := rk_b (n := n) (g := g) (by omega) hg
  refine aw_iload_n cx 1 dX4_sieve_0 rfl rfl ?_
  refine aw_iconst cx 2 dX4_sieve_1 rfl ?_
  refine aw_icmp_lt cx 5 24 dX4_sieve_2 rfl (by decide) ⟨⟨by omega, by omega⟩, ⟨by omega, by omega⟩⟩ (fun c2 => ?_) (fun c2 => ?_)
  · refine aw_iconst cx 25 dX4_sieve_24 rfl ?_
    refine aw_ireturn cx dX4_sieve_25 ?_
    refine hRet _ _ True.intro rfl ?_
    exact k _ _ (by unfold f_sieve; rw [if_neg (by unfold svI; omega)]) ⟨⟨p, q, C, F, Nu, Co, r, f, hXC, hM, hV⟩, xo_r _⟩
  · refine aw_iload_n cx 6 dX4_sieve_5 rfl rfl ?_
    refine aw_sipush cx 9 dX4_sieve_6 rfl (by decide +kernel) ?_
    refine aw_icmp_gt cx 12 24 dX4_sieve_9 rfl (by decide) ⟨⟨by omega, by omega⟩, ⟨by omega, by omega⟩⟩ (fun c9 => ?_) (fun c9 => ?_)
    · refine aw_iconst cx 25 dX4_sieve_24 rfl ?_
      refine aw_ireturn cx dX4_sieve_25 ?_
      refine hRet _ _ True.intro rfl ?_
      exact k _ _ (by unfold f_sieve; rw [if_neg (by unfold svI; omega)]) ⟨⟨p, q, C, F, Nu, Co, r, f, hXC, hM, hV⟩, xo_r _⟩
    · refine aw_iload_n cx 13 dX4_sieve_12 rfl rfl ?_
      refine aw_iconst cx 14 dX4_sieve_13 rfl ?_
      refine aw_icmp_lt cx 17 24 dX4_sieve_14 rfl (by decide) ⟨⟨by omega, by omega⟩, ⟨by omega, by omega⟩⟩ (fun c14 => ?_) (fun c14 => ?_)
      · refine aw_iconst cx 25 dX4_sieve_24 rfl ?_
        refine aw_ireturn cx dX4_sieve_25 ?_
        refine hRet _ _ True.intro rfl ?_
        exact k _ _ (by unfold f_sieve; rw [if_neg (by unfold svI; omega)]) ⟨⟨p, q, C, F, Nu, Co, r, f, hXC, hM, hV⟩, xo_r _⟩
      · refine aw_iload_n cx 18 dX4_sieve_17 rfl rfl ?_
        refine aw_iload_n cx 19 dX4_sieve_18 rfl rfl ?_
        refine aw_iconst cx 20 dX4_sieve_19 rfl ?_
        refine aw_isub cx 21 dX4_sieve_20 rfl ?_
        refine aw_icmp_le cx 24 26 dX4_sieve_21 rfl (by decide) ⟨⟨by omega, by omega⟩, ⟨by omega, by omega⟩⟩ (fun c21 => ?_) (fun c21 => ?_)
        · refine aw_iload_n cx 27 dX4_sieve_26 rfl rfl ?_
          refine aw_if_lt cx 30 48 dX4_sieve_27 rfl (by decide) ⟨by omega, by omega⟩ (fun c27 => ?_) (fun c27 => ?_)
          · refine aw_iconst cx 49 dX4_sieve_48 rfl ?_
            refine aw_ireturn cx dX4_sieve_49 ?_
            refine hRet _ _ True.intro rfl ?_
            exact k _ _ (by unfold f_sieve; rw [if_neg (by unfold svI; omega)]) ⟨⟨p, q, C, F, Nu, Co, r, f, hXC, hM, hV⟩, xo_r _⟩
          · refine aw_iload_n cx 31 dX4_sieve_30 rfl rfl ?_
            refine aw_iload_n cx 32 dX4_sieve_31 rfl rfl ?_
            refine aw_iconst cx 33 dX4_sieve_32 rfl ?_
            refine aw_isub cx 34 dX4_sieve_33 rfl ?_
            refine aw_icmp_gt cx 37 48 dX4_sieve_34 rfl (by decide) ⟨⟨by omega, by omega⟩, ⟨by omega, by omega⟩⟩ (fun c34 => ?_) (fun c34 => ?_)
            · refine aw_iconst cx 49 dX4_sieve_48 rfl ?_
              refine aw_ireturn cx dX4_sieve_49 ?_
              refine hRet _ _ True.intro rfl ?_
              exact k _ _ (by unfold f_sieve; rw [if_neg (by unfold svI; omega)]) ⟨⟨p, q, C, F, Nu, Co, r, f, hXC, hM, hV⟩, xo_r _⟩
            · refine aw_iload cx 39 dX4_sieve_37 rfl rfl ?_
              refine aw_if_lt cx 42 48 dX4_sieve_39 rfl (by decide) ⟨by omega, by omega⟩ (fun c39 => ?_) (fun c39 => ?_)
              · refine aw_iconst cx 49 dX4_sieve_48 rfl ?_
                refine aw_ireturn cx dX4_sieve_49 ?_
                refine hRet _ _ True.intro rfl ?_
                exact k _ _ (by unfold f_sieve; rw [if_neg (by unfold svI; omega)]) ⟨⟨p, q, C, F, Nu, Co, r, f, hXC, hM, hV⟩, xo_r _⟩
              · refine aw_iload cx 44 dX4_sieve_42 rfl rfl ?_
                refine aw_iload_n cx 45 dX4_sieve_44 rfl rfl ?_
                refine aw_icmp_le cx 48 50 dX4_sieve_45 rfl (by decide) ⟨⟨by omega, by omega⟩, ⟨by omega, by omega⟩⟩ (fun c45 => ?_) (fun c45 => ?_)
                · refine aw_iload_n cx 51 dX4_sieve_50 rfl rfl ?_
                  refine aw_iload_n cx 52 dX4_sieve_51 rfl rfl ?_
                  refine aw_iload_n cx 53 dX4_sieve_52 rfl rfl ?_
                  refine aw_iload cx 55 dX4_sieve_53 rfl rfl ?_
                  refine aw_S4v cx 58 mX2_firstFailure dX4_sieve_55 rfl okmX2_firstFailure lkX4_152 (zz_rc0 mX4_sieve hRm hNS rfl rfl) (Nat.le_of_ble_eq_true rfl) ?_
                  refine s_X2_firstFailure ⟨⟨by omega, by omega⟩, ⟨by omega, by omega⟩, ⟨by omega, by omega⟩, ⟨by omega, by omega⟩⟩ (fun v55 e55 => ⟨_, rfl, ?_⟩)
                  refine aw_ireturn cx dX4_sieve_58 ?_
                  refine hRet _ _ True.intro rfl ?_
                  exact k _ _ (by unfold f_sieve; rw [if_pos (by unfold svI; omega)]; exact e55) ⟨⟨p, q, C, F, Nu, Co, r, f, hXC, hM, hV⟩, xo_r _⟩
                · refine aw_iconst cx 49 dX4_sieve_48 rfl ?_
                  refine aw_ireturn cx dX4_sieve_49 ?_
                  refine hRet _ _ True.intro rfl ?_
                  exact k _ _ (by unfold f_sieve; rw [if_neg (by unfold svI; omega)]) ⟨⟨p, q, C, F, Nu, Co, r, f, hXC, hM, hV⟩, xo_r _⟩
        · refine aw_iconst cx 25 dX4_sieve_24 rfl ?_
          refine aw_ireturn cx dX4_sieve_25 ?_
          refine hRet _ _ True.intro rfl ?_
          exact k _ _ (by unfold f_sieve; rw [if_neg (by unfold svI; omega)]) ⟨⟨p, q, C, F, Nu, Co, r, f, hXC, hM, hV⟩, xo_r _⟩
set_option maxRecDepth 100000 in
set_option maxHeartbeats 4000000 in
theorem s_X4_many {h : AH} {Q : Option AV → AH → Prop} {n tr : Int} {g : Gr} {V : Int → Int} (hX : XI h n g V tr) {a : Int} (ha : R32 a) (k : ∀ v h', v = f_many a → XP h h' (n) (g) (V) (tr) → Q (some (vI v)) h') : MC mX4_many [vR 0, vI a] h Q := by
  refine mc_start mX4_many RX4 "many" ⟨rfl, rfl, by decide +kernel⟩ [some (vR 0), some (vI a), none, none, none, none] ⟨4, rfl⟩ rfl (fun X cx hRm hNS hRet => ?_)
  obtain ⟨p, q, C, F, Nu, Co, r, f, hXC, hM, hV⟩ := hX
  obtain ⟨hpq, g0, g1, ⟨c0, c1, c2, c3, c4⟩, -⟩ := id hXC
  obtain ⟨hn, hA, hg, hr, hf, hF, hN⟩ := id hM
  have hR := rk_b (n := n) (g := g) (by omega) hg
  refine aw_iload_n cx 1 dX4_many_0 rfl rfl ?_
  refine aw_iconst cx 2 dX4_many_1 rfl ?_
  refine aw_icmp_lt cx 5 11 dX4_many_2 rfl (by decide) ⟨⟨by omega, by omega⟩, ⟨by omega, by omega⟩⟩ (fun c2 => ?_) (fun c2 => ?_)
  · refine aw_iconst cx 12 dX4_many_11 rfl ?_
    refine aw_ireturn cx dX4_many_12 ?_
    refine hRet _ _ True.intro rfl ?_
    exact k _ _ (by unfold f_many; rw [if_neg (by omega)]) ⟨⟨p, q, C, F, Nu, Co, r, f, hXC, hM, hV⟩, xo_r _⟩
  · refine aw_iload_n cx 6 dX4_many_5 rfl rfl ?_
    refine aw_bipush cx 8 dX4_many_6 rfl (by decide +kernel) ?_
    refine aw_icmp_le cx 11 13 dX4_many_8 rfl (by decide) ⟨⟨by omega, by omega⟩, ⟨by omega, by omega⟩⟩ (fun c8 => ?_) (fun c8 => ?_)
    · refine aw_iconst cx 14 dX4_many_13 rfl ?_
      refine aw_istore_n cx 15 2 dX4_many_14 rfl rfl ⟨Nat.le_of_ble_eq_true rfl, Nat.le_of_ble_eq_true rfl⟩ rfl ?_
      dsimp only [List.set]
      refine aw_iconst cx 16 dX4_many_15 rfl ?_
      refine aw_istore_n cx 17 3 dX4_many_16 rfl rfl ⟨Nat.le_of_ble_eq_true rfl, Nat.le_of_ble_eq_true rfl⟩ rfl ?_
      dsimp only [List.set]
      have lp17 : ∀ (kf : Nat) (k1 s : Int), ((a - 1) / 2 + 1 - k1 < (kf : Int)) → (1 ≤ k1 ∧ k1 ≤ (a - 1) / 2 + 1) → s = mnk a (k1 - 1) 0 → AW X 17 [some (vR 0), some (vI a), some (vI s), some (vI k1), none, none] [] (h) := by
        intro kf
        induction kf with
        | zero =>
          intro k1 s hk hk1 hs
          exfalso
          omega
        | succ kf ih17 =>
          intro k1 s hk hk1 hs
          refine aw_iconst cx 18 dX4_many_17 rfl ?_
          refine aw_iload_n cx 19 dX4_many_18 rfl rfl ?_
          refine aw_imul cx 20 dX4_many_19 rfl ?_
          refine aw_iload_n cx 21 dX4_many_20 rfl rfl ?_
          refine aw_iconst cx 22 dX4_many_21 rfl ?_
          refine aw_isub cx 23 dX4_many_22 rfl ?_
          refine aw_icmp_gt cx 26 77 dX4_many_23 rfl (by decide) ⟨⟨by omega, by omega⟩, ⟨by omega, by omega⟩⟩ (fun c23 => ?_) (fun c23 => ?_)
          · refine aw_iload_n cx 78 dX4_many_77 rfl rfl ?_
            refine aw_ireturn cx dX4_many_78 ?_
            refine hRet _ _ True.intro rfl ?_
            exact k _ _ (by unfold f_many; rw [if_pos (by omega), hs, show k1 - 1 = (a - 1) / 2 by omega]; rfl) ⟨⟨p, q, C, F, Nu, Co, r, f, hXC, hM, hV⟩, xo_r _⟩
          · refine aw_iconst cx 27 dX4_many_26 rfl ?_
            refine aw_istore cx 29 dX4_many_27 rfl ⟨Nat.le_of_ble_eq_true rfl, Nat.le_of_ble_eq_true rfl⟩ rfl ?_
            dsimp only [List.set]
            have lp29 : ∀ (kf : Nat) (l s2 : Int), (k1 - l < (kf : Int)) → (0 ≤ l ∧ l ≤ k1) → s2 = mnl a k1 l s → AW X 29 [some (vR 0), some (vI a), some (vI s2), some (vI k1), some (vI l), none] [] (h) := by
              intro kf
              induction kf with
              | zero =>
                intro l s2 hk hl hs2
                exfalso
                omega
              | succ kf ih29 =>
                intro l s2 hk hl hs2
                refine aw_iload cx 31 dX4_many_29 rfl rfl ?_
                refine aw_iload_n cx 32 dX4_many_31 rfl rfl ?_
                refine aw_icmp_ge cx 35 71 dX4_many_32 rfl (by decide) ⟨⟨by omega, by omega⟩, ⟨by omega, by omega⟩⟩ (fun c32 => ?_) (fun c32 => ?_)
                · refine aw_iinc cx 74 dX4_many_71 rfl rfl (Nat.le_of_ble_eq_true rfl) rfl ?_
                  dsimp only [List.set]
                  refine aw_goto cx 17 dX4_many_74 (by decide) ?_
                  exact aw_weak (ih17 (k1 + 1) s2 (by omega) ⟨by omega, by omega⟩ (by rw [show k1 + 1 - 1 = k1 - 1 + 1 by omega, mnk_s (by omega), ← hs, show k1 - 1 + 1 = k1 by omega, hs2, show l = k1 by omega])) (by simp [zz_le])
                · refine aw_iconst cx 36 dX4_many_35 rfl ?_
                  refine aw_istore cx 38 dX4_many_36 rfl ⟨Nat.le_of_ble_eq_true rfl, Nat.le_of_ble_eq_true rfl⟩ rfl ?_
                  dsimp only [List.set]
                  have lp38 : ∀ (kf : Nat) (m s3 : Int), (k1 + 1 - m < (kf : Int)) → (0 ≤ m ∧ m ≤ k1 + 1) → s3 = mnm a k1 l m s2 → AW X 38 [some (vR 0), some (vI a), some (vI s3), some (vI k1), some (vI l), some (vI m)] [] (h) := by
                    intro kf
                    induction kf with
                    | zero =>
                      intro m s3 hk hm hs3
                      exfalso
                      omega
                    | succ kf ih38 =>
                      intro m s3 hk hm hs3
                      refine aw_iload cx 40 dX4_many_38 rfl rfl ?_
                      refine aw_iload_n cx 41 dX4_many_40 rfl rfl ?_
                      refine aw_icmp_gt cx 44 65 dX4_many_41 rfl (by decide) ⟨⟨by omega, by omega⟩, ⟨by omega, by omega⟩⟩ (fun c41 => ?_) (fun c41 => ?_)
                      · refine aw_iinc cx 68 dX4_many_65 rfl rfl (Nat.le_of_ble_eq_true rfl) rfl ?_
                        dsimp only [List.set]
                        refine aw_goto cx 29 dX4_many_68 (by decide) ?_
                        exact aw_weak (ih29 (l + 1) s3 (by omega) ⟨by omega, by omega⟩ (by rw [mnl_s hl.1, ← hs2, hs3, show m = k1 + 1 by omega])) (by simp [zz_le])
                      · refine aw_iload_n cx 45 dX4_many_44 rfl rfl ?_
                        refine aw_iload_n cx 46 dX4_many_45 rfl rfl ?_
                        refine aw_iload cx 48 dX4_many_46 rfl rfl ?_
                        refine aw_iload cx 50 dX4_many_48 rfl rfl ?_
                        refine aw_S4v cx 53 mX2_firstFailure dX4_many_50 rfl okmX2_firstFailure lkX4_152 (zz_rc0 mX4_many hRm hNS rfl rfl) (Nat.le_of_ble_eq_true rfl) ?_
                        refine s_X2_firstFailure ⟨⟨by omega, by omega⟩, ⟨by omega, by omega⟩, ⟨by omega, by omega⟩, ⟨by omega, by omega⟩⟩ (fun v50 e50 => ⟨_, rfl, ?_⟩)
                        have r50 := sv_r a k1 l m
                        refine aw_if_ne cx 56 59 dX4_many_53 rfl (by decide) ⟨by omega, by omega⟩ (fun c53 => ?_) (fun c53 => ?_)
                        · refine aw_iinc cx 62 dX4_many_59 rfl rfl (Nat.le_of_ble_eq_true rfl) rfl ?_
                          dsimp only [List.set]
                          refine aw_goto cx 38 dX4_many_62 (by decide) ?_
                          exact ih38 (m + 1) _ (by omega) ⟨by omega, by omega⟩ (by rw [mnm_s hm.1]; first | (rw [if_pos (by omega)]; omega) | (rw [if_neg (by omega)]; omega))
                        · refine aw_iinc cx 59 dX4_many_56 rfl rfl (Nat.le_of_ble_eq_true rfl) rfl ?_
                          dsimp only [List.set]
                          refine aw_iinc cx 62 dX4_many_59 rfl rfl (Nat.le_of_ble_eq_true rfl) rfl ?_
                          dsimp only [List.set]
                          refine aw_goto cx 38 dX4_many_62 (by decide) ?_
                          exact ih38 (m + 1) _ (by omega) ⟨by omega, by omega⟩ (by rw [mnm_s hm.1]; first | (rw [if_pos (by omega)]; omega) | (rw [if_neg (by omega)]; omega))
                  exact lp38 42 0 s2 (by omega) ⟨by omega, by omega⟩ rfl
            exact aw_weak (lp29 41 0 s (by omega) ⟨by omega, by omega⟩ rfl) (by simp [zz_le])
      exact aw_weak (lp17 21 1 0 (by omega) ⟨by omega, by omega⟩ rfl) (by simp [zz_le])
    · refine aw_iconst cx 12 dX4_many_11 rfl ?_
      refine aw_ireturn cx dX4_many_12 ?_
      refine hRet _ _ True.intro rfl ?_
      exact k _ _ (by unfold f_many; rw [if_neg (by omega)]) ⟨⟨p, q, C, F, Nu, Co, r, f, hXC, hM, hV⟩, xo_r _⟩
set_option maxRecDepth 100000 in
set_option maxHeartbeats 4000000 in
theorem s_X4_count {h : AH} {Q : Option AV → AH → Prop} {n tr : Int} {g : Gr} {V : Int → Int} (hX : XI h n g V tr) {a : Int} (ha : R32 a) (k : ∀ v h', v = f_count n g V a → XP h h' (n) (g) (V) (tr) → Q (some (vI v)) h') : MC mX4_count [vR 0, vI a] h Q := by
  refine mc_start mX4_count RX4 "count" ⟨rfl, rfl, by decide +kernel⟩ [some (vR 0), some (vI a)] ⟨0, rfl⟩ rfl (fun X cx hRm hNS hRet => ?_)
  obtain ⟨p, q, C, F, Nu, Co, r, f, hXC, hM, hV⟩ := hX
  obtain ⟨hpq, g0, g1, ⟨c0, c1, c2, c3, c4⟩, -⟩ := id hXC
  obtain ⟨hn, hA, hg, hr, hf, hF, hN⟩ := id hM
  have hR := rk_b (n := n) (g := g) (by omega) hg
  refine aw_iload_n cx 1 dX4_count_0 rfl rfl ?_
  rcases (show a = 0 ∨ a = 1 ∨ a = 2 ∨ a = 3 ∨ (a < 0 ∨ 3 < a) by omega) with t1 | t1 | t1 | t1 | t1
  · subst t1
    refine aw_tableIn cx 32 (off := 31) dX4_count_1 (by assumption) ⟨by decide, by decide⟩ (by decide +kernel) (by decide) ?_
    refine aw_aload_n cx 33 dX4_count_32 rfl rfl ?_
    refine aw_getfield cx 36 dX4_count_33 rfl fdX4_30 (by first | assumption) (by rfl) ?_
    refine aw_getfield cx 39 dX4_count_36 rfl fdX4_45 (by first | assumption) (by rfl) ?_
    refine aw_ireturn cx dX4_count_39 ?_
    refine hRet _ _ True.intro rfl ?_
    exact k _ _ (by rfl) ⟨⟨p, q, C, F, Nu, Co, r, f, hXC, hM, hV⟩, xo_r _⟩
  · subst t1
    refine aw_tableIn cx 40 (off := 39) dX4_count_1 (by assumption) ⟨by decide, by decide⟩ (by decide +kernel) (by decide) ?_
    refine aw_aload_n cx 41 dX4_count_40 rfl rfl ?_
    refine aw_getfield cx 44 dX4_count_41 rfl fdX4_30 (by first | assumption) (by rfl) ?_
    refine aw_getfield cx 47 dX4_count_44 rfl fdX4_158 (by first | assumption) (by rfl) ?_
    refine aw_ireturn cx dX4_count_47 ?_
    refine hRet _ _ True.intro rfl ?_
    exact k _ _ (by exact hr) ⟨⟨p, q, C, F, Nu, Co, r, f, hXC, hM, hV⟩, xo_r _⟩
  · subst t1
    refine aw_tableIn cx 48 (off := 47) dX4_count_1 (by assumption) ⟨by decide, by decide⟩ (by decide +kernel) (by decide) ?_
    refine aw_aload_n cx 49 dX4_count_48 rfl rfl ?_
    refine aw_V0v cx 52 mX4_isEven (ci := 3) dX4_count_49 rfl okmX4_isEven lkX4_67 (by first | assumption) ⟨rfl, by decide⟩ (zz_rc0 mX4_count hRm hNS rfl rfl) (Nat.le_of_ble_eq_true rfl) ?_
    refine s_X4_isEven (by assumption) (by assumption) (by rw [hf]; exact fl_b hn) (fun v49 e49 => ⟨_, rfl, ?_⟩)
    rw [hf] at e49
    refine aw_if_eq cx 55 59 dX4_count_52 rfl (by decide) ⟨by omega, by omega⟩ (fun c52 => ?_) (fun c52 => ?_)
    · refine aw_iconst cx 60 dX4_count_59 rfl ?_
      refine aw_ireturn cx dX4_count_60 ?_
      refine hRet _ _ True.intro rfl ?_
      exact k _ _ (by show _ = if fl n g = 0 then 1 else 0; first | (rw [if_pos (by omega)]; done) | (rw [if_neg (by omega)]; done)) ⟨⟨p, q, C, F, Nu, Co, r, f, hXC, hM, hV⟩, xo_r _⟩
    · refine aw_iconst cx 56 dX4_count_55 rfl ?_
      refine aw_goto cx 60 dX4_count_56 (by decide) ?_
      refine aw_ireturn cx dX4_count_60 ?_
      refine hRet _ _ True.intro rfl ?_
      exact k _ _ (by show _ = if fl n g = 0 then 1 else 0; first | (rw [if_pos (by omega)]; done) | (rw [if_neg (by omega)]; done)) ⟨⟨p, q, C, F, Nu, Co, r, f, hXC, hM, hV⟩, xo_r _⟩
  · subst t1
    refine aw_tableIn cx 61 (off := 60) dX4_count_1 (by assumption) ⟨by decide, by decide⟩ (by decide +kernel) (by decide) ?_
    refine aw_aload_n cx 62 dX4_count_61 rfl rfl ?_
    refine aw_V0v cx 65 mX4_weightBelowRank (ci := 3) dX4_count_62 rfl okmX4_weightBelowRank lkX4_132 (by first | assumption) ⟨rfl, by decide⟩ (zz_rc0 mX4_count hRm hNS rfl rfl) (Nat.le_of_ble_eq_true rfl) ?_
    refine s_X4_weightBelowRank (by assumption) (by assumption) (by assumption) ⟨by omega, by omega⟩ (fun v62 e62 => ⟨_, rfl, ?_⟩)
    rw [hr] at e62
    refine aw_ireturn cx dX4_count_65 ?_
    refine hRet _ _ True.intro rfl ?_
    exact k _ _ (by exact e62) ⟨⟨p, q, C, F, Nu, Co, r, f, hXC, hM, hV⟩, xo_r _⟩
  · refine aw_tableOut cx 66 dX4_count_1 (by assumption) t1 (by decide) ?_
    refine aw_iconst cx 67 dX4_count_66 rfl ?_
    refine aw_ireturn cx dX4_count_67 ?_
    refine hRet _ _ True.intro rfl ?_
    exact k _ _ (by unfold f_count; rw [if_neg (by omega), if_neg (by omega), if_neg (by omega), if_neg (by omega)]) ⟨⟨p, q, C, F, Nu, Co, r, f, hXC, hM, hV⟩, xo_r _⟩
