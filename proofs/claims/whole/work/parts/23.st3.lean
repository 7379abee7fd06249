set_option maxRecDepth 100000 in
set_option maxHeartbeats 4000000 in
theorem s_X4_worthByDegrees {h : AH} {Q : Option AV → AH → Prop} {n tr i : Int} {g : Gr} {V : Int → Int} (hX : XI h n g V tr) (hi : okc n g i) (hz : fl n g = 0)  (k : ∀ v h', v = dg n g i → XP h h' (n) (g) (V) (tr + 1) → Q (some (vI v)) h') : MC mX4_worthByDegrees [vR 0, vI i] h Q := by
  refine mc_start mX4_worthByDegrees RX4 "worthByDegrees" ⟨rfl, rfl, by decide +kernel⟩ [some (vR 0), some (vI i)] ⟨0, rfl⟩ rfl (fun X cx hRm hNS hRet => ?_)
  obtain ⟨p, q, C, F, Nu, Co, r, f, hXC, hM, hV⟩ := hX
  obtain ⟨hpq, g0, g1, ⟨c0, c1, c2, c3, c4⟩, -⟩ := id hXC
  obtain ⟨hn, hA, hg, hr, hf, hF, hN⟩ := id hM
  have hR := rk_b (n := n) (g := g) (by omega) hg
  refine aw_aload_n cx 1 dX4_worthByDegrees_0 rfl rfl ?_
  refine aw_dup cx 2 dX4_worthByDegrees_1 rfl rfl ?_
  refine aw_getfield cx 5 dX4_worthByDegrees_2 rfl fdX4_41 (by first | assumption | exact hc_0 | exact hc_1 | exact zz_gs _ _ _ | exact (hc_x (by omega)).trans (by assumption) | exact (zz_gn (by omega)).trans (by assumption)) (by rfl) ?_
  refine aw_lconst cx 6 1 dX4_worthByDegrees_5 rfl (by decide +kernel) ?_
  refine aw_ladd cx 7 dX4_worthByDegrees_6 rfl ?_
  refine aw_putfield cx 10 dX4_worthByDegrees_7 rfl fdX4_41 (by first | assumption | exact hc_0 | exact hc_1 | exact zz_gs _ _ _ | exact (hc_x (by omega)).trans (by assumption) | exact (zz_gn (by omega)).trans (by assumption)) (by exact Nat.le_of_ble_eq_true rfl) rfl ?_
  dsimp only [List.set]
  have hXC := xc_tr (tr' := tr + 1) hXC
  obtain ⟨hpq, g0, g1, ⟨c0, c1, c2, c3, c4⟩, -⟩ := id hXC
  have xo7 : xo h (zz_put h 0 (cST p q (tr + 1))) := xo_put (by decide)
  change AW X 10 _ _ (zz_put h 0 (cST p q (tr + 1)))
  generalize hh1 : zz_put h 0 (cST p q (tr + 1)) = h1 at *
  have hh2 : h1.1 = h.1 := by rw [← hh1]; rfl
  refine aw_aload_n cx 11 dX4_worthByDegrees_10 rfl rfl ?_
  refine aw_getfield cx 14 dX4_worthByDegrees_11 rfl fdX4_30 (by first | assumption | exact hc_0 | exact hc_1 | exact zz_gs _ _ _ | exact (hc_x (by omega)).trans (by assumption) | exact (zz_gn (by omega)).trans (by assumption)) (by rfl) ?_
  refine aw_iload_n cx 15 dX4_worthByDegrees_14 rfl rfl ?_
  refine aw_V1v cx 18 mX0_degreeOf (ci := 0) dX4_worthByDegrees_15 rfl okmX0_degreeOf lkX4_85 (by first | assumption | exact hc_0 | exact hc_1 | exact zz_gs _ _ _ | exact (hc_x (by omega)).trans (by assumption) | exact (zz_gn (by omega)).trans (by assumption)) ⟨rfl, by decide⟩ (zz_rc0 mX4_worthByDegrees hRm hNS hh2 rfl) (Nat.le_of_ble_eq_true rfl) ?_
  rw [xc_p hXC]
  refine s_X0_degreeOf hn hA hg ⟨by omega, by omega⟩ (fun v15 e15 => ⟨_, rfl, ?_⟩)
  rw [← xc_p hXC]
  refine aw_ireturn cx dX4_worthByDegrees_18 ?_
  refine hRet _ _ True.intro hh2 ?_
  exact k _ _ e15 ⟨⟨p, q, C, F, Nu, Co, r, f, hXC, hM, hV⟩, xo7⟩
set_option maxRecDepth 100000 in
set_option maxHeartbeats 4000000 in
theorem s_X4_worthByHulls {h : AH} {Q : Option AV → AH → Prop} {n tr i : Int} {g : Gr} {V : Int → Int} (hX : XI h n g V tr) (hi : okc n g i) (hz : fl n g = 0)  (k : ∀ v h', v = dg n g i * od n g (hl n g (zz_shl 1 i)) 5 → XP h h' (n) (g) (V) (tr + 10 + 1) → Q (some (vI v)) h') : MC mX4_worthByHulls [vR 0, vI i] h Q := by
  refine mc_start mX4_worthByHulls RX4 "worthByHulls" ⟨rfl, rfl, by decide +kernel⟩ [some (vR 0), some (vI i)] ⟨0, rfl⟩ rfl (fun X cx hRm hNS hRet => ?_)
  obtain ⟨p, q, C, F, Nu, Co, r, f, hXC, hM, hV⟩ := hX
  obtain ⟨hpq, g0, g1, ⟨c0, c1, c2, c3, c4⟩, -⟩ := id hXC
  obtain ⟨hn, hA, hg, hr, hf, hF, hN⟩ := id hM
  have hR := rk_b (n := n) (g := g) (by omega) hg
  refine aw_aload_n cx 1 dX4_worthByHulls_0 rfl rfl ?_
  refine aw_dup cx 2 dX4_worthByHulls_1 rfl rfl ?_
  refine aw_getfield cx 5 dX4_worthByHulls_2 rfl fdX4_41 (by first | assumption | exact hc_0 | exact hc_1 | exact zz_gs _ _ _ | exact (hc_x (by omega)).trans (by assumption) | exact (zz_gn (by omega)).trans (by assumption)) (by rfl) ?_
  refine aw_ldc2 cx 8 (10) dX4_worthByHulls_5 rfl klX4_164 (by decide +kernel) ?_
  refine aw_ladd cx 9 dX4_worthByHulls_8 rfl ?_
  refine aw_putfield cx 12 dX4_worthByHulls_9 rfl fdX4_41 (by first | assumption | exact hc_0 | exact hc_1 | exact zz_gs _ _ _ | exact (hc_x (by omega)).trans (by assumption) | exact (zz_gn (by omega)).trans (by assumption)) (by exact Nat.le_of_ble_eq_true rfl) rfl ?_
  dsimp only [List.set]
  have hXC := xc_tr (tr' := tr + 10) hXC
  obtain ⟨hpq, g0, g1, ⟨c0, c1, c2, c3, c4⟩, -⟩ := id hXC
  have xo7 : xo h (zz_put h 0 (cST p q (tr + 10))) := xo_put (by decide)
  change AW X 12 _ _ (zz_put h 0 (cST p q (tr + 10)))
  generalize hh1 : zz_put h 0 (cST p q (tr + 10)) = h1 at *
  have hh2 : h1.1 = h.1 := by rw [← hh1]; rfl
  refine aw_aload_n cx 13 dX4_worthByHulls_12 rfl rfl ?_
  refine aw_iload_n cx 14 dX4_worthByHulls_13 rfl rfl ?_
  refine aw_V1v cx 17 mX4_worthByDegrees (ci := 3) dX4_worthByHulls_14 rfl okmX4_worthByDegrees lkX4_107 (by first | assumption | exact hc_0 | exact hc_1 | exact zz_gs _ _ _ | exact (hc_x (by omega)).trans (by assumption) | exact (zz_gn (by omega)).trans (by assumption)) ⟨rfl, by decide⟩ (zz_rc0 mX4_worthByHulls hRm hNS hh2 rfl) (Nat.le_of_ble_eq_true rfl) ?_
  refine s_X4_worthByDegrees ⟨p, q, C, F, Nu, Co, r, f, hXC, hM, hV⟩ hi hz (fun v14 h14 e14 x14 => ⟨_, rfl, ?_⟩)
  obtain ⟨⟨p, q, C, F, Nu, Co, r, f, hXC, hM, hV⟩, xo14⟩ := x14
  obtain ⟨hpq, g0, g1, ⟨c0, c1, c2, c3, c4⟩, -⟩ := id hXC
  obtain ⟨hn, hA, hg, hr, hf, hF, hN⟩ := id hM
  have xo14b := xo_t xo7 xo14
  have hh3 : h14.1 = h.1 := xo14b.2
  have si := shl_b (k := i) ⟨by omega, by omega⟩
  have sb : blw n g (zz_shl 1 i) := fun j j0 j1 j2 q9 => by
    have := (bm_shl (k := i) (i := j) ⟨by omega, by omega⟩ ⟨j0, j1⟩).mp q9
    omega
  refine aw_aload_n cx 18 dX4_worthByHulls_17 rfl rfl ?_
  refine aw_getfield cx 21 dX4_worthByHulls_18 rfl fdX4_30 (by first | assumption | exact hc_0 | exact hc_1 | exact zz_gs _ _ _ | exact (hc_x (by omega)).trans (by assumption) | exact (zz_gn (by omega)).trans (by assumption)) (by rfl) ?_
  refine aw_aload_n cx 22 dX4_worthByHulls_21 rfl rfl ?_
  refine aw_getfield cx 25 dX4_worthByHulls_22 rfl fdX4_30 (by first | assumption | exact hc_0 | exact hc_1 | exact zz_gs _ _ _ | exact (hc_x (by omega)).trans (by assumption) | exact (zz_gn (by omega)).trans (by assumption)) (by rfl) ?_
  refine aw_iconst cx 26 dX4_worthByHulls_25 rfl ?_
  refine aw_iload_n cx 27 dX4_worthByHulls_26 rfl rfl ?_
  refine aw_ishl cx 28 dX4_worthByHulls_27 rfl ?_
  refine aw_V1v cx 31 mX0_hullOf (ci := 0) dX4_worthByHulls_28 rfl okmX0_hullOf lkX4_97 (by first | assumption | exact hc_0 | exact hc_1 | exact zz_gs _ _ _ | exact (hc_x (by omega)).trans (by assumption) | exact (zz_gn (by omega)).trans (by assumption)) ⟨rfl, by decide⟩ (zz_rc0 mX4_worthByHulls hRm hNS hh3 rfl) (Nat.le_of_ble_eq_true rfl) ?_
  rw [xc_p hXC]
  refine s_X0_hullOf hn hA hg hr (hN (by omega)) (by assumption) (by assumption) (fun v28 e28 => ⟨_, rfl, ?_⟩)
  rw [← xc_p hXC]
  refine aw_V1v cx 34 mX0_orderOf (ci := 0) dX4_worthByHulls_31 rfl okmX0_orderOf lkX4_104 (by first | assumption | exact hc_0 | exact hc_1 | exact zz_gs _ _ _ | exact (hc_x (by omega)).trans (by assumption) | exact (zz_gn (by omega)).trans (by assumption)) ⟨rfl, by decide⟩ (zz_rc0 mX4_worthByHulls hRm hNS hh3 rfl) (Nat.le_of_ble_eq_true rfl) ?_
  rw [xc_p hXC]
  refine s_X0_orderOf hn hA hg hr (hN (by omega)) (fun v31 e31 => ⟨_, rfl, ?_⟩)
  rw [← xc_p hXC]
  refine aw_imul cx 35 dX4_worthByHulls_34 rfl ?_
  refine aw_ireturn cx dX4_worthByHulls_35 ?_
  refine hRet _ _ True.intro hh3 ?_
  exact k _ _ (by rw [e14, e31, e28]) ⟨⟨p, q, C, F, Nu, Co, r, f, hXC, hM, hV⟩, xo14b⟩
set_option maxRecDepth 100000 in
set_option maxHeartbeats 4000000 in
theorem s_X4_worthByTriples {h : AH} {Q : Option AV → AH → Prop} {n tr i : Int} {g : Gr} {V : Int → Int} (hX : XI h n g V tr) (hi : okc n g i) (hz : fl n g = 0)  (k : ∀ v h', v = dg n g i * od n g (hl n g (zz_shl 1 i)) 5 + nu n g i i i → XP h h' (n) (g) (V) (tr + 100 + 10 + 1) → Q (some (vI v)) h') : MC mX4_worthByTriples [vR 0, vI i] h Q := by
  refine mc_start mX4_worthByTriples RX4 "worthByTriples" ⟨rfl, rfl, by decide +kernel⟩ [some (vR 0), some (vI i)] ⟨0, rfl⟩ rfl (fun X cx hRm hNS hRet => ?_)
  obtain ⟨p, q, C, F, Nu, Co, r, f, hXC, hM, hV⟩ := hX
  obtain ⟨hpq, g0, g1, ⟨c0, c1, c2, c3, c4⟩, -⟩ := id hXC
  obtain ⟨hn, hA, hg, hr, hf, hF, hN⟩ := id hM
  have hR := rk_b (n := n) (g := g) (by omega) hg
  refine aw_aload_n cx 1 dX4_worthByTriples_0 rfl rfl ?_
  refine aw_dup cx 2 dX4_worthByTriples_1 rfl rfl ?_
  refine aw_getfield cx 5 dX4_worthByTriples_2 rfl fdX4_41 (by first | assumption | exact hc_0 | exact hc_1 | exact zz_gs _ _ _ | exact (hc_x (by omega)).trans (by assumption) | exact (zz_gn (by omega)).trans (by assumption)) (by rfl) ?_
  refine aw_ldc2 cx 8 (100) dX4_worthByTriples_5 rfl klX4_166 (by decide +kernel) ?_
  refine aw_ladd cx 9 dX4_worthByTriples_8 rfl ?_
  refine aw_putfield cx 12 dX4_worthByTriples_9 rfl fdX4_41 (by first | assumption | exact hc_0 | exact hc_1 | exact zz_gs _ _ _ | exact (hc_x (by omega)).trans (by assumption) | exact (zz_gn (by omega)).trans (by assumption)) (by exact Nat.le_of_ble_eq_true rfl) rfl ?_
  dsimp only [List.set]
  have hXC := xc_tr (tr' := tr + 100) hXC
  obtain ⟨hpq, g0, g1, ⟨c0, c1, c2, c3, c4⟩, -⟩ := id hXC
  have xo7 : xo h (zz_put h 0 (cST p q (tr + 100))) := xo_put (by decide)
  change AW X 12 _ _ (zz_put h 0 (cST p q (tr + 100)))
  generalize hh1 : zz_put h 0 (cST p q (tr + 100)) = h1 at *
  have hh2 : h1.1 = h.1 := by rw [← hh1]; rfl
  refine aw_aload_n cx 13 dX4_worthByTriples_12 rfl rfl ?_
  refine aw_iload_n cx 14 dX4_worthByTriples_13 rfl rfl ?_
  refine aw_V1v cx 17 mX4_worthByHulls (ci := 3) dX4_worthByTriples_14 rfl okmX4_worthByHulls lkX4_110 (by first | assumption | exact hc_0 | exact hc_1 | exact zz_gs _ _ _ | exact (hc_x (by omega)).trans (by assumption) | exact (zz_gn (by omega)).trans (by assumption)) ⟨rfl, by decide⟩ (zz_rc0 mX4_worthByTriples hRm hNS hh2 rfl) (Nat.le_of_ble_eq_true rfl) ?_
  refine s_X4_worthByHulls ⟨p, q, C, F, Nu, Co, r, f, hXC, hM, hV⟩ hi hz (fun v14 h14 e14 x14 => ⟨_, rfl, ?_⟩)
  obtain ⟨⟨p, q, C, F, Nu, Co, r, f, hXC, hM, hV⟩, xo14⟩ := x14
  obtain ⟨hpq, g0, g1, ⟨c0, c1, c2, c3, c4⟩, -⟩ := id hXC
  obtain ⟨hn, hA, hg, hr, hf, hF, hN⟩ := id hM
  have xo14b := xo_t xo7 xo14
  have hh3 : h14.1 = h.1 := xo14b.2
  refine aw_aload_n cx 18 dX4_worthByTriples_17 rfl rfl ?_
  refine aw_getfield cx 21 dX4_worthByTriples_18 rfl fdX4_30 (by first | assumption | exact hc_0 | exact hc_1 | exact zz_gs _ _ _ | exact (hc_x (by omega)).trans (by assumption) | exact (zz_gn (by omega)).trans (by assumption)) (by rfl) ?_
  refine aw_iload_n cx 22 dX4_worthByTriples_21 rfl rfl ?_
  refine aw_iload_n cx 23 dX4_worthByTriples_22 rfl rfl ?_
  refine aw_iload_n cx 24 dX4_worthByTriples_23 rfl rfl ?_
  refine aw_V3v cx 27 mX0_numberOf (ci := 0) dX4_worthByTriples_24 rfl okmX0_numberOf lkX4_77 (by first | assumption | exact hc_0 | exact hc_1 | exact zz_gs _ _ _ | exact (hc_x (by omega)).trans (by assumption) | exact (zz_gn (by omega)).trans (by assumption)) ⟨rfl, by decide⟩ (zz_rc0 mX4_worthByTriples hRm hNS hh3 rfl) (Nat.le_of_ble_eq_true rfl) ?_
  refine s_X0_numberOf (by assumption) (by assumption) ⟨by omega, by omega⟩ ⟨by omega, by omega⟩ ⟨by omega, by omega⟩ (fun v24 e24 => ⟨_, rfl, ?_⟩)
  refine aw_iadd cx 28 dX4_worthByTriples_27 rfl ?_
  refine aw_ireturn cx dX4_worthByTriples_28 ?_
  refine hRet _ _ True.intro hh3 ?_
  exact k _ _ (by rw [e14, e24, hN (by omega) i i i (by omega) (by omega) (by omega) (by omega) (by omega) (by omega)]) ⟨⟨p, q, C, F, Nu, Co, r, f, hXC, hM, hV⟩, xo14b⟩
set_option maxRecDepth 100000 in
set_option maxHeartbeats 4000000 in
theorem s_X4_worth {h : AH} {Q : Option AV → AH → Prop} {n tr : Int} {g : Gr} {V : Int → Int} (hX : XI h n g V tr) {a b : Int} (ha : R32 a) (hb : R32 b) (k : ∀ v h', v = f_worth n g a b → XP h h' (n) (g) (V) (t_worth n g a b tr) → Q (some (vI v)) h') : MC mX4_worth [vR 0, vI a, vI b] h Q := by
  refine mc_start mX4_worth RX4 "worth" ⟨rfl, rfl, by decide +kernel⟩ [some (vR 0), some (vI a), some (vI b)] ⟨0, rfl⟩ rfl (fun X cx hRm hNS hRet => ?_)
  obtain ⟨p, q, C, F, Nu, Co, r, f, hXC, hM, hV⟩ := hX
  obtain ⟨hpq, g0, g1, ⟨c0, c1, c2, c3, c4⟩, -⟩ := id hXC
  obtain ⟨hn, hA, hg, hr, hf, hF, hN⟩ := id hM
  have hR := rk_b (n := n) (g := g) (by omega) hg
  refine aw_iload_n cx 1 dX4_worth_0 rfl rfl ?_
  refine aw_if_lt cx 4 17 dX4_worth_1 rfl (by decide) ⟨by omega, by omega⟩ (fun c1 => ?_) (fun c1 => ?_)
  · refine aw_iconst cx 18 dX4_worth_17 rfl ?_
    refine aw_ireturn cx dX4_worth_18 ?_
    refine hRet _ _ True.intro rfl ?_
    refine k _ _ (by unfold f_worth; rw [if_neg (by unfold ok_worth okc; omega)]) ?_
    unfold t_worth
    rw [if_neg (by unfold ok_worth okc; omega)]
    exact ⟨⟨p, q, C, F, Nu, Co, r, f, hXC, hM, hV⟩, xo_r _⟩
  · refine aw_iload_n cx 5 dX4_worth_4 rfl rfl ?_
    refine aw_iconst cx 6 dX4_worth_5 rfl ?_
    refine aw_icmp_gt cx 9 17 dX4_worth_6 rfl (by decide) ⟨⟨by omega, by omega⟩, ⟨by omega, by omega⟩⟩ (fun c6 => ?_) (fun c6 => ?_)
    · refine aw_iconst cx 18 dX4_worth_17 rfl ?_
      refine aw_ireturn cx dX4_worth_18 ?_
      refine hRet _ _ True.intro rfl ?_
      refine k _ _ (by unfold f_worth; rw [if_neg (by unfold ok_worth okc; omega)]) ?_
      unfold t_worth
      rw [if_neg (by unfold ok_worth okc; omega)]
      exact ⟨⟨p, q, C, F, Nu, Co, r, f, hXC, hM, hV⟩, xo_r _⟩
    · refine aw_aload_n cx 10 dX4_worth_9 rfl rfl ?_
      refine aw_iload_n cx 11 dX4_worth_10 rfl rfl ?_
      refine aw_V1v cx 14 mX4_isColour (ci := 3) dX4_worth_11 rfl okmX4_isColour lkX4_74 (by first | assumption) ⟨rfl, by decide⟩ (zz_rc0 mX4_worth hRm hNS rfl rfl) (Nat.le_of_ble_eq_true rfl) ?_
      refine s_X4_isColour (by assumption) (by assumption) ⟨by omega, by omega⟩ (by assumption) (fun v11 e11 => ⟨_, rfl, ?_⟩)
      refine aw_if_ne cx 17 19 dX4_worth_14 rfl (by decide) ⟨by omega, by omega⟩ (fun c14 => ?_) (fun c14 => ?_)
      · refine aw_aload_n cx 20 dX4_worth_19 rfl rfl ?_
        refine aw_V0v cx 23 mX4_isEven (ci := 3) dX4_worth_20 rfl okmX4_isEven lkX4_67 (by first | assumption) ⟨rfl, by decide⟩ (zz_rc0 mX4_worth hRm hNS rfl rfl) (Nat.le_of_ble_eq_true rfl) ?_
        refine s_X4_isEven (by assumption) (by assumption) (by rw [hf]; exact fl_b hn) (fun v20 e20 => ⟨_, rfl, ?_⟩)
        rw [hf] at e20
        refine aw_if_ne cx 26 29 dX4_worth_23 rfl (by decide) ⟨by omega, by omega⟩ (fun c23 => ?_) (fun c23 => ?_)
        · have hi : okc n g b := ⟨by omega, by omega⟩
          have hz : fl n g = 0 := by omega
          refine aw_iload_n cx 30 dX4_worth_29 rfl rfl ?_
          refine aw_if_ne cx 33 39 dX4_worth_30 rfl (by decide) ⟨by omega, by omega⟩ (fun c30 => ?_) (fun c30 => ?_)
          · refine aw_iload_n cx 40 dX4_worth_39 rfl rfl ?_
            refine aw_iconst cx 41 dX4_worth_40 rfl ?_
            refine aw_icmp_ne cx 44 52 dX4_worth_41 rfl (by decide) ⟨⟨by omega, by omega⟩, ⟨by omega, by omega⟩⟩ (fun c41 => ?_) (fun c41 => ?_)
            · refine aw_aload_n cx 53 dX4_worth_52 rfl rfl ?_
              refine aw_iload_n cx 54 dX4_worth_53 rfl rfl ?_
              refine aw_V1v cx 57 mX4_worthByTriples (ci := 3) dX4_worth_54 rfl okmX4_worthByTriples lkX4_113 (by first | assumption) ⟨rfl, by decide⟩ (zz_rc0 mX4_worth hRm hNS rfl rfl) (Nat.le_of_ble_eq_true rfl) ?_
              refine s_X4_worthByTriples ⟨p, q, C, F, Nu, Co, r, f, hXC, hM, hV⟩ hi hz (fun v54 h54 e54 x54 => ⟨_, rfl, ?_⟩)
              refine aw_ireturn cx dX4_worth_57 ?_
              refine hRet _ _ True.intro (by first | exact x46.2.2 | exact x54.2.2) ?_
              first
              | (refine k _ _ (by unfold f_worth; rw [if_pos (by unfold ok_worth okc; omega), if_pos hz, if_neg (by omega), if_pos (by omega)]; exact e46) ?_
                 unfold t_worth
                 rw [if_pos (by unfold ok_worth okc; omega), if_pos hz, if_neg (by omega), if_pos (by omega), show tr + 11 = tr + 10 + 1 by omega]
                 exact x46)
              | (refine k _ _ (by unfold f_worth; rw [if_pos (by unfold ok_worth okc; omega), if_pos hz, if_neg (by omega), if_neg (by omega)]; exact e54) ?_
                 unfold t_worth
                 rw [if_pos (by unfold ok_worth okc; omega), if_pos hz, if_neg (by omega), if_neg (by omega), show tr + 111 = tr + 100 + 10 + 1 by omega]
                 exact x54)
            · refine aw_aload_n cx 45 dX4_worth_44 rfl rfl ?_
              refine aw_iload_n cx 46 dX4_worth_45 rfl rfl ?_
              refine aw_V1v cx 49 mX4_worthByHulls (ci := 3) dX4_worth_46 rfl okmX4_worthByHulls lkX4_110 (by first | assumption) ⟨rfl, by decide⟩ (zz_rc0 mX4_worth hRm hNS rfl rfl) (Nat.le_of_ble_eq_true rfl) ?_
              refine s_X4_worthByHulls ⟨p, q, C, F, Nu, Co, r, f, hXC, hM, hV⟩ hi hz (fun v46 h46 e46 x46 => ⟨_, rfl, ?_⟩)
              refine aw_goto cx 57 dX4_worth_49 (by decide) ?_
              refine aw_ireturn cx dX4_worth_57 ?_
              refine hRet _ _ True.intro (by first | exact x46.2.2 | exact x54.2.2) ?_
              first
              | (refine k _ _ (by unfold f_worth; rw [if_pos (by unfold ok_worth okc; omega), if_pos hz, if_neg (by omega), if_pos (by omega)]; exact e46) ?_
                 unfold t_worth
                 rw [if_pos (by unfold ok_worth okc; omega), if_pos hz, if_neg (by omega), if_pos (by omega), show tr + 11 = tr + 10 + 1 by omega]
                 exact x46)
              | (refine k _ _ (by unfold f_worth; rw [if_pos (by unfold ok_worth okc; omega), if_pos hz, if_neg (by omega), if_neg (by omega)]; exact e54) ?_
                 unfold t_worth
                 rw [if_pos (by unfold ok_worth okc; omega), if_pos hz, if_neg (by omega), if_neg (by omega), show tr + 111 = tr + 100 + 10 + 1 by omega]
                 exact x54)
          · refine aw_aload_n cx 34 dX4_worth_33 rfl rfl ?_
            refine aw_iload_n cx 35 dX4_worth_34 rfl rfl ?_
            refine aw_V1v cx 38 mX4_worthByDegrees (ci := 3) dX4_worth_35 rfl okmX4_worthByDegrees lkX4_107 (by first | assumption) ⟨rfl, by decide⟩ (zz_rc0 mX4_worth hRm hNS rfl rfl) (Nat.le_of_ble_eq_true rfl) ?_
            refine s_X4_worthByDegrees ⟨p, q, C, F, Nu, Co, r, f, hXC, hM, hV⟩ hi hz (fun v35 h35 e35 x35 => ⟨_, rfl, ?_⟩)
            refine aw_ireturn cx dX4_worth_38 ?_
            refine hRet _ _ True.intro x35.2.2 ?_
            refine k _ _ (by unfold f_worth; rw [if_pos (by unfold ok_worth okc; omega), if_pos hz, if_pos (by omega)]; exact e35) ?_
            unfold t_worth
            rw [if_pos (by unfold ok_worth okc; omega), if_pos hz, if_pos (by omega)]
            exact x35
        · refine aw_bipush cx 28 dX4_worth_26 rfl (by decide +kernel) ?_
          refine aw_ireturn cx dX4_worth_28 ?_
          refine hRet _ _ True.intro rfl ?_
          refine k _ _ (by unfold f_worth; rw [if_pos (by unfold ok_worth okc; omega), if_neg (by omega)]) ?_
          unfold t_worth
          rw [if_pos (by unfold ok_worth okc; omega), if_neg (by omega)]
          exact ⟨⟨p, q, C, F, Nu, Co, r, f, hXC, hM, hV⟩, xo_r _⟩
      · refine aw_iconst cx 18 dX4_worth_17 rfl ?_
        refine aw_ireturn cx dX4_worth_18 ?_
        refine hRet _ _ True.intro rfl ?_
        refine k _ _ (by unfold f_worth; rw [if_neg (by unfold ok_worth okc; omega)]) ?_
        unfold t_worth
        rw [if_neg (by unfold ok_worth okc; omega)]
        exact ⟨⟨p, q, C, F, Nu, Co, r, f, hXC, hM, hV⟩, xo_r _⟩
set_option maxRecDepth 100000 in
set_option maxHeartbeats 4000000 in
theorem s_X4_mapsEveryColour {h : AH} {Q : Option AV → AH → Prop} {p q : Nat} {n r f tr : Int} (g0 : zz_get h 0 = cST p q tr) (gp : zz_get h p = cCol p n r f) {m : Int} (hr : 1 ≤ r ∧ r ≤ 5) (hm : 0 ≤ m ∧ m < 2147483648) (k : ∀ v, ((v = 1 ∧ ∀ c, 1 ≤ c → c < r → fz m c ≠ 0) ∨ (v = 0 ∧ ¬ ∀ c, 1 ≤ c → c < r → fz m c ≠ 0)) → Q (some (vI v)) h) : MC mX4_mapsEveryColour [vR 0, vI m] h Q := by
  refine mc_start mX4_mapsEveryColour RX4 "mapsEveryColour" ⟨rfl, rfl, by decide +kernel⟩ [some (vR 0), some (vI m), none] ⟨1, rfl⟩ rfl (fun X cx hRm hNS hRet => ?_)
  refine aw_iconst cx 1 dX4_mapsEveryColour_0 rfl ?_
  refine aw_istore_n cx 2 2 dX4_mapsEveryColour_1 rfl rfl ⟨Nat.le_of_ble_eq_true rfl, Nat.le_of_ble_eq_true rfl⟩ rfl ?_
  dsimp only [List.set]
  have lp2 : ∀ (kf : Nat) (c : Int), (r - c < (kf : Int)) → (1 ≤ c ∧ c ≤ r) → (∀ y, 1 ≤ y → y < c → fz m y ≠ 0) → AW X 2 [some (vR 0), some (vI m), some (vI c)] [] (h) := by
    intro kf
    induction kf with
    | zero =>
      intro c hk hc hy
      exfalso
      omega
    | succ kf ih2 =>
      intro c hk hc hy
      refine aw_iload_n cx 3 dX4_mapsEveryColour_2 rfl rfl ?_
      refine aw_aload_n cx 4 dX4_mapsEveryColour_3 rfl rfl ?_
      refine aw_getfield cx 7 dX4_mapsEveryColour_4 rfl fdX4_30 (by first | assumption) (by rfl) ?_
      refine aw_getfield cx 10 dX4_mapsEveryColour_7 rfl fdX4_158 (by first | assumption) (by rfl) ?_
      refine aw_icmp_ge cx 13 29 dX4_mapsEveryColour_10 rfl (by decide) ⟨⟨by omega, by omega⟩, ⟨by omega, by omega⟩⟩ (fun c10 => ?_) (fun c10 => ?_)
      · refine aw_iconst cx 30 dX4_mapsEveryColour_29 rfl ?_
        refine aw_ireturn cx dX4_mapsEveryColour_30 ?_
        refine hRet _ _ (by first | exact Or.inl rfl | exact Or.inr rfl | assumption) rfl ?_
        exact k _ (Or.inl ⟨rfl, fun c9 y0 y1 => hy c9 y0 (by omega)⟩)
      · refine aw_iload_n cx 14 dX4_mapsEveryColour_13 rfl rfl ?_
        refine aw_iload_n cx 15 dX4_mapsEveryColour_14 rfl rfl ?_
        refine aw_S2v cx 18 mX0_fusedColour dX4_mapsEveryColour_15 rfl okmX0_fusedColour lkX4_161 (zz_rc0 mX4_mapsEveryColour hRm hNS rfl rfl) (Nat.le_of_ble_eq_true rfl) ?_
        refine s_X0_fusedColour hm ⟨by omega, by omega⟩ (fun v15 e15 => ⟨_, rfl, ?_⟩)
        have b15 := fz_b (mp := m) (c := c) hm.1
        refine aw_if_ne cx 21 23 dX4_mapsEveryColour_18 rfl (by decide) ⟨by omega, by omega⟩ (fun c18 => ?_) (fun c18 => ?_)
        · refine aw_iinc cx 26 dX4_mapsEveryColour_23 rfl rfl (Nat.le_of_ble_eq_true rfl) rfl ?_
          dsimp only [List.set]
          refine aw_goto cx 2 dX4_mapsEveryColour_26 (by decide) ?_
          exact ih2 (c + 1) (by omega) ⟨by omega, by omega⟩ (fun y y0 y1 => by
            by_cases e : y = c
            · rw [e, ← e15]
              exact c18
            · exact hy y y0 (by omega))
        · refine aw_iconst cx 22 dX4_mapsEveryColour_21 rfl ?_
          refine aw_ireturn cx dX4_mapsEveryColour_22 ?_
          refine hRet _ _ (by first | exact Or.inl rfl | exact Or.inr rfl | assumption) rfl ?_
          exact k _ (Or.inr ⟨rfl, fun q9 => q9 c hc.1 (by omega) (by omega)⟩)
  exact lp2 6 1 (by omega) ⟨by omega, by omega⟩ (fun y y0 y1 => by omega)
set_option maxRecDepth 100000 in
set_option maxHeartbeats 4000000 in
theorem s_X4_takeSpare {h : AH} {Q : Option AV → AH → Prop} {p q : Nat} {tr : Int} (g0 : zz_get h 0 = cST p q tr) (k : Q none (zz_put h 0 (cST q p tr))) : MC mX4_takeSpare [vR 0] h Q := by
  refine mc_start mX4_takeSpare RX4 "takeSpare" ⟨rfl, rfl, by decide +kernel⟩ [some (vR 0), none] ⟨1, rfl⟩ rfl (fun X cx hRm hNS hRet => ?_)
  refine aw_aload_n cx 1 dX4_takeSpare_0 rfl rfl ?_
  refine aw_getfield cx 4 dX4_takeSpare_1 rfl fdX4_30 (by first | assumption | exact zz_gs _ _ _) (by rfl) ?_
  refine aw_astore_n cx 5 1 dX4_takeSpare_4 rfl rfl ⟨Nat.le_of_ble_eq_true rfl, Nat.le_of_ble_eq_true rfl⟩ rfl ?_
  dsimp only [List.set]
  refine aw_aload_n cx 6 dX4_takeSpare_5 rfl rfl ?_
  refine aw_aload_n cx 7 dX4_takeSpare_6 rfl rfl ?_
  refine aw_getfield cx 10 dX4_takeSpare_7 rfl fdX4_34 (by first | assumption | exact zz_gs _ _ _) (by rfl) ?_
  refine aw_putfield cx 13 dX4_takeSpare_10 rfl fdX4_30 (by first | assumption | exact zz_gs _ _ _) (by exact Nat.le_of_ble_eq_true rfl) rfl ?_
  dsimp only [List.set]
  refine aw_aload_n cx 14 dX4_takeSpare_13 rfl rfl ?_
  refine aw_aload_n cx 15 dX4_takeSpare_14 rfl rfl ?_
  refine aw_putfield cx 18 dX4_takeSpare_15 rfl fdX4_34 (by first | assumption | exact zz_gs _ _ _) (by exact Nat.le_of_ble_eq_true rfl) rfl ?_
  dsimp only [List.set]
  refine aw_return cx dX4_takeSpare_18 ?_
  refine hRet _ _ rfl rfl ?_
  rw [zz_put_put]
  exact k
set_option maxRecDepth 100000 in
set_option maxHeartbeats 4000000 in
theorem s_X4_fuse {h : AH} {Q : Option AV → AH → Prop} {n tr : Int} {g : Gr} {V : Int → Int} (hX : XI h n g V tr) {a : Int} (ha : R32 a) (k : ∀ v h', v = f_fuse n g a → XP h h' (n) (g_fuse n g a) (V) (tr) → Q (some (vI v)) h') : MC mX4_fuse [vR 0, vI a] h Q := by
  refine mc_start mX4_fuse RX4 "fuse" ⟨rfl, rfl, by decide +kernel⟩ [some (vR 0), some (vI a)] ⟨0, rfl⟩ rfl (fun X cx hRm hNS hRet => ?_)
  obtain ⟨p, q, C, F, Nu, Co, r, f, hXC, hM, hV⟩ := hX
  obtain ⟨hpq, g0, g1, ⟨c0, c1, c2, c3, c4⟩, -⟩ := id hXC
  obtain ⟨hn, hA, hg, hr, hf, hF, hN⟩ := id hM
  have hR := rk_b (n := n) (g := g) (by omega) hg
  have r13 : (∀ c, 1 ≤ c → c < rk n g → fz a c ≠ 0) ∨ ¬ ∀ c, 1 ≤ c → c < rk n g → fz a c ≠ 0 := Classical.em _
  refine aw_iload_n cx 1 dX4_fuse_0 rfl rfl ?_
  refine aw_if_lt cx 4 19 dX4_fuse_1 rfl (by decide) ⟨by omega, by omega⟩ (fun c1 => ?_) (fun c1 => ?_)
  · refine aw_iconst cx 20 dX4_fuse_19 rfl ?_
    refine aw_ireturn cx dX4_fuse_20 ?_
    refine hRet _ _ True.intro rfl ?_
    have nf : ¬ ok_fuse n g a := fun q9 => by
      have q8 := q9.1
      first
      | omega
      | (rcases e13 with ⟨w1, _⟩ | ⟨_, w2⟩
         · omega
         · exact w2 q9.2)
    refine k _ _ (by unfold f_fuse; rw [if_neg nf]) ?_
    unfold g_fuse
    rw [if_neg (fun q9 => nf q9.1)]
    exact ⟨⟨p, q, C, F, Nu, Co, r, f, hXC, hM, hV⟩, xo_r _⟩
  · refine aw_iload_n cx 5 dX4_fuse_4 rfl rfl ?_
    refine aw_sipush cx 8 dX4_fuse_5 rfl (by decide +kernel) ?_
    refine aw_icmp_ge cx 11 19 dX4_fuse_8 rfl (by decide) ⟨⟨by omega, by omega⟩, ⟨by omega, by omega⟩⟩ (fun c8 => ?_) (fun c8 => ?_)
    · refine aw_iconst cx 20 dX4_fuse_19 rfl ?_
      refine aw_ireturn cx dX4_fuse_20 ?_
      refine hRet _ _ True.intro rfl ?_
      have nf : ¬ ok_fuse n g a := fun q9 => by
        have q8 := q9.1
        first
        | omega
        | (rcases e13 with ⟨w1, _⟩ | ⟨_, w2⟩
           · omega
           · exact w2 q9.2)
      refine k _ _ (by unfold f_fuse; rw [if_neg nf]) ?_
      unfold g_fuse
      rw [if_neg (fun q9 => nf q9.1)]
      exact ⟨⟨p, q, C, F, Nu, Co, r, f, hXC, hM, hV⟩, xo_r _⟩
    · refine aw_aload_n cx 12 dX4_fuse_11 rfl rfl ?_
      refine aw_iload_n cx 13 dX4_fuse_12 rfl rfl ?_
      refine aw_V1v cx 16 mX4_mapsEveryColour (ci := 3) dX4_fuse_13 rfl okmX4_mapsEveryColour lkX4_116 (by first | assumption | exact hc_0 | exact hc_1 | exact (hc_x (by omega)).trans (by assumption) | exact (zz_gn (by omega)).trans (by first | assumption | exact hc_0 | exact (hc_x (by omega)).trans (by assumption)) | exact zz_gs _ _ _) ⟨rfl, by decide⟩ (zz_rc0 mX4_fuse hRm hNS rfl rfl) (Nat.le_of_ble_eq_true rfl) ?_
      refine s_X4_mapsEveryColour (by assumption) (by assumption) ⟨by omega, by omega⟩ ⟨by omega, by omega⟩ (fun v13 e13 => ⟨_, rfl, ?_⟩)
      rw [hr] at e13
      refine aw_if_ne cx 19 21 dX4_fuse_16 rfl (by decide) ⟨by omega, by omega⟩ (fun c16 => ?_) (fun c16 => ?_)
      · have ok : ok_fuse n g a := ⟨⟨by omega, by omega⟩, by
          rcases e13 with ⟨_, w2⟩ | ⟨w1, _⟩
          · exact w2
          · omega⟩
        refine aw_aload_n cx 22 dX4_fuse_21 rfl rfl ?_
        refine aw_V0v cx 25 mX4_isEven (ci := 3) dX4_fuse_22 rfl okmX4_isEven lkX4_67 (by first | assumption | exact hc_0 | exact hc_1 | exact (hc_x (by omega)).trans (by assumption) | exact (zz_gn (by omega)).trans (by first | assumption | exact hc_0 | exact (hc_x (by omega)).trans (by assumption)) | exact zz_gs _ _ _) ⟨rfl, by decide⟩ (zz_rc0 mX4_fuse hRm hNS rfl rfl) (Nat.le_of_ble_eq_true rfl) ?_
        refine s_X4_isEven (by assumption) (by assumption) (by rw [hf]; exact fl_b hn) (fun v22 e22 => ⟨_, rfl, ?_⟩)
        rw [hf] at e22
        refine aw_if_ne cx 28 31 dX4_fuse_25 rfl (by decide) ⟨by omega, by omega⟩ (fun c25 => ?_) (fun c25 => ?_)
        · refine aw_aload_n cx 32 dX4_fuse_31 rfl rfl ?_
          refine aw_getfield cx 35 dX4_fuse_32 rfl fdX4_34 (by first | assumption | exact hc_0 | exact hc_1 | exact (hc_x (by omega)).trans (by assumption) | exact (zz_gn (by omega)).trans (by first | assumption | exact hc_0 | exact (hc_x (by omega)).trans (by assumption)) | exact zz_gs _ _ _) (by rfl) ?_
          refine aw_aload_n cx 36 dX4_fuse_35 rfl rfl ?_
          refine aw_getfield cx 39 dX4_fuse_36 rfl fdX4_30 (by first | assumption | exact hc_0 | exact hc_1 | exact (hc_x (by omega)).trans (by assumption) | exact (zz_gn (by omega)).trans (by first | assumption | exact hc_0 | exact (hc_x (by omega)).trans (by assumption)) | exact zz_gs _ _ _) (by rfl) ?_
          refine aw_iload_n cx 40 dX4_fuse_39 rfl rfl ?_
          obtain ⟨C2, F2, Nu2, Co2, n2, r2, f2, d0, d1, d2, d3, d4⟩ := hXC.2.2.2.2.1
          refine aw_V2n cx 43 mX0_paintFused (ci := 0) dX4_fuse_40 rfl okmX0_paintFused lkX4_119 (by first | assumption | exact hc_0 | exact hc_1 | exact (hc_x (by omega)).trans (by assumption) | exact (zz_gn (by omega)).trans (by first | assumption | exact hc_0 | exact (hc_x (by omega)).trans (by assumption)) | exact zz_gs _ _ _) ⟨rfl, by decide⟩ (zz_rc0 mX4_fuse hRm hNS rfl rfl) (Nat.le_of_ble_eq_true rfl) ?_
          rw [show h = hcol (hcol h p C F Nu Co n r f) q C2 F2 Nu2 Co2 n2 r2 f2 by rw [← xc_p hXC]; exact hc_in d0 d1 d2 d3 d4]
          refine s_X0_paintFused (by omega) hn hA hg ⟨by omega, by omega⟩ (fun C40 F40 Nu40 Co40 r40 f40 m40 => ⟨rfl, ?_⟩)
          rw [← xc_p hXC]
          have hz : fl n g = 0 := by omega
          have hf40 := m40.2.2.2.2.1
          have b40 := fl_b (n := n) (g := gF a g) hn
          rw [← hf40] at b40
          refine aw_aload_n cx 44 dX4_fuse_43 rfl rfl ?_
          refine aw_getfield cx 47 dX4_fuse_44 rfl fdX4_34 (by first | assumption | exact hc_0 | exact hc_1 | exact (hc_x (by omega)).trans (by assumption) | exact (zz_gn (by omega)).trans (by first | assumption | exact hc_0 | exact (hc_x (by omega)).trans (by assumption)) | exact zz_gs _ _ _) (by rfl) ?_
          refine aw_getfield cx 50 dX4_fuse_47 rfl fdX4_71 (by first | assumption | exact hc_0 | exact hc_1 | exact (hc_x (by omega)).trans (by assumption) | exact (zz_gn (by omega)).trans (by first | assumption | exact hc_0 | exact (hc_x (by omega)).trans (by assumption)) | exact zz_gs _ _ _) (by rfl) ?_
          refine aw_if_eq cx 53 55 dX4_fuse_50 rfl (by decide) b40 (fun c50 => ?_) (fun c50 => ?_)
          · refine aw_aload_n cx 56 dX4_fuse_55 rfl rfl ?_
            refine aw_V0n cx 59 mX4_takeSpare (ci := 3) dX4_fuse_56 rfl okmX4_takeSpare lkX4_123 (by first | assumption | exact hc_0 | exact hc_1 | exact (hc_x (by omega)).trans (by assumption) | exact (zz_gn (by omega)).trans (by first | assumption | exact hc_0 | exact (hc_x (by omega)).trans (by assumption)) | exact zz_gs _ _ _) ⟨rfl, by decide⟩ (zz_rc0 mX4_fuse hRm hNS rfl rfl) (Nat.le_of_ble_eq_true rfl) ?_
            refine s_X4_takeSpare (by exact (hc_x (by omega)).trans (by assumption)) ⟨rfl, ?_⟩
            refine aw_iconst cx 60 dX4_fuse_59 rfl ?_
            refine aw_ireturn cx dX4_fuse_60 ?_
            refine hRet _ _ True.intro rfl ?_
            refine k _ _ (by unfold f_fuse; rw [if_pos ok, if_pos hz, if_pos (by omega)]) ?_
            unfold g_fuse
            rw [if_pos ⟨ok, hz, by omega⟩]
            exact ⟨⟨q, p, _, _, _, _, _, _, xc_swap (xc_spare hXC) xcol_s, m40, hV⟩, xo_t (xo_col (by omega)) (xo_put (by decide))⟩
          · refine aw_iconst cx 54 dX4_fuse_53 rfl ?_
            refine aw_ireturn cx dX4_fuse_54 ?_
            refine hRet _ _ True.intro rfl ?_
            refine k _ _ (by unfold f_fuse; rw [if_pos ok, if_pos hz, if_neg (by omega)]) ?_
            unfold g_fuse
            rw [if_neg (fun q9 => by have := q9.2.2; omega)]
            exact ⟨⟨p, q, C, F, Nu, Co, r, f, xc_spare hXC, hM, hV⟩, xo_col (by omega)⟩
        · refine aw_bipush cx 30 dX4_fuse_28 rfl (by decide +kernel) ?_
          refine aw_ireturn cx dX4_fuse_30 ?_
          refine hRet _ _ True.intro rfl ?_
          refine k _ _ (by unfold f_fuse; rw [if_pos ok, if_neg (by omega)]) ?_
          unfold g_fuse
          rw [if_neg (fun q9 => by have := q9.2.1; omega)]
          exact ⟨⟨p, q, C, F, Nu, Co, r, f, hXC, hM, hV⟩, xo_r _⟩
      · refine aw_iconst cx 20 dX4_fuse_19 rfl ?_
        refine aw_ireturn cx dX4_fuse_20 ?_
        refine hRet _ _ True.intro rfl ?_
        have nf : ¬ ok_fuse n g a := fun q9 => by
          have q8 := q9.1
          first
          | omega
          | (rcases e13 with ⟨w1, _⟩ | ⟨_, w2⟩
             · omega
             · exact w2 q9.2)
        refine k _ _ (by unfold f_fuse; rw [if_neg nf]) ?_
        unfold g_fuse
        rw [if_neg (fun q9 => nf q9.1)]
        exact ⟨⟨p, q, C, F, Nu, Co, r, f, hXC, hM, hV⟩, xo_r _⟩
set_option maxRecDepth 100000 in
set_option maxHeartbeats 4000000 in
theorem s_X4_quotient {h : AH} {Q : Option AV → AH → Prop} {n tr : Int} {g : Gr} {V : Int → Int} (hX : XI h n g V tr) {a : Int} (ha : R32 a) (k : ∀ v h', v = f_quot n g a → XP h h' (n_quot n g a) (g_quot n g a) (V) (tr) → Q (some (vI v)) h') : MC mX4_quotient [vR 0, vI a] h Q := by
  refine mc_start mX4_quotient RX4 "quotient" ⟨rfl, rfl, by decide +kernel⟩ [some (vR 0), some (vI a)] ⟨0, rfl⟩ rfl (fun X cx hRm hNS hRet => ?_)
  obtain ⟨p, q, C, F, Nu, Co, r, f, hXC, hM, hV⟩ := hX
  obtain ⟨hpq, g0, g1, ⟨c0, c1, c2, c3, c4⟩, -⟩ := id hXC
  obtain ⟨hn, hA, hg, hr, hf, hF, hN⟩ := id hM
  have hR := rk_b (n := n) (g := g) (by omega) hg
  have hs := shl_r (R := rk n g) ⟨by omega, by omega⟩
  refine aw_aload_n cx 1 dX4_quotient_0 rfl rfl ?_
  refine aw_iload_n cx 2 dX4_quotient_1 rfl rfl ?_
  refine aw_V1v cx 5 mX4_isSet (ci := 3) dX4_quotient_2 rfl okmX4_isSet lkX4_91 (by first | assumption | exact hc_0 | exact hc_1 | exact zz_gs _ _ _ | exact (zz_gn (by omega)).trans (by first | assumption | exact hc_0) | exact (hc_x (by omega)).trans ((hd_x (by omega)).trans (by assumption)) | exact (zz_gn (by omega)).trans ((hc_x (by omega)).trans ((hd_x (by omega)).trans (by assumption)))) ⟨rfl, by decide⟩ (zz_rc0 mX4_quotient hRm hNS rfl rfl) (Nat.le_of_ble_eq_true rfl) ?_
  refine s_X4_isSet (by assumption) (by assumption) (by assumption) (fun v2 e2 => ⟨_, rfl, ?_⟩)
  rw [hr] at e2
  refine aw_if_ne cx 8 10 dX4_quotient_5 rfl (by decide) ⟨by omega, by omega⟩ (fun c5 => ?_) (fun c5 => ?_)
  · refine aw_aload_n cx 11 dX4_quotient_10 rfl rfl ?_
    refine aw_V0v cx 14 mX4_isEven (ci := 3) dX4_quotient_11 rfl okmX4_isEven lkX4_67 (by first | assumption | exact hc_0 | exact hc_1 | exact zz_gs _ _ _ | exact (zz_gn (by omega)).trans (by first | assumption | exact hc_0) | exact (hc_x (by omega)).trans ((hd_x (by omega)).trans (by assumption)) | exact (zz_gn (by omega)).trans ((hc_x (by omega)).trans ((hd_x (by omega)).trans (by assumption)))) ⟨rfl, by decide⟩ (zz_rc0 mX4_quotient hRm hNS rfl rfl) (Nat.le_of_ble_eq_true rfl) ?_
    refine s_X4_isEven (by assumption) (by assumption) (by rw [hf]; exact fl_b hn) (fun v11 e11 => ⟨_, rfl, ?_⟩)
    rw [hf] at e11
    refine aw_if_ne cx 17 20 dX4_quotient_14 rfl (by decide) ⟨by omega, by omega⟩ (fun c14 => ?_) (fun c14 => ?_)
    · have hlt := shl_lt (v := a) (R := rk n g) ⟨by omega, by omega⟩ (by omega) (by omega)
      have lt1 := hlt.1
      have lt2 : blw n g a := hlt.2
      refine aw_aload_n cx 21 dX4_quotient_20 rfl rfl ?_
      refine aw_getfield cx 24 dX4_quotient_21 rfl fdX4_23 (by first | assumption | exact hc_0 | exact hc_1 | exact zz_gs _ _ _ | exact (zz_gn (by omega)).trans (by first | assumption | exact hc_0) | exact (hc_x (by omega)).trans ((hd_x (by omega)).trans (by assumption)) | exact (zz_gn (by omega)).trans ((hc_x (by omega)).trans ((hd_x (by omega)).trans (by assumption)))) (by rfl) ?_
      refine aw_aload_n cx 25 dX4_quotient_24 rfl rfl ?_
      refine aw_getfield cx 28 dX4_quotient_25 rfl fdX4_30 (by first | assumption | exact hc_0 | exact hc_1 | exact zz_gs _ _ _ | exact (zz_gn (by omega)).trans (by first | assumption | exact hc_0) | exact (hc_x (by omega)).trans ((hd_x (by omega)).trans (by assumption)) | exact (zz_gn (by omega)).trans ((hc_x (by omega)).trans ((hd_x (by omega)).trans (by assumption)))) (by rfl) ?_
      refine aw_aload_n cx 29 dX4_quotient_28 rfl rfl ?_
      refine aw_getfield cx 32 dX4_quotient_29 rfl fdX4_30 (by first | assumption | exact hc_0 | exact hc_1 | exact zz_gs _ _ _ | exact (zz_gn (by omega)).trans (by first | assumption | exact hc_0) | exact (hc_x (by omega)).trans ((hd_x (by omega)).trans (by assumption)) | exact (zz_gn (by omega)).trans ((hc_x (by omega)).trans ((hd_x (by omega)).trans (by assumption)))) (by rfl) ?_
      refine aw_iload_n cx 33 dX4_quotient_32 rfl rfl ?_
      refine aw_V1v cx 36 mX0_hullOf (ci := 0) dX4_quotient_33 rfl okmX0_hullOf lkX4_97 (by first | assumption | exact hc_0 | exact hc_1 | exact zz_gs _ _ _ | exact (zz_gn (by omega)).trans (by first | assumption | exact hc_0) | exact (hc_x (by omega)).trans ((hd_x (by omega)).trans (by assumption)) | exact (zz_gn (by omega)).trans ((hc_x (by omega)).trans ((hd_x (by omega)).trans (by assumption)))) ⟨rfl, by decide⟩ (zz_rc0 mX4_quotient hRm hNS rfl rfl) (Nat.le_of_ble_eq_true rfl) ?_
      rw [xc_p hXC]
      refine s_X0_hullOf hn hA hg hr (hN (by omega)) (by assumption) (by assumption) (fun v33 e33 => ⟨_, rfl, ?_⟩)
      rw [← xc_p hXC]
      refine aw_aload_n cx 37 dX4_quotient_36 rfl rfl ?_
      refine aw_getfield cx 40 dX4_quotient_37 rfl fdX4_34 (by first | assumption | exact hc_0 | exact hc_1 | exact zz_gs _ _ _ | exact (zz_gn (by omega)).trans (by first | assumption | exact hc_0) | exact (hc_x (by omega)).trans ((hd_x (by omega)).trans (by assumption)) | exact (zz_gn (by omega)).trans ((hc_x (by omega)).trans ((hd_x (by omega)).trans (by assumption)))) (by rfl) ?_
      obtain ⟨C2, F2, Nu2, Co2, n2, r2, f2, d0, d1, d2, d3, d4⟩ := hXC.2.2.2.2.1
      obtain ⟨B, L, Be, z, b0, b1, b2, b3⟩ := hXC.2.2.2.2.2.2
      refine aw_V3n cx 43 mX1_divide (ci := 1) dX4_quotient_40 rfl okmX1_divide lkX4_126 (by first | assumption | exact hc_0 | exact hc_1 | exact zz_gs _ _ _ | exact (zz_gn (by omega)).trans (by first | assumption | exact hc_0) | exact (hc_x (by omega)).trans ((hd_x (by omega)).trans (by assumption)) | exact (zz_gn (by omega)).trans ((hc_x (by omega)).trans ((hd_x (by omega)).trans (by assumption)))) ⟨rfl, by decide⟩ (zz_rc0 mX4_quotient hRm hNS rfl rfl) (Nat.le_of_ble_eq_true rfl) ?_
      rw [show h = hcol (hdiv h 6 B L Be z) q C2 F2 Nu2 Co2 n2 r2 f2 by rw [← hd_in b0 b1 b2 b3]; exact hc_in d0 d1 d2 d3 d4]
      rw [e33]
      refine s_X1_divide hn hA hg (by omega) (by omega) (by omega) (by first | assumption) (by first | assumption) (fun B40 L40 Be40 C40 F40 Nu40 Co40 r40 f40 m40 => ⟨rfl, ?_⟩)
      refine aw_aload_n cx 44 dX4_quotient_43 rfl rfl ?_
      refine aw_V0n cx 47 mX4_takeSpare (ci := 3) dX4_quotient_44 rfl okmX4_takeSpare lkX4_123 (by first | assumption | exact hc_0 | exact hc_1 | exact zz_gs _ _ _ | exact (zz_gn (by omega)).trans (by first | assumption | exact hc_0) | exact (hc_x (by omega)).trans ((hd_x (by omega)).trans (by assumption)) | exact (zz_gn (by omega)).trans ((hc_x (by omega)).trans ((hd_x (by omega)).trans (by assumption)))) ⟨rfl, by decide⟩ (zz_rc0 mX4_quotient hRm hNS rfl rfl) (Nat.le_of_ble_eq_true rfl) ?_
      refine s_X4_takeSpare (by first | assumption | exact (hc_x (by omega)).trans ((hd_x (by omega)).trans (by assumption))) ⟨rfl, ?_⟩
      refine aw_aload_n cx 48 dX4_quotient_47 rfl rfl ?_
      refine aw_getfield cx 51 dX4_quotient_48 rfl fdX4_30 (by first | assumption | exact hc_0 | exact hc_1 | exact zz_gs _ _ _ | exact (zz_gn (by omega)).trans (by first | assumption | exact hc_0) | exact (hc_x (by omega)).trans ((hd_x (by omega)).trans (by assumption)) | exact (zz_gn (by omega)).trans ((hc_x (by omega)).trans ((hd_x (by omega)).trans (by assumption)))) (by rfl) ?_
      refine aw_getfield cx 54 dX4_quotient_51 rfl fdX4_45 (by first | assumption | exact hc_0 | exact hc_1 | exact zz_gs _ _ _ | exact (zz_gn (by omega)).trans (by first | assumption | exact hc_0) | exact (hc_x (by omega)).trans ((hd_x (by omega)).trans (by assumption)) | exact (zz_gn (by omega)).trans ((hc_x (by omega)).trans ((hd_x (by omega)).trans (by assumption)))) (by rfl) ?_
      refine aw_ireturn cx dX4_quotient_54 ?_
      refine hRet _ _ True.intro rfl ?_
      refine k _ _ (by unfold f_quot; rw [if_pos (by omega), if_pos (by omega)]) ?_
      unfold n_quot g_quot
      rw [if_pos ⟨by omega, by omega⟩, if_pos ⟨by omega, by omega⟩]
      exact ⟨⟨q, p, _, _, _, _, _, _, xc_swap (xc_spare (xc_dv hXC)) xcol_s, m40, hV⟩, xo_t (xo_t xo_dv (xo_col (by omega))) (xo_put (by decide))⟩
    · refine aw_bipush cx 19 dX4_quotient_17 rfl (by decide +kernel) ?_
      refine aw_ireturn cx dX4_quotient_19 ?_
      refine hRet _ _ True.intro rfl ?_
      refine k _ _ (by unfold f_quot; rw [if_pos (by omega), if_neg (by omega)]) ?_
      unfold n_quot g_quot
      rw [if_neg (fun q9 => by have := q9.2; omega), if_neg (fun q9 => by have := q9.2; omega)]
      exact ⟨⟨p, q, C, F, Nu, Co, r, f, hXC, hM, hV⟩, xo_r _⟩
  · refine aw_iconst cx 9 dX4_quotient_8 rfl ?_
    refine aw_ireturn cx dX4_quotient_9 ?_
    refine hRet _ _ True.intro rfl ?_
    refine k _ _ (by unfold f_quot; rw [if_neg (by omega)]) ?_
    unfold n_quot g_quot
    rw [if_neg (fun q9 => by have := q9.1; omega), if_neg (fun q9 => by have := q9.1; omega)]
    exact ⟨⟨p, q, C, F, Nu, Co, r, f, hXC, hM, hV⟩, xo_r _⟩
set_option maxRecDepth 100000 in
set_option maxHeartbeats 4000000 in
theorem s_X4_chance {h : AH} {Q : Option AV → AH → Prop} {n tr : Int} {g : Gr} {V : Int → Int} (hX : XI h n g V tr) {a b c : Int} (ha : R32 a) (hb : R32 b) (hc : R32 c) (k : ∀ v h', v = f_chance n g V a b c → XP h h' (n) (g) (V) (tr) → Q (some (vJ v)) h') : MC mX4_chance [vR 0, vI a, vI b, vI c] h Q := by
  refine mc_start mX4_chance RX4 "chance" ⟨rfl, rfl, by decide +kernel⟩ [some (vR 0), some (vI a), some (vI b), some (vI c), none, none, none, none, none, none] ⟨6, rfl⟩ rfl (fun X cx hRm hNS hRet => ?_)
  obtain ⟨p, q, C, F, Nu, Co, r, f, hXC, hM, hV⟩ := hX
  obtain ⟨hpq, g0, g1, ⟨c0, c1, c2, c3, c4⟩, -⟩ := id hXC
  obtain ⟨hn, hA, hg, hr, hf, hF, hN⟩ := id hM
  have hR := rk_b (n := n) (g := g) (by omega) hg
  refine aw_aload_n cx 1 dX4_chance_0 rfl rfl ?_
  refine aw_iload_n cx 2 dX4_chance_1 rfl rfl ?_
  refine aw_V1v cx 5 mX4_isColour (ci := 3) dX4_chance_2 rfl okmX4_isColour lkX4_74 (by first | assumption | exact hw_0 | exact hw_1 | exact hw_2 | exact hw_3 | exact (hw_x (by omega)).trans (by assumption)) ⟨rfl, by decide⟩ (zz_rc0 mX4_chance hRm hNS rfl rfl) (Nat.le_of_ble_eq_true rfl) ?_
  refine s_X4_isColour (by assumption) (by assumption) ⟨by omega, by omega⟩ (by assumption) (fun v2 e2 => ⟨_, rfl, ?_⟩)
  refine aw_if_eq cx 8 27 dX4_chance_5 rfl (by decide) ⟨by omega, by omega⟩ (fun c5 => ?_) (fun c5 => ?_)
  · refine aw_ldc2 cx 30 (-1) dX4_chance_27 rfl klX4_130 (by decide +kernel) ?_
    refine aw_lreturn cx dX4_chance_30 ?_
    refine hRet _ _ True.intro rfl ?_
    exact k _ _ (by unfold f_chance; rw [if_neg (by omega)]) ⟨⟨p, q, C, F, Nu, Co, r, f, hXC, hM, hV⟩, xo_r _⟩
  · refine aw_iload_n cx 9 dX4_chance_8 rfl rfl ?_
    refine aw_if_lt cx 12 27 dX4_chance_9 rfl (by decide) ⟨by omega, by omega⟩ (fun c9 => ?_) (fun c9 => ?_)
    · refine aw_ldc2 cx 30 (-1) dX4_chance_27 rfl klX4_130 (by decide +kernel) ?_
      refine aw_lreturn cx dX4_chance_30 ?_
      refine hRet _ _ True.intro rfl ?_
      exact k _ _ (by unfold f_chance; rw [if_neg (by omega)]) ⟨⟨p, q, C, F, Nu, Co, r, f, hXC, hM, hV⟩, xo_r _⟩
    · refine aw_iload_n cx 13 dX4_chance_12 rfl rfl ?_
      refine aw_bipush cx 15 dX4_chance_13 rfl (by decide +kernel) ?_
      refine aw_icmp_gt cx 18 27 dX4_chance_15 rfl (by decide) ⟨⟨by omega, by omega⟩, ⟨by omega, by omega⟩⟩ (fun c15 => ?_) (fun c15 => ?_)
      · refine aw_ldc2 cx 30 (-1) dX4_chance_27 rfl klX4_130 (by decide +kernel) ?_
        refine aw_lreturn cx dX4_chance_30 ?_
        refine hRet _ _ True.intro rfl ?_
        exact k _ _ (by unfold f_chance; rw [if_neg (by omega)]) ⟨⟨p, q, C, F, Nu, Co, r, f, hXC, hM, hV⟩, xo_r _⟩
      · refine aw_iload_n cx 19 dX4_chance_18 rfl rfl ?_
        refine aw_if_lt cx 22 27 dX4_chance_19 rfl (by decide) ⟨by omega, by omega⟩ (fun c19 => ?_) (fun c19 => ?_)
        · refine aw_ldc2 cx 30 (-1) dX4_chance_27 rfl klX4_130 (by decide +kernel) ?_
          refine aw_lreturn cx dX4_chance_30 ?_
          refine hRet _ _ True.intro rfl ?_
          exact k _ _ (by unfold f_chance; rw [if_neg (by omega)]) ⟨⟨p, q, C, F, Nu, Co, r, f, hXC, hM, hV⟩, xo_r _⟩
        · refine aw_iload_n cx 23 dX4_chance_22 rfl rfl ?_
          refine aw_iconst cx 24 dX4_chance_23 rfl ?_
          refine aw_icmp_le cx 27 31 dX4_chance_24 rfl (by decide) ⟨⟨by omega, by omega⟩, ⟨by omega, by omega⟩⟩ (fun c24 => ?_) (fun c24 => ?_)
          · refine aw_aload_n cx 32 dX4_chance_31 rfl rfl ?_
            refine aw_V0v cx 35 mX4_isEven (ci := 3) dX4_chance_32 rfl okmX4_isEven lkX4_67 (by first | assumption | exact hw_0 | exact hw_1 | exact hw_2 | exact hw_3 | exact (hw_x (by omega)).trans (by assumption)) ⟨rfl, by decide⟩ (zz_rc0 mX4_chance hRm hNS rfl rfl) (Nat.le_of_ble_eq_true rfl) ?_
            refine s_X4_isEven (by assumption) (by assumption) (by rw [hf]; exact fl_b hn) (fun v32 e32 => ⟨_, rfl, ?_⟩)
            rw [hf] at e32
            refine aw_if_eq cx 38 45 dX4_chance_35 rfl (by decide) ⟨by omega, by omega⟩ (fun c35 => ?_) (fun c35 => ?_)
            · refine aw_ldc2 cx 48 (-2) dX4_chance_45 rfl klX4_135 (by decide +kernel) ?_
              refine aw_lreturn cx dX4_chance_48 ?_
              refine hRet _ _ True.intro rfl ?_
              exact k _ _ (by unfold f_chance; rw [if_pos (by omega), if_neg (by omega)]) ⟨⟨p, q, C, F, Nu, Co, r, f, hXC, hM, hV⟩, xo_r _⟩
            · refine aw_aload_n cx 39 dX4_chance_38 rfl rfl ?_
              refine aw_V0v cx 42 mX4_weightBelowRank (ci := 3) dX4_chance_39 rfl okmX4_weightBelowRank lkX4_132 (by first | assumption | exact hw_0 | exact hw_1 | exact hw_2 | exact hw_3 | exact (hw_x (by omega)).trans (by assumption)) ⟨rfl, by decide⟩ (zz_rc0 mX4_chance hRm hNS rfl rfl) (Nat.le_of_ble_eq_true rfl) ?_
              refine s_X4_weightBelowRank (by assumption) (by assumption) (by assumption) ⟨by omega, by omega⟩ (fun v39 e39 => ⟨_, rfl, ?_⟩)
              rw [hr] at e39
              have b39 := wt_b hV (m := rk n g) ⟨by omega, by omega⟩
              refine aw_if_ne cx 45 49 dX4_chance_42 rfl (by decide) ⟨by omega, by omega⟩ (fun c42 => ?_) (fun c42 => ?_)
              · have hz : fl n g = 0 := by omega
                have hE : evn n g := ⟨hn, hg, hz⟩
                have hw0 : wt V (rk n g) ≠ 0 := by omega
                have bU := upw_b hE hV (t := b) (i := a) ⟨by omega, by omega⟩
                have bA := AL_b hE hV hw0 (t := b) ⟨by omega, by omega⟩
                refine aw_aload_n cx 50 dX4_chance_49 rfl rfl ?_
                refine aw_getfield cx 53 dX4_chance_50 rfl fdX4_16 (by first | assumption | exact hw_0 | exact hw_1 | exact hw_2 | exact hw_3 | exact (hw_x (by omega)).trans (by assumption)) (by rfl) ?_
                refine aw_aload_n cx 54 dX4_chance_53 rfl rfl ?_
                refine aw_getfield cx 57 dX4_chance_54 rfl fdX4_30 (by first | assumption | exact hw_0 | exact hw_1 | exact hw_2 | exact hw_3 | exact (hw_x (by omega)).trans (by assumption)) (by rfl) ?_
                refine aw_aload_n cx 58 dX4_chance_57 rfl rfl ?_
                refine aw_getfield cx 61 dX4_chance_58 rfl fdX4_9 (by first | assumption | exact hw_0 | exact hw_1 | exact hw_2 | exact hw_3 | exact (hw_x (by omega)).trans (by assumption)) (by rfl) ?_
                refine aw_iload_n cx 62 dX4_chance_61 rfl rfl ?_
                obtain ⟨S, Y, N, al0, w0, w1, w2, w3⟩ := hXC.2.2.2.2.2.1
                refine aw_V3n cx 65 mX3_go (ci := 2) dX4_chance_62 rfl okmX3_go lkX4_137 (by first | assumption | exact hw_0 | exact hw_1 | exact hw_2 | exact hw_3 | exact (hw_x (by omega)).trans (by assumption)) ⟨rfl, by decide⟩ (zz_rc0 mX4_chance hRm hNS rfl rfl) (Nat.le_of_ble_eq_true rfl) ?_
                rw [hw_in w0 w1 w2 w3]
                refine s_X3_go hn hA hg hE hr (by omega) (by assumption) (by assumption) (by omega) (by assumption) hV ⟨by omega, by omega⟩ (fun S62 Y62 N62 y62 => ⟨rfl, ?_⟩)
                refine aw_aload_n cx 66 dX4_chance_65 rfl rfl ?_
                refine aw_getfield cx 69 dX4_chance_66 rfl fdX4_16 (by first | assumption | exact hw_0 | exact hw_1 | exact hw_2 | exact hw_3 | exact (hw_x (by omega)).trans (by assumption)) (by rfl) ?_
                refine aw_aload_n cx 70 dX4_chance_69 rfl rfl ?_
                refine aw_getfield cx 73 dX4_chance_70 rfl fdX4_30 (by first | assumption | exact hw_0 | exact hw_1 | exact hw_2 | exact hw_3 | exact (hw_x (by omega)).trans (by assumption)) (by rfl) ?_
                refine aw_iload_n cx 74 dX4_chance_73 rfl rfl ?_
                refine aw_V2v cx 77 mX3_waysTo (ci := 2) dX4_chance_74 rfl okmX3_waysTo lkX4_141 (by first | assumption | exact hw_0 | exact hw_1 | exact hw_2 | exact hw_3 | exact (hw_x (by omega)).trans (by assumption)) ⟨rfl, by decide⟩ (zz_rc0 mX4_chance hRm hNS rfl rfl) (Nat.le_of_ble_eq_true rfl) ?_
                refine s_X3_waysTo hn hA hg (by omega) (by assumption) (by assumption) ⟨by omega, by omega⟩ (fun v74 e74 => ⟨_, rfl, ?_⟩)
                rw [upw_congr (f' := wy n g V b) y62] at e74
                have e74 : v74 = UP n g V a b := e74
                refine aw_lstore cx 79 dX4_chance_77 rfl ⟨Nat.le_of_ble_eq_true rfl, Nat.le_of_ble_eq_true rfl⟩ rfl ?_
                dsimp only [List.set]
                refine aw_aload_n cx 80 dX4_chance_79 rfl rfl ?_
                refine aw_getfield cx 83 dX4_chance_80 rfl fdX4_16 (by first | assumption | exact hw_0 | exact hw_1 | exact hw_2 | exact hw_3 | exact (hw_x (by omega)).trans (by assumption)) (by rfl) ?_
                refine aw_getfield cx 86 dX4_chance_83 rfl fdX4_145 (by first | assumption | exact hw_0 | exact hw_1 | exact hw_2 | exact hw_3 | exact (hw_x (by omega)).trans (by assumption)) (by rfl) ?_
                refine aw_lstore cx 88 dX4_chance_86 rfl ⟨Nat.le_of_ble_eq_true rfl, Nat.le_of_ble_eq_true rfl⟩ rfl ?_
                dsimp only [List.set]
                refine aw_lload cx 90 dX4_chance_88 rfl rfl ?_
                refine aw_lload cx 92 dX4_chance_90 rfl rfl ?_
                refine aw_S2v cx 95 mX3_commonDivisor dX4_chance_92 rfl okmX3_commonDivisor lkX4_148 (zz_rc0 mX4_chance hRm hNS rfl rfl) (Nat.le_of_ble_eq_true rfl) ?_
                refine s_X3_commonDivisor ⟨by omega, by omega⟩ ⟨by omega, by omega⟩ (fun v92 e92 => ⟨_, rfl, ?_⟩)
                have b92 := gd_b (x := v74) (y := AL n g V b) (by omega) (by omega)
                rw [← e92] at b92
                refine aw_lstore cx 97 dX4_chance_95 rfl ⟨Nat.le_of_ble_eq_true rfl, Nat.le_of_ble_eq_true rfl⟩ rfl ?_
                dsimp only [List.set]
                refine aw_lload cx 99 dX4_chance_97 rfl rfl ?_
                refine aw_lconst cx 100 0 dX4_chance_99 rfl (by decide +kernel) ?_
                refine aw_lcmp cx 101 dX4_chance_100 rfl (Or.inr ⟨⟨by omega, by omega⟩, ⟨by omega, by omega⟩⟩) ?_
                refine aw_if_ne cx 104 108 dX4_chance_101 rfl (by decide) (zz_cmp_r _ _) (fun c101 => ?_) (fun c101 => ?_)
                · rw [zz_cmp_eq] at c101
                  refine aw_iload_n cx 109 dX4_chance_108 rfl rfl ?_
                  refine aw_if_ne cx 112 120 dX4_chance_109 rfl (by decide) ⟨by omega, by omega⟩ (fun c109 => ?_) (fun c109 => ?_)
                  · refine aw_lload cx 122 dX4_chance_120 rfl rfl ?_
                    refine aw_lload cx 124 dX4_chance_122 rfl rfl ?_
                    refine aw_ldivN cx 125 dX4_chance_124 rfl ⟨by omega, by omega, by omega, by omega⟩ ?_
                    refine aw_lreturn cx dX4_chance_125 ?_
                    refine hRet _ _ True.intro rfl ?_
                    refine k _ _ (by unfold f_chance chv; rw [if_pos (by omega), if_pos ⟨hz, hw0⟩, ← e74, ← e92]; first | (rw [if_pos (by omega)]; done) | (rw [if_neg (by omega)]; done)) ⟨⟨p, q, C, F, Nu, Co, r, f, xc_wk hXC, hM, hV⟩, xo_wk⟩
                  · refine aw_lload cx 114 dX4_chance_112 rfl rfl ?_
                    refine aw_lload cx 116 dX4_chance_114 rfl rfl ?_
                    refine aw_ldivN cx 117 dX4_chance_116 rfl ⟨by omega, by omega, by omega, by omega⟩ ?_
                    refine aw_goto cx 125 dX4_chance_117 (by decide) ?_
                    refine aw_lreturn cx dX4_chance_125 ?_
                    refine hRet _ _ True.intro rfl ?_
                    refine k _ _ (by unfold f_chance chv; rw [if_pos (by omega), if_pos ⟨hz, hw0⟩, ← e74, ← e92]; first | (rw [if_pos (by omega)]; done) | (rw [if_neg (by omega)]; done)) ⟨⟨p, q, C, F, Nu, Co, r, f, xc_wk hXC, hM, hV⟩, xo_wk⟩
                · rw [zz_cmp_eq] at c101
                  exfalso
                  omega
              · refine aw_ldc2 cx 48 (-2) dX4_chance_45 rfl klX4_135 (by decide +kernel) ?_
                refine aw_lreturn cx dX4_chance_48 ?_
                refine hRet _ _ True.intro rfl ?_
                exact k _ _ (by unfold f_chance; rw [if_pos (by omega), if_neg (by omega)]) ⟨⟨p, q, C, F, Nu, Co, r, f, hXC, hM, hV⟩, xo_r _⟩
          · refine aw_ldc2 cx 30 (-1) dX4_chance_27 rfl klX4_130 (by decide +kernel) ?_
            refine aw_lreturn cx dX4_chance_30 ?_
            refine hRet _ _ True.intro rfl ?_
            exact k _ _ (by unfold f_chance; rw [if_neg (by omega)]) ⟨⟨p, q, C, F, Nu, Co, r, f, hXC, hM, hV⟩, xo_r _⟩
