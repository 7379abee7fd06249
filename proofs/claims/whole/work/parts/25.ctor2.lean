set_option maxRecDepth 100000 in
set_option maxHeartbeats 4000000 in
theorem s_X4_init {h : AH} {Q : Option AV → AH → Prop} (hid : h.1.1 = 1) (h0 : zz_get h 0 = cO 3 [vN, vN, vN, vN, vN, vJ 0]) (k : ∀ h', h'.1 = (h.1.1 + 19, h.1.2 + 563) → XI h' 1 gB vW1 0 → Q none h') : MC mX4_init [vR 0] h Q := by
  refine mc_start mX4_init RX4 "<init>" ⟨rfl, rfl, by decide +kernel⟩ [some (vR 0), none] ⟨1, rfl⟩ rfl (fun X cx hRm hNS hRet => ?_)
  refine aw_aload_n cx 1 dX4_init_0 rfl rfl ?_
  refine aw_objInit cx 4 dX4_init_1 rfl lkX4_1 lk_oi lk_oc ⟨by rw [hRm]; exact (Nat.le_of_ble_eq_true rfl), by rw [hRm]; exact (Nat.le_of_ble_eq_true rfl)⟩ ?_
  refine aw_aload_n cx 5 dX4_init_4 rfl rfl ?_
  refine aw_iconst cx 6 dX4_init_5 rfl ?_
  refine aw_newI cx 8 dX4_init_6 rfl (by rfl) (by decide) (zz_rmk mX4_init hRm hNS 0 0 rfl rfl) ?_
  rw [hid]
  refine aw_putfinal cx 11 dX4_init_8 rfl fdX4_9 ⟨rfl, by decide +kernel⟩ (by first | assumption | exact zz_gs _ _ _ | exact (zz_gn (by omega)).trans (by assumption) | exact (hc_x (by omega)).trans (by assumption) | (rw [zz_get_new, if_neg (by omega)]; assumption) | exact b80.2.1) (by exact Nat.le_of_ble_eq_true rfl) rfl ?_
  dsimp only [List.set]
  have a8 : (zz_put (zz_new h 5 (cA 5 (fun _ => 0))) 0 (cO 3 [vR 1, vN, vN, vN, vN, vJ 0])).1 = (h.1.1 + 1, h.1.2 + 5) := rfl
  have g8_0 : zz_get (zz_put (zz_new h 5 (cA 5 (fun _ => 0))) 0 (cO 3 [vR 1, vN, vN, vN, vN, vJ 0])) 0 = cO 3 [vR 1, vN, vN, vN, vN, vJ 0] := zz_gs _ _ _
  have g8_1 : zz_get (zz_put (zz_new h 5 (cA 5 (fun _ => 0))) 0 (cO 3 [vR 1, vN, vN, vN, vN, vJ 0])) 1 = cA 5 (fun _ => 0) := (by (simp only [zz_get_put, zz_get_new, zz_put_1, zz_new_1, hid, ↓reduceIte]; (repeat (first | rw [if_pos (by omega)] | rw [if_neg (by omega)])); first | done | rfl | assumption))
  change AW X 11 _ _ (zz_put (zz_new h 5 (cA 5 (fun _ => 0))) 0 (cO 3 [vR 1, vN, vN, vN, vN, vJ 0]))
  generalize hhh8 : zz_put (zz_new h 5 (cA 5 (fun _ => 0))) 0 (cO 3 [vR 1, vN, vN, vN, vN, vJ 0]) = h8 at a8 g8_0 g8_1 ⊢
  clear hhh8
  refine aw_iconst cx 12 dX4_init_11 rfl ?_
  refine aw_istore_n cx 13 1 dX4_init_12 rfl rfl ⟨Nat.le_of_ble_eq_true rfl, Nat.le_of_ble_eq_true rfl⟩ rfl ?_
  dsimp only [List.set]
  have lp13 : ∀ (kf : Nat) (c : Int) (V : Int → Int), (5 - c < (kf : Int)) → (0 ≤ c ∧ c ≤ 5) → (∀ x, V x = if 0 ≤ x ∧ x < c then 1 else 0) → AW X 13 [some (vR 0), some (vI c)] [] (zz_put h8 1 (cA 5 V)) := by
    intro kf
    induction kf with
    | zero =>
      intro c V hk hc hx
      exfalso
      omega
    | succ kf ih13 =>
      intro c V hk hc hx
      refine aw_iload_n cx 14 dX4_init_13 rfl rfl ?_
      refine aw_iconst cx 15 dX4_init_14 rfl ?_
      refine aw_icmp_ge cx 18 31 dX4_init_15 rfl (by decide) ⟨⟨by omega, by omega⟩, ⟨by omega, by omega⟩⟩ (fun c15 => ?_) (fun c15 => ?_)
      · have eV : V = vW1 := funext fun x => by
          rw [hx x, show c = 5 by omega]
          rfl
        subst eV
        have a31 : (zz_put h8 1 (cA 5 vW1)).1 = (h.1.1 + 1, h.1.2 + 5) := a8
        have g31_0 : zz_get (zz_put h8 1 (cA 5 vW1)) 0 = cO 3 [vR 1, vN, vN, vN, vN, vJ 0] := (zz_gn (by omega)).trans g8_0
        have g31_1 : zz_get (zz_put h8 1 (cA 5 vW1)) 1 = cA 5 vW1 := zz_gs _ _ _
        change AW X 31 _ _ (zz_put h8 1 (cA 5 vW1))
        generalize hhh31 : zz_put h8 1 (cA 5 vW1) = h31 at a31 g31_0 g31_1 ⊢
        clear hhh31
        refine aw_aload_n cx 32 dX4_init_31 rfl rfl ?_
        refine aw_new cx 35 dX4_init_32 rfl nwX4_13 (zz_rmk mX4_init hRm hNS 1 5 a31 rfl) ?_
        have i31 : h31.1.1 = 2 := by rw [a31, hid]
        rw [i31]
        refine aw_dup cx 36 dX4_init_35 rfl rfl ?_
        refine aw_I0n cx 39 mX3_init dX4_init_36 rfl okmX3_init lkX4_15 (zz_rck mX4_init hRm hNS 2 9 (by rw [zz_new_1, a31]) rfl) (Nat.le_of_ble_eq_true rfl) ?_
        refine s_X3_init (o := 2) (by rw [zz_new_1, i31]) (by rw [zz_get_new, if_pos i31.symm]) (fun h36 e36 x36 y36 => ⟨rfl, ?_⟩)
        obtain ⟨x36_0, x36_1, x36_2, x36_3⟩ := x36
        have z36 : zz_get h36 0 = cO 3 [vR 1, vN, vN, vN, vN, vJ 0] := by
          rw [y36 0 (by omega), zz_get_new, if_neg (by omega)]
          exact g31_0
        refine aw_putfinal cx 42 dX4_init_39 rfl fdX4_16 ⟨rfl, by decide +kernel⟩ (by first | assumption | exact zz_gs _ _ _ | exact (zz_gn (by omega)).trans (by assumption) | exact (hc_x (by omega)).trans (by assumption) | (rw [zz_get_new, if_neg (by omega)]; assumption) | exact b80.2.1) (by exact Nat.le_of_ble_eq_true rfl) rfl ?_
        dsimp only [List.set]
        have a39 : (zz_put h36 0 (cO 3 [vR 1, vR 2, vN, vN, vN, vJ 0])).1 = (h.1.1 + 5, h.1.2 + 30) := (by rw [zz_put_1, e36, zz_new_1, a31])
        have g39_0 : zz_get (zz_put h36 0 (cO 3 [vR 1, vR 2, vN, vN, vN, vJ 0])) 0 = cO 3 [vR 1, vR 2, vN, vN, vN, vJ 0] := zz_gs _ _ _
        have g39_1 : zz_get (zz_put h36 0 (cO 3 [vR 1, vR 2, vN, vN, vN, vJ 0])) 1 = cA 5 vW1 := (by rw [zz_gn (by omega), y36 1 (by omega), zz_get_new, if_neg (by omega)]; exact g31_1)
        have g39_2 : zz_get (zz_put h36 0 (cO 3 [vR 1, vR 2, vN, vN, vN, vJ 0])) 2 = cWk 2 1 := (zz_gn (by omega)).trans x36_0
        have g39_3 : zz_get (zz_put h36 0 (cO 3 [vR 1, vR 2, vN, vN, vN, vJ 0])) 3 = cL 5 (fun _ => 0) := (zz_gn (by omega)).trans x36_1
        have g39_4 : zz_get (zz_put h36 0 (cO 3 [vR 1, vR 2, vN, vN, vN, vJ 0])) 4 = cL 8 (fun _ => 0) := (zz_gn (by omega)).trans x36_2
        have g39_5 : zz_get (zz_put h36 0 (cO 3 [vR 1, vR 2, vN, vN, vN, vJ 0])) 5 = cL 8 (fun _ => 0) := (zz_gn (by omega)).trans x36_3
        change AW X 42 _ _ (zz_put h36 0 (cO 3 [vR 1, vR 2, vN, vN, vN, vJ 0]))
        generalize hhh39 : zz_put h36 0 (cO 3 [vR 1, vR 2, vN, vN, vN, vJ 0]) = h39 at a39 g39_0 g39_1 g39_2 g39_3 g39_4 g39_5 ⊢
        clear hhh39
        refine aw_aload_n cx 43 dX4_init_42 rfl rfl ?_
        refine aw_new cx 46 dX4_init_43 rfl nwX4_20 (zz_rmk mX4_init hRm hNS 5 30 a39 rfl) ?_
        have i39 : h39.1.1 = 6 := by rw [a39, hid]
        rw [i39]
        refine aw_dup cx 47 dX4_init_46 rfl rfl ?_
        refine aw_I0n cx 50 mX1_init dX4_init_47 rfl okmX1_init lkX4_22 (zz_rck mX4_init hRm hNS 6 34 (by rw [zz_new_1, a39]) rfl) (Nat.le_of_ble_eq_true rfl) ?_
        refine s_X1_init (o := 6) (by rw [zz_new_1, i39]) (by rw [zz_get_new, if_pos i39.symm]) (fun h47 e47 x47 y47 => ⟨rfl, ?_⟩)
        obtain ⟨x47_0, x47_1, x47_2, x47_3⟩ := x47
        have z47 : zz_get h47 0 = cO 3 [vR 1, vR 2, vN, vN, vN, vJ 0] := by
          rw [y47 0 (by omega), zz_get_new, if_neg (by omega)]
          exact g39_0
        refine aw_putfinal cx 53 dX4_init_50 rfl fdX4_23 ⟨rfl, by decide +kernel⟩ (by first | assumption | exact zz_gs _ _ _ | exact (zz_gn (by omega)).trans (by assumption) | exact (hc_x (by omega)).trans (by assumption) | (rw [zz_get_new, if_neg (by omega)]; assumption) | exact b80.2.1) (by exact Nat.le_of_ble_eq_true rfl) rfl ?_
        dsimp only [List.set]
        have a50 : (zz_put h47 0 (cO 3 [vR 1, vR 2, vR 6, vN, vN, vJ 0])).1 = (h.1.1 + 9, h.1.2 + 111) := (by rw [zz_put_1, e47, zz_new_1, a39])
        have g50_0 : zz_get (zz_put h47 0 (cO 3 [vR 1, vR 2, vR 6, vN, vN, vJ 0])) 0 = cO 3 [vR 1, vR 2, vR 6, vN, vN, vJ 0] := zz_gs _ _ _
        have g50_1 : zz_get (zz_put h47 0 (cO 3 [vR 1, vR 2, vR 6, vN, vN, vJ 0])) 1 = cA 5 vW1 := (by rw [zz_gn (by omega), y47 1 (by omega), zz_get_new, if_neg (by omega)]; exact g39_1)
        have g50_2 : zz_get (zz_put h47 0 (cO 3 [vR 1, vR 2, vR 6, vN, vN, vJ 0])) 2 = cWk 2 1 := (by rw [zz_gn (by omega), y47 2 (by omega), zz_get_new, if_neg (by omega)]; exact g39_2)
        have g50_3 : zz_get (zz_put h47 0 (cO 3 [vR 1, vR 2, vR 6, vN, vN, vJ 0])) 3 = cL 5 (fun _ => 0) := (by rw [zz_gn (by omega), y47 3 (by omega), zz_get_new, if_neg (by omega)]; exact g39_3)
        have g50_4 : zz_get (zz_put h47 0 (cO 3 [vR 1, vR 2, vR 6, vN, vN, vJ 0])) 4 = cL 8 (fun _ => 0) := (by rw [zz_gn (by omega), y47 4 (by omega), zz_get_new, if_neg (by omega)]; exact g39_4)
        have g50_5 : zz_get (zz_put h47 0 (cO 3 [vR 1, vR 2, vR 6, vN, vN, vJ 0])) 5 = cL 8 (fun _ => 0) := (by rw [zz_gn (by omega), y47 5 (by omega), zz_get_new, if_neg (by omega)]; exact g39_5)
        have g50_6 : zz_get (zz_put h47 0 (cO 3 [vR 1, vR 2, vR 6, vN, vN, vJ 0])) 6 = cDiv 6 0 := (zz_gn (by omega)).trans x47_0
        have g50_7 : zz_get (zz_put h47 0 (cO 3 [vR 1, vR 2, vR 6, vN, vN, vJ 0])) 7 = cA 8 (fun _ => 0) := (zz_gn (by omega)).trans x47_1
        have g50_8 : zz_get (zz_put h47 0 (cO 3 [vR 1, vR 2, vR 6, vN, vN, vJ 0])) 8 = cA 5 (fun _ => 0) := (zz_gn (by omega)).trans x47_2
        have g50_9 : zz_get (zz_put h47 0 (cO 3 [vR 1, vR 2, vR 6, vN, vN, vJ 0])) 9 = cA 64 (fun _ => 0) := (zz_gn (by omega)).trans x47_3
        change AW X 53 _ _ (zz_put h47 0 (cO 3 [vR 1, vR 2, vR 6, vN, vN, vJ 0]))
        generalize hhh50 : zz_put h47 0 (cO 3 [vR 1, vR 2, vR 6, vN, vN, vJ 0]) = h50 at a50 g50_0 g50_1 g50_2 g50_3 g50_4 g50_5 g50_6 g50_7 g50_8 g50_9 ⊢
        clear hhh50
        refine aw_aload_n cx 54 dX4_init_53 rfl rfl ?_
        refine aw_new cx 57 dX4_init_54 rfl nwX4_27 (zz_rmk mX4_init hRm hNS 9 111 a50 rfl) ?_
        have i50 : h50.1.1 = 10 := by rw [a50, hid]
        rw [i50]
        refine aw_dup cx 58 dX4_init_57 rfl rfl ?_
        refine aw_I0n cx 61 mX0_init dX4_init_58 rfl okmX0_init lkX4_29 (zz_rck mX4_init hRm hNS 10 118 (by rw [zz_new_1, a50]) rfl) (Nat.le_of_ble_eq_true rfl) ?_
        refine s_X0_init (o := 10) (by rw [zz_new_1, i50]) (by rw [zz_get_new, if_pos i50.symm]) (fun h58 e58 x58 y58 => ⟨rfl, ?_⟩)
        obtain ⟨x58_0, x58_1, x58_2, x58_3, x58_4⟩ := x58
        have z58 : zz_get h58 0 = cO 3 [vR 1, vR 2, vR 6, vN, vN, vJ 0] := by
          rw [y58 0 (by omega), zz_get_new, if_neg (by omega)]
          exact g50_0
        refine aw_putfield cx 64 dX4_init_61 rfl fdX4_30 (by first | assumption | exact zz_gs _ _ _ | exact (zz_gn (by omega)).trans (by assumption) | exact (hc_x (by omega)).trans (by assumption) | (rw [zz_get_new, if_neg (by omega)]; assumption) | exact b80.2.1) (by exact Nat.le_of_ble_eq_true rfl) rfl ?_
        dsimp only [List.set]
        have a61 : (zz_put h58 0 (cO 3 [vR 1, vR 2, vR 6, vR 10, vN, vJ 0])).1 = (h.1.1 + 14, h.1.2 + 337) := (by rw [zz_put_1, e58, zz_new_1, a50])
        have g61_0 : zz_get (zz_put h58 0 (cO 3 [vR 1, vR 2, vR 6, vR 10, vN, vJ 0])) 0 = cO 3 [vR 1, vR 2, vR 6, vR 10, vN, vJ 0] := zz_gs _ _ _
        have g61_1 : zz_get (zz_put h58 0 (cO 3 [vR 1, vR 2, vR 6, vR 10, vN, vJ 0])) 1 = cA 5 vW1 := (by rw [zz_gn (by omega), y58 1 (by omega), zz_get_new, if_neg (by omega)]; exact g50_1)
        have g61_2 : zz_get (zz_put h58 0 (cO 3 [vR 1, vR 2, vR 6, vR 10, vN, vJ 0])) 2 = cWk 2 1 := (by rw [zz_gn (by omega), y58 2 (by omega), zz_get_new, if_neg (by omega)]; exact g50_2)
        have g61_3 : zz_get (zz_put h58 0 (cO 3 [vR 1, vR 2, vR 6, vR 10, vN, vJ 0])) 3 = cL 5 (fun _ => 0) := (by rw [zz_gn (by omega), y58 3 (by omega), zz_get_new, if_neg (by omega)]; exact g50_3)
        have g61_4 : zz_get (zz_put h58 0 (cO 3 [vR 1, vR 2, vR 6, vR 10, vN, vJ 0])) 4 = cL 8 (fun _ => 0) := (by rw [zz_gn (by omega), y58 4 (by omega), zz_get_new, if_neg (by omega)]; exact g50_4)
        have g61_5 : zz_get (zz_put h58 0 (cO 3 [vR 1, vR 2, vR 6, vR 10, vN, vJ 0])) 5 = cL 8 (fun _ => 0) := (by rw [zz_gn (by omega), y58 5 (by omega), zz_get_new, if_neg (by omega)]; exact g50_5)
        have g61_6 : zz_get (zz_put h58 0 (cO 3 [vR 1, vR 2, vR 6, vR 10, vN, vJ 0])) 6 = cDiv 6 0 := (by rw [zz_gn (by omega), y58 6 (by omega), zz_get_new, if_neg (by omega)]; exact g50_6)
        have g61_7 : zz_get (zz_put h58 0 (cO 3 [vR 1, vR 2, vR 6, vR 10, vN, vJ 0])) 7 = cA 8 (fun _ => 0) := (by rw [zz_gn (by omega), y58 7 (by omega), zz_get_new, if_neg (by omega)]; exact g50_7)
        have g61_8 : zz_get (zz_put h58 0 (cO 3 [vR 1, vR 2, vR 6, vR 10, vN, vJ 0])) 8 = cA 5 (fun _ => 0) := (by rw [zz_gn (by omega), y58 8 (by omega), zz_get_new, if_neg (by omega)]; exact g50_8)
        have g61_9 : zz_get (zz_put h58 0 (cO 3 [vR 1, vR 2, vR 6, vR 10, vN, vJ 0])) 9 = cA 64 (fun _ => 0) := (by rw [zz_gn (by omega), y58 9 (by omega), zz_get_new, if_neg (by omega)]; exact g50_9)
        have g61_10 : zz_get (zz_put h58 0 (cO 3 [vR 1, vR 2, vR 6, vR 10, vN, vJ 0])) 10 = cCol 10 1 1 0 := (zz_gn (by omega)).trans x58_0
        have g61_11 : zz_get (zz_put h58 0 (cO 3 [vR 1, vR 2, vR 6, vR 10, vN, vJ 0])) 11 = cA 64 (fun _ => 0) := (zz_gn (by omega)).trans x58_1
        have g61_12 : zz_get (zz_put h58 0 (cO 3 [vR 1, vR 2, vR 6, vR 10, vN, vJ 0])) 12 = cA 5 (fun _ => 0) := (zz_gn (by omega)).trans x58_2
        have g61_13 : zz_get (zz_put h58 0 (cO 3 [vR 1, vR 2, vR 6, vR 10, vN, vJ 0])) 13 = cA 125 (fun _ => 0) := (zz_gn (by omega)).trans x58_3
        have g61_14 : zz_get (zz_put h58 0 (cO 3 [vR 1, vR 2, vR 6, vR 10, vN, vJ 0])) 14 = cA 25 (fun _ => 0) := (zz_gn (by omega)).trans x58_4
        change AW X 64 _ _ (zz_put h58 0 (cO 3 [vR 1, vR 2, vR 6, vR 10, vN, vJ 0]))
        generalize hhh61 : zz_put h58 0 (cO 3 [vR 1, vR 2, vR 6, vR 10, vN, vJ 0]) = h61 at a61 g61_0 g61_1 g61_2 g61_3 g61_4 g61_5 g61_6 g61_7 g61_8 g61_9 g61_10 g61_11 g61_12 g61_13 g61_14 ⊢
        clear hhh61
        refine aw_aload_n cx 65 dX4_init_64 rfl rfl ?_
        refine aw_new cx 68 dX4_init_65 rfl nwX4_27 (zz_rmk mX4_init hRm hNS 14 337 a61 rfl) ?_
        have i61 : h61.1.1 = 15 := by rw [a61, hid]
        rw [i61]
        refine aw_dup cx 69 dX4_init_68 rfl rfl ?_
        refine aw_I0n cx 72 mX0_init dX4_init_69 rfl okmX0_init lkX4_29 (zz_rck mX4_init hRm hNS 15 344 (by rw [zz_new_1, a61]) rfl) (Nat.le_of_ble_eq_true rfl) ?_
        refine s_X0_init (o := 15) (by rw [zz_new_1, i61]) (by rw [zz_get_new, if_pos i61.symm]) (fun h69 e69 x69 y69 => ⟨rfl, ?_⟩)
        obtain ⟨x69_0, x69_1, x69_2, x69_3, x69_4⟩ := x69
        have z69 : zz_get h69 0 = cO 3 [vR 1, vR 2, vR 6, vR 10, vN, vJ 0] := by
          rw [y69 0 (by omega), zz_get_new, if_neg (by omega)]
          exact g61_0
        refine aw_putfield cx 75 dX4_init_72 rfl fdX4_34 (by first | assumption | exact zz_gs _ _ _ | exact (zz_gn (by omega)).trans (by assumption) | exact (hc_x (by omega)).trans (by assumption) | (rw [zz_get_new, if_neg (by omega)]; assumption) | exact b80.2.1) (by exact Nat.le_of_ble_eq_true rfl) rfl ?_
        dsimp only [List.set]
        have a72 : (zz_put h69 0 (cO 3 [vR 1, vR 2, vR 6, vR 10, vR 15, vJ 0])).1 = (h.1.1 + 19, h.1.2 + 563) := (by rw [zz_put_1, e69, zz_new_1, a61])
        have g72_0 : zz_get (zz_put h69 0 (cO 3 [vR 1, vR 2, vR 6, vR 10, vR 15, vJ 0])) 0 = cO 3 [vR 1, vR 2, vR 6, vR 10, vR 15, vJ 0] := zz_gs _ _ _
        have g72_1 : zz_get (zz_put h69 0 (cO 3 [vR 1, vR 2, vR 6, vR 10, vR 15, vJ 0])) 1 = cA 5 vW1 := (by rw [zz_gn (by omega), y69 1 (by omega), zz_get_new, if_neg (by omega)]; exact g61_1)
        have g72_2 : zz_get (zz_put h69 0 (cO 3 [vR 1, vR 2, vR 6, vR 10, vR 15, vJ 0])) 2 = cWk 2 1 := (by rw [zz_gn (by omega), y69 2 (by omega), zz_get_new, if_neg (by omega)]; exact g61_2)
        have g72_3 : zz_get (zz_put h69 0 (cO 3 [vR 1, vR 2, vR 6, vR 10, vR 15, vJ 0])) 3 = cL 5 (fun _ => 0) := (by rw [zz_gn (by omega), y69 3 (by omega), zz_get_new, if_neg (by omega)]; exact g61_3)
        have g72_4 : zz_get (zz_put h69 0 (cO 3 [vR 1, vR 2, vR 6, vR 10, vR 15, vJ 0])) 4 = cL 8 (fun _ => 0) := (by rw [zz_gn (by omega), y69 4 (by omega), zz_get_new, if_neg (by omega)]; exact g61_4)
        have g72_5 : zz_get (zz_put h69 0 (cO 3 [vR 1, vR 2, vR 6, vR 10, vR 15, vJ 0])) 5 = cL 8 (fun _ => 0) := (by rw [zz_gn (by omega), y69 5 (by omega), zz_get_new, if_neg (by omega)]; exact g61_5)
        have g72_6 : zz_get (zz_put h69 0 (cO 3 [vR 1, vR 2, vR 6, vR 10, vR 15, vJ 0])) 6 = cDiv 6 0 := (by rw [zz_gn (by omega), y69 6 (by omega), zz_get_new, if_neg (by omega)]; exact g61_6)
        have g72_7 : zz_get (zz_put h69 0 (cO 3 [vR 1, vR 2, vR 6, vR 10, vR 15, vJ 0])) 7 = cA 8 (fun _ => 0) := (by rw [zz_gn (by omega), y69 7 (by omega), zz_get_new, if_neg (by omega)]; exact g61_7)
        have g72_8 : zz_get (zz_put h69 0 (cO 3 [vR 1, vR 2, vR 6, vR 10, vR 15, vJ 0])) 8 = cA 5 (fun _ => 0) := (by rw [zz_gn (by omega), y69 8 (by omega), zz_get_new, if_neg (by omega)]; exact g61_8)
        have g72_9 : zz_get (zz_put h69 0 (cO 3 [vR 1, vR 2, vR 6, vR 10, vR 15, vJ 0])) 9 = cA 64 (fun _ => 0) := (by rw [zz_gn (by omega), y69 9 (by omega), zz_get_new, if_neg (by omega)]; exact g61_9)
        have g72_10 : zz_get (zz_put h69 0 (cO 3 [vR 1, vR 2, vR 6, vR 10, vR 15, vJ 0])) 10 = cCol 10 1 1 0 := (by rw [zz_gn (by omega), y69 10 (by omega), zz_get_new, if_neg (by omega)]; exact g61_10)
        have g72_11 : zz_get (zz_put h69 0 (cO 3 [vR 1, vR 2, vR 6, vR 10, vR 15, vJ 0])) 11 = cA 64 (fun _ => 0) := (by rw [zz_gn (by omega), y69 11 (by omega), zz_get_new, if_neg (by omega)]; exact g61_11)
        have g72_12 : zz_get (zz_put h69 0 (cO 3 [vR 1, vR 2, vR 6, vR 10, vR 15, vJ 0])) 12 = cA 5 (fun _ => 0) := (by rw [zz_gn (by omega), y69 12 (by omega), zz_get_new, if_neg (by omega)]; exact g61_12)
        have g72_13 : zz_get (zz_put h69 0 (cO 3 [vR 1, vR 2, vR 6, vR 10, vR 15, vJ 0])) 13 = cA 125 (fun _ => 0) := (by rw [zz_gn (by omega), y69 13 (by omega), zz_get_new, if_neg (by omega)]; exact g61_13)
        have g72_14 : zz_get (zz_put h69 0 (cO 3 [vR 1, vR 2, vR 6, vR 10, vR 15, vJ 0])) 14 = cA 25 (fun _ => 0) := (by rw [zz_gn (by omega), y69 14 (by omega), zz_get_new, if_neg (by omega)]; exact g61_14)
        have g72_15 : zz_get (zz_put h69 0 (cO 3 [vR 1, vR 2, vR 6, vR 10, vR 15, vJ 0])) 15 = cCol 15 1 1 0 := (zz_gn (by omega)).trans x69_0
        have g72_16 : zz_get (zz_put h69 0 (cO 3 [vR 1, vR 2, vR 6, vR 10, vR 15, vJ 0])) 16 = cA 64 (fun _ => 0) := (zz_gn (by omega)).trans x69_1
        have g72_17 : zz_get (zz_put h69 0 (cO 3 [vR 1, vR 2, vR 6, vR 10, vR 15, vJ 0])) 17 = cA 5 (fun _ => 0) := (zz_gn (by omega)).trans x69_2
        have g72_18 : zz_get (zz_put h69 0 (cO 3 [vR 1, vR 2, vR 6, vR 10, vR 15, vJ 0])) 18 = cA 125 (fun _ => 0) := (zz_gn (by omega)).trans x69_3
        have g72_19 : zz_get (zz_put h69 0 (cO 3 [vR 1, vR 2, vR 6, vR 10, vR 15, vJ 0])) 19 = cA 25 (fun _ => 0) := (zz_gn (by omega)).trans x69_4
        change AW X 75 _ _ (zz_put h69 0 (cO 3 [vR 1, vR 2, vR 6, vR 10, vR 15, vJ 0]))
        generalize hhh72 : zz_put h69 0 (cO 3 [vR 1, vR 2, vR 6, vR 10, vR 15, vJ 0]) = h72 at a72 g72_0 g72_1 g72_2 g72_3 g72_4 g72_5 g72_6 g72_7 g72_8 g72_9 g72_10 g72_11 g72_12 g72_13 g72_14 g72_15 g72_16 g72_17 g72_18 g72_19 ⊢
        clear hhh72
        have hXC : XC h72 10 15 (fun _ => 0) (fun _ => 0) (fun _ => 0) (fun _ => 0) 1 1 0 vW1 0 := ⟨Or.inl ⟨rfl, rfl⟩, g72_0, g72_1, ⟨g72_10, g72_11, g72_12, g72_13, g72_14⟩, ⟨_, _, _, _, _, _, _, g72_15, g72_16, g72_17, g72_18, g72_19⟩, ⟨_, _, _, _, g72_2, g72_3, g72_4, g72_5⟩, ⟨_, _, _, _, g72_6, g72_7, g72_8, g72_9⟩⟩
        refine aw_aload_n cx 76 dX4_init_75 rfl rfl ?_
        refine aw_getfield cx 79 dX4_init_76 rfl fdX4_30 (by first | assumption | exact zz_gs _ _ _ | exact (zz_gn (by omega)).trans (by assumption) | exact (hc_x (by omega)).trans (by assumption) | (rw [zz_get_new, if_neg (by omega)]; assumption) | exact b80.2.1) (by rfl) ?_
        refine aw_iconst cx 80 dX4_init_79 rfl ?_
        refine aw_V1n cx 83 mX0_begin (ci := 0) dX4_init_80 rfl okmX0_begin lkX4_37 (by first | assumption | exact zz_gs _ _ _ | exact (zz_gn (by omega)).trans (by assumption) | exact (hc_x (by omega)).trans (by assumption) | (rw [zz_get_new, if_neg (by omega)]; assumption) | exact b80.2.1) ⟨rfl, by decide⟩ (zz_rck mX4_init hRm hNS 19 563 a72 rfl) (Nat.le_of_ble_eq_true rfl) ?_
        rw [xc_p hXC]
        refine s_X0_begin ⟨by omega, by omega⟩ (fun C80 F80 Nu80 Co80 r80 f80 m80 => ⟨rfl, ?_⟩)
        have b80 := xc_now (C' := C80) (F' := F80) (Nu' := Nu80) (Co' := Co80) (n' := 1) (r' := r80) (f' := f80) hXC
        refine aw_aload_n cx 84 dX4_init_83 rfl rfl ?_
        refine aw_lconst cx 85 0 dX4_init_84 rfl (by decide +kernel) ?_
        refine aw_putfield cx 88 dX4_init_85 rfl fdX4_41 (by first | assumption | exact zz_gs _ _ _ | exact (zz_gn (by omega)).trans (by assumption) | exact (hc_x (by omega)).trans (by assumption) | (rw [zz_get_new, if_neg (by omega)]; assumption) | exact b80.2.1) (by exact Nat.le_of_ble_eq_true rfl) rfl ?_
        dsimp only [List.set]
        refine aw_return cx dX4_init_88 ?_
        refine hRet _ _ rfl a72 ?_
        refine k _ a72 ⟨10, 15, _, _, _, _, _, _, xc_tr b80, m80, vW1_I⟩
      · refine aw_aload_n cx 19 dX4_init_18 rfl rfl ?_
        refine aw_getfield cx 22 dX4_init_19 rfl fdX4_9 (by first | assumption | exact zz_gs _ _ _ | exact (zz_gn (by omega)).trans (by assumption) | exact (hc_x (by omega)).trans (by assumption) | (rw [zz_get_new, if_neg (by omega)]; assumption) | exact b80.2.1) (by rfl) ?_
        refine aw_iload_n cx 23 dX4_init_22 rfl rfl ?_
        refine aw_iconst cx 24 dX4_init_23 rfl ?_
        refine aw_iastore cx 25 dX4_init_24 rfl (by first | assumption | exact zz_gs _ _ _ | exact (zz_gn (by omega)).trans (by assumption) | exact (hc_x (by omega)).trans (by assumption) | (rw [zz_get_new, if_neg (by omega)]; assumption) | exact b80.2.1) ⟨by omega, by omega⟩ (by decide) ?_
        refine aw_iinc cx 28 dX4_init_25 rfl rfl (Nat.le_of_ble_eq_true rfl) rfl ?_
        dsimp only [List.set]
        refine aw_goto cx 13 dX4_init_28 (by decide) ?_
        rw [zz_put_put]
        exact ih13 (c + 1) _ (by omega) ⟨by omega, by omega⟩ (fun x => by
          unfold zz_up
          rw [hx x]
          by_cases e : x = c
          · rw [if_pos e, if_pos (by omega)]
          · rw [if_neg e]
            first | (split <;> first | (rw [if_pos (by omega)]; done) | (rw [if_neg (by omega)]; done)))
  rw [show h8 = zz_put h8 1 (cA 5 (fun _ => 0)) from (zz_put_get h8 1 _ g8_1).symm]
  exact lp13 6 0 _ (by omega) ⟨by omega, by omega⟩ (fun x => by rw [if_neg (by omega)])
