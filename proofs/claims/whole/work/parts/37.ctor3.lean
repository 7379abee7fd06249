set_option maxRecDepth 100000 in
set_option maxHeartbeats 4000000 in
theorem s_X5_init {h : AH} {Q : Option AV → AH → Prop} (hid : h.1.1 = 21) (h0 : zz_get h 20 = cO 4 [vI 0, vJ 0, vI 0, vN, vN, vN, vN, vN, vN, vN, vN, vN]) (k : ∀ h', h'.1 = (h.1.1 + 9, h.1.2 + 172) → MI h' 1 gB vW1 0 → (∀ j, j < 20 → zz_get h' j = zz_get h j) → Q none h') : MC mX5_init [vR 20] h Q := by
  refine mc_start mX5_init RX5 "<init>" ⟨rfl, rfl, by decide +kernel⟩ [some (vR 20), none] ⟨1, rfl⟩ rfl (fun X cx hRm hNS hRet => ?_)
  refine aw_aload_n cx 1 dX5_init_0 rfl rfl ?_
  refine aw_objInit cx 4 dX5_init_1 rfl lkX5_1 lk_oi lk_oc ⟨by rw [hRm]; exact (Nat.le_of_ble_eq_true rfl), by rw [hRm]; exact (Nat.le_of_ble_eq_true rfl)⟩ ?_
  refine aw_aload_n cx 5 dX5_init_4 rfl rfl ?_
  refine aw_iconst cx 6 dX5_init_5 rfl ?_
  refine aw_putfield cx 9 dX5_init_6 rfl fdX5_7 (by first | with_reducible assumption | with_reducible exact zz_gs _ _ _ | exact (zz_gn (by omega)).trans (by assumption)) (by exact Nat.le_of_ble_eq_true rfl) rfl ?_
  dsimp only [List.set]
  have a0 : (zz_put h 20 (cO 4 [vI 0, vJ 0, vI 1, vN, vN, vN, vN, vN, vN, vN, vN, vN])).1 = (h.1.1 + 0, h.1.2 + 0) := rfl
  have f0_20 : zz_get (zz_put h 20 (cO 4 [vI 0, vJ 0, vI 1, vN, vN, vN, vN, vN, vN, vN, vN, vN])) 20 = cO 4 [vI 0, vJ 0, vI 1, vN, vN, vN, vN, vN, vN, vN, vN, vN] := zz_gs _ _ _
  have o0 : ∀ j, j < 20 → zz_get (zz_put h 20 (cO 4 [vI 0, vJ 0, vI 1, vN, vN, vN, vN, vN, vN, vN, vN, vN])) j = zz_get h j := fun j hj => zz_gn (by omega)
  change AW X 9 _ _ (zz_put h 20 (cO 4 [vI 0, vJ 0, vI 1, vN, vN, vN, vN, vN, vN, vN, vN, vN]))
  generalize hhq0 : zz_put h 20 (cO 4 [vI 0, vJ 0, vI 1, vN, vN, vN, vN, vN, vN, vN, vN, vN]) = q0 at a0 f0_20 o0 ⊢
  clear hhq0
  refine aw_aload_n cx 10 dX5_init_9 rfl rfl ?_
  refine aw_bipush cx 12 dX5_init_10 rfl (by decide +kernel) ?_
  refine aw_newI cx 14 dX5_init_12 rfl (by rfl) (by decide) (zz_rmk mX5_init hRm hNS 0 0 a0 rfl) ?_
  have i0 : q0.1.1 = 21 := by rw [a0, hid]
  rw [i0]
  have z0 : zz_get (zz_new q0 64 (cA 64 (fun _ => 0))) 20 = cO 4 [vI 0, vJ 0, vI 1, vN, vN, vN, vN, vN, vN, vN, vN, vN] := by
    rw [zz_get_new, if_neg (by omega)]
    exact f0_20
  refine aw_putfinal cx 17 dX5_init_14 rfl fdX5_13 ⟨rfl, by decide +kernel⟩ (by first | with_reducible assumption | with_reducible exact zz_gs _ _ _ | exact (zz_gn (by omega)).trans (by assumption)) (by exact Nat.le_of_ble_eq_true rfl) rfl ?_
  dsimp only [List.set]
  have a1 : (zz_put (zz_new q0 64 (cA 64 (fun _ => 0))) 20 (cO 4 [vI 0, vJ 0, vI 1, vR 21, vN, vN, vN, vN, vN, vN, vN, vN])).1 = (h.1.1 + 1, h.1.2 + 64) := (by rw [zz_put_1, zz_new_1, a0] <;> rfl)
  have f1_20 : zz_get (zz_put (zz_new q0 64 (cA 64 (fun _ => 0))) 20 (cO 4 [vI 0, vJ 0, vI 1, vR 21, vN, vN, vN, vN, vN, vN, vN, vN])) 20 = cO 4 [vI 0, vJ 0, vI 1, vR 21, vN, vN, vN, vN, vN, vN, vN, vN] := zz_gs _ _ _
  have f1_21 : zz_get (zz_put (zz_new q0 64 (cA 64 (fun _ => 0))) 20 (cO 4 [vI 0, vJ 0, vI 1, vR 21, vN, vN, vN, vN, vN, vN, vN, vN])) 21 = cA 64 (fun _ => 0) := (by rw [zz_gn (by omega), zz_get_new, if_pos i0.symm])
  have o1 : ∀ j, j < 20 → zz_get (zz_put (zz_new q0 64 (cA 64 (fun _ => 0))) 20 (cO 4 [vI 0, vJ 0, vI 1, vR 21, vN, vN, vN, vN, vN, vN, vN, vN])) j = zz_get h j := fun j hj => by rw [zz_gn (by omega), zz_get_new, if_neg (by omega)]; exact o0 j hj
  change AW X 17 _ _ (zz_put (zz_new q0 64 (cA 64 (fun _ => 0))) 20 (cO 4 [vI 0, vJ 0, vI 1, vR 21, vN, vN, vN, vN, vN, vN, vN, vN]))
  generalize hhq1 : zz_put (zz_new q0 64 (cA 64 (fun _ => 0))) 20 (cO 4 [vI 0, vJ 0, vI 1, vR 21, vN, vN, vN, vN, vN, vN, vN, vN]) = q1 at a1 f1_20 f1_21 o1 ⊢
  clear hhq1
  refine aw_aload_n cx 18 dX5_init_17 rfl rfl ?_
  refine aw_bipush cx 20 dX5_init_18 rfl (by decide +kernel) ?_
  refine aw_newI cx 22 dX5_init_20 rfl (by rfl) (by decide) (zz_rmk mX5_init hRm hNS 1 64 a1 rfl) ?_
  have i1 : q1.1.1 = 22 := by rw [a1, hid]
  rw [i1]
  have z1 : zz_get (zz_new q1 64 (cA 64 (fun _ => 0))) 20 = cO 4 [vI 0, vJ 0, vI 1, vR 21, vN, vN, vN, vN, vN, vN, vN, vN] := by
    rw [zz_get_new, if_neg (by omega)]
    exact f1_20
  refine aw_putfinal cx 25 dX5_init_22 rfl fdX5_17 ⟨rfl, by decide +kernel⟩ (by first | with_reducible assumption | with_reducible exact zz_gs _ _ _ | exact (zz_gn (by omega)).trans (by assumption)) (by exact Nat.le_of_ble_eq_true rfl) rfl ?_
  dsimp only [List.set]
  have a2 : (zz_put (zz_new q1 64 (cA 64 (fun _ => 0))) 20 (cO 4 [vI 0, vJ 0, vI 1, vR 21, vR 22, vN, vN, vN, vN, vN, vN, vN])).1 = (h.1.1 + 2, h.1.2 + 128) := (by rw [zz_put_1, zz_new_1, a1] <;> rfl)
  have f2_20 : zz_get (zz_put (zz_new q1 64 (cA 64 (fun _ => 0))) 20 (cO 4 [vI 0, vJ 0, vI 1, vR 21, vR 22, vN, vN, vN, vN, vN, vN, vN])) 20 = cO 4 [vI 0, vJ 0, vI 1, vR 21, vR 22, vN, vN, vN, vN, vN, vN, vN] := zz_gs _ _ _
  have f2_21 : zz_get (zz_put (zz_new q1 64 (cA 64 (fun _ => 0))) 20 (cO 4 [vI 0, vJ 0, vI 1, vR 21, vR 22, vN, vN, vN, vN, vN, vN, vN])) 21 = cA 64 (fun _ => 0) := (by rw [zz_gn (by omega), zz_get_new, if_neg (by omega)]; exact f1_21)
  have f2_22 : zz_get (zz_put (zz_new q1 64 (cA 64 (fun _ => 0))) 20 (cO 4 [vI 0, vJ 0, vI 1, vR 21, vR 22, vN, vN, vN, vN, vN, vN, vN])) 22 = cA 64 (fun _ => 0) := (by rw [zz_gn (by omega), zz_get_new, if_pos i1.symm])
  have o2 : ∀ j, j < 20 → zz_get (zz_put (zz_new q1 64 (cA 64 (fun _ => 0))) 20 (cO 4 [vI 0, vJ 0, vI 1, vR 21, vR 22, vN, vN, vN, vN, vN, vN, vN])) j = zz_get h j := fun j hj => by rw [zz_gn (by omega), zz_get_new, if_neg (by omega)]; exact o1 j hj
  change AW X 25 _ _ (zz_put (zz_new q1 64 (cA 64 (fun _ => 0))) 20 (cO 4 [vI 0, vJ 0, vI 1, vR 21, vR 22, vN, vN, vN, vN, vN, vN, vN]))
  generalize hhq2 : zz_put (zz_new q1 64 (cA 64 (fun _ => 0))) 20 (cO 4 [vI 0, vJ 0, vI 1, vR 21, vR 22, vN, vN, vN, vN, vN, vN, vN]) = q2 at a2 f2_20 f2_21 f2_22 o2 ⊢
  clear hhq2
  refine aw_aload_n cx 26 dX5_init_25 rfl rfl ?_
  refine aw_iconst cx 27 dX5_init_26 rfl ?_
  refine aw_newI cx 29 dX5_init_27 rfl (by rfl) (by decide) (zz_rmk mX5_init hRm hNS 2 128 a2 rfl) ?_
  have i2 : q2.1.1 = 23 := by rw [a2, hid]
  rw [i2]
  have z2 : zz_get (zz_new q2 5 (cA 5 (fun _ => 0))) 20 = cO 4 [vI 0, vJ 0, vI 1, vR 21, vR 22, vN, vN, vN, vN, vN, vN, vN] := by
    rw [zz_get_new, if_neg (by omega)]
    exact f2_20
  refine aw_putfinal cx 32 dX5_init_29 rfl fdX5_20 ⟨rfl, by decide +kernel⟩ (by first | with_reducible assumption | with_reducible exact zz_gs _ _ _ | exact (zz_gn (by omega)).trans (by assumption)) (by exact Nat.le_of_ble_eq_true rfl) rfl ?_
  dsimp only [List.set]
  have a3 : (zz_put (zz_new q2 5 (cA 5 (fun _ => 0))) 20 (cO 4 [vI 0, vJ 0, vI 1, vR 21, vR 22, vR 23, vN, vN, vN, vN, vN, vN])).1 = (h.1.1 + 3, h.1.2 + 133) := (by rw [zz_put_1, zz_new_1, a2] <;> rfl)
  have f3_20 : zz_get (zz_put (zz_new q2 5 (cA 5 (fun _ => 0))) 20 (cO 4 [vI 0, vJ 0, vI 1, vR 21, vR 22, vR 23, vN, vN, vN, vN, vN, vN])) 20 = cO 4 [vI 0, vJ 0, vI 1, vR 21, vR 22, vR 23, vN, vN, vN, vN, vN, vN] := zz_gs _ _ _
  have f3_21 : zz_get (zz_put (zz_new q2 5 (cA 5 (fun _ => 0))) 20 (cO 4 [vI 0, vJ 0, vI 1, vR 21, vR 22, vR 23, vN, vN, vN, vN, vN, vN])) 21 = cA 64 (fun _ => 0) := (by rw [zz_gn (by omega), zz_get_new, if_neg (by omega)]; exact f2_21)
  have f3_22 : zz_get (zz_put (zz_new q2 5 (cA 5 (fun _ => 0))) 20 (cO 4 [vI 0, vJ 0, vI 1, vR 21, vR 22, vR 23, vN, vN, vN, vN, vN, vN])) 22 = cA 64 (fun _ => 0) := (by rw [zz_gn (by omega), zz_get_new, if_neg (by omega)]; exact f2_22)
  have f3_23 : zz_get (zz_put (zz_new q2 5 (cA 5 (fun _ => 0))) 20 (cO 4 [vI 0, vJ 0, vI 1, vR 21, vR 22, vR 23, vN, vN, vN, vN, vN, vN])) 23 = cA 5 (fun _ => 0) := (by rw [zz_gn (by omega), zz_get_new, if_pos i2.symm])
  have o3 : ∀ j, j < 20 → zz_get (zz_put (zz_new q2 5 (cA 5 (fun _ => 0))) 20 (cO 4 [vI 0, vJ 0, vI 1, vR 21, vR 22, vR 23, vN, vN, vN, vN, vN, vN])) j = zz_get h j := fun j hj => by rw [zz_gn (by omega), zz_get_new, if_neg (by omega)]; exact o2 j hj
  change AW X 32 _ _ (zz_put (zz_new q2 5 (cA 5 (fun _ => 0))) 20 (cO 4 [vI 0, vJ 0, vI 1, vR 21, vR 22, vR 23, vN, vN, vN, vN, vN, vN]))
  generalize hhq3 : zz_put (zz_new q2 5 (cA 5 (fun _ => 0))) 20 (cO 4 [vI 0, vJ 0, vI 1, vR 21, vR 22, vR 23, vN, vN, vN, vN, vN, vN]) = q3 at a3 f3_20 f3_21 f3_22 f3_23 o3 ⊢
  clear hhq3
  refine aw_aload_n cx 33 dX5_init_32 rfl rfl ?_
  refine aw_iconst cx 34 dX5_init_33 rfl ?_
  refine aw_newI cx 36 dX5_init_34 rfl (by rfl) (by decide) (zz_rmk mX5_init hRm hNS 3 133 a3 rfl) ?_
  have i3 : q3.1.1 = 24 := by rw [a3, hid]
  rw [i3]
  have z3 : zz_get (zz_new q3 5 (cA 5 (fun _ => 0))) 20 = cO 4 [vI 0, vJ 0, vI 1, vR 21, vR 22, vR 23, vN, vN, vN, vN, vN, vN] := by
    rw [zz_get_new, if_neg (by omega)]
    exact f3_20
  refine aw_putfinal cx 39 dX5_init_36 rfl fdX5_23 ⟨rfl, by decide +kernel⟩ (by first | with_reducible assumption | with_reducible exact zz_gs _ _ _ | exact (zz_gn (by omega)).trans (by assumption)) (by exact Nat.le_of_ble_eq_true rfl) rfl ?_
  dsimp only [List.set]
  have a4 : (zz_put (zz_new q3 5 (cA 5 (fun _ => 0))) 20 (cO 4 [vI 0, vJ 0, vI 1, vR 21, vR 22, vR 23, vR 24, vN, vN, vN, vN, vN])).1 = (h.1.1 + 4, h.1.2 + 138) := (by rw [zz_put_1, zz_new_1, a3] <;> rfl)
  have f4_20 : zz_get (zz_put (zz_new q3 5 (cA 5 (fun _ => 0))) 20 (cO 4 [vI 0, vJ 0, vI 1, vR 21, vR 22, vR 23, vR 24, vN, vN, vN, vN, vN])) 20 = cO 4 [vI 0, vJ 0, vI 1, vR 21, vR 22, vR 23, vR 24, vN, vN, vN, vN, vN] := zz_gs _ _ _
  have f4_21 : zz_get (zz_put (zz_new q3 5 (cA 5 (fun _ => 0))) 20 (cO 4 [vI 0, vJ 0, vI 1, vR 21, vR 22, vR 23, vR 24, vN, vN, vN, vN, vN])) 21 = cA 64 (fun _ => 0) := (by rw [zz_gn (by omega), zz_get_new, if_neg (by omega)]; exact f3_21)
  have f4_22 : zz_get (zz_put (zz_new q3 5 (cA 5 (fun _ => 0))) 20 (cO 4 [vI 0, vJ 0, vI 1, vR 21, vR 22, vR 23, vR 24, vN, vN, vN, vN, vN])) 22 = cA 64 (fun _ => 0) := (by rw [zz_gn (by omega), zz_get_new, if_neg (by omega)]; exact f3_22)
  have f4_23 : zz_get (zz_put (zz_new q3 5 (cA 5 (fun _ => 0))) 20 (cO 4 [vI 0, vJ 0, vI 1, vR 21, vR 22, vR 23, vR 24, vN, vN, vN, vN, vN])) 23 = cA 5 (fun _ => 0) := (by rw [zz_gn (by omega), zz_get_new, if_neg (by omega)]; exact f3_23)
  have f4_24 : zz_get (zz_put (zz_new q3 5 (cA 5 (fun _ => 0))) 20 (cO 4 [vI 0, vJ 0, vI 1, vR 21, vR 22, vR 23, vR 24, vN, vN, vN, vN, vN])) 24 = cA 5 (fun _ => 0) := (by rw [zz_gn (by omega), zz_get_new, if_pos i3.symm])
  have o4 : ∀ j, j < 20 → zz_get (zz_put (zz_new q3 5 (cA 5 (fun _ => 0))) 20 (cO 4 [vI 0, vJ 0, vI 1, vR 21, vR 22, vR 23, vR 24, vN, vN, vN, vN, vN])) j = zz_get h j := fun j hj => by rw [zz_gn (by omega), zz_get_new, if_neg (by omega)]; exact o3 j hj
  change AW X 39 _ _ (zz_put (zz_new q3 5 (cA 5 (fun _ => 0))) 20 (cO 4 [vI 0, vJ 0, vI 1, vR 21, vR 22, vR 23, vR 24, vN, vN, vN, vN, vN]))
  generalize hhq4 : zz_put (zz_new q3 5 (cA 5 (fun _ => 0))) 20 (cO 4 [vI 0, vJ 0, vI 1, vR 21, vR 22, vR 23, vR 24, vN, vN, vN, vN, vN]) = q4 at a4 f4_20 f4_21 f4_22 f4_23 f4_24 o4 ⊢
  clear hhq4
  refine aw_aload_n cx 40 dX5_init_39 rfl rfl ?_
  refine aw_iconst cx 41 dX5_init_40 rfl ?_
  refine aw_newI cx 43 dX5_init_41 rfl (by rfl) (by decide) (zz_rmk mX5_init hRm hNS 4 138 a4 rfl) ?_
  have i4 : q4.1.1 = 25 := by rw [a4, hid]
  rw [i4]
  have z4 : zz_get (zz_new q4 5 (cA 5 (fun _ => 0))) 20 = cO 4 [vI 0, vJ 0, vI 1, vR 21, vR 22, vR 23, vR 24, vN, vN, vN, vN, vN] := by
    rw [zz_get_new, if_neg (by omega)]
    exact f4_20
  refine aw_putfinal cx 46 dX5_init_43 rfl fdX5_26 ⟨rfl, by decide +kernel⟩ (by first | with_reducible assumption | with_reducible exact zz_gs _ _ _ | exact (zz_gn (by omega)).trans (by assumption)) (by exact Nat.le_of_ble_eq_true rfl) rfl ?_
  dsimp only [List.set]
  have a5 : (zz_put (zz_new q4 5 (cA 5 (fun _ => 0))) 20 (cO 4 [vI 0, vJ 0, vI 1, vR 21, vR 22, vR 23, vR 24, vR 25, vN, vN, vN, vN])).1 = (h.1.1 + 5, h.1.2 + 143) := (by rw [zz_put_1, zz_new_1, a4] <;> rfl)
  have f5_20 : zz_get (zz_put (zz_new q4 5 (cA 5 (fun _ => 0))) 20 (cO 4 [vI 0, vJ 0, vI 1, vR 21, vR 22, vR 23, vR 24, vR 25, vN, vN, vN, vN])) 20 = cO 4 [vI 0, vJ 0, vI 1, vR 21, vR 22, vR 23, vR 24, vR 25, vN, vN, vN, vN] := zz_gs _ _ _
  have f5_21 : zz_get (zz_put (zz_new q4 5 (cA 5 (fun _ => 0))) 20 (cO 4 [vI 0, vJ 0, vI 1, vR 21, vR 22, vR 23, vR 24, vR 25, vN, vN, vN, vN])) 21 = cA 64 (fun _ => 0) := (by rw [zz_gn (by omega), zz_get_new, if_neg (by omega)]; exact f4_21)
  have f5_22 : zz_get (zz_put (zz_new q4 5 (cA 5 (fun _ => 0))) 20 (cO 4 [vI 0, vJ 0, vI 1, vR 21, vR 22, vR 23, vR 24, vR 25, vN, vN, vN, vN])) 22 = cA 64 (fun _ => 0) := (by rw [zz_gn (by omega), zz_get_new, if_neg (by omega)]; exact f4_22)
  have f5_23 : zz_get (zz_put (zz_new q4 5 (cA 5 (fun _ => 0))) 20 (cO 4 [vI 0, vJ 0, vI 1, vR 21, vR 22, vR 23, vR 24, vR 25, vN, vN, vN, vN])) 23 = cA 5 (fun _ => 0) := (by rw [zz_gn (by omega), zz_get_new, if_neg (by omega)]; exact f4_23)
  have f5_24 : zz_get (zz_put (zz_new q4 5 (cA 5 (fun _ => 0))) 20 (cO 4 [vI 0, vJ 0, vI 1, vR 21, vR 22, vR 23, vR 24, vR 25, vN, vN, vN, vN])) 24 = cA 5 (fun _ => 0) := (by rw [zz_gn (by omega), zz_get_new, if_neg (by omega)]; exact f4_24)
  have f5_25 : zz_get (zz_put (zz_new q4 5 (cA 5 (fun _ => 0))) 20 (cO 4 [vI 0, vJ 0, vI 1, vR 21, vR 22, vR 23, vR 24, vR 25, vN, vN, vN, vN])) 25 = cA 5 (fun _ => 0) := (by rw [zz_gn (by omega), zz_get_new, if_pos i4.symm])
  have o5 : ∀ j, j < 20 → zz_get (zz_put (zz_new q4 5 (cA 5 (fun _ => 0))) 20 (cO 4 [vI 0, vJ 0, vI 1, vR 21, vR 22, vR 23, vR 24, vR 25, vN, vN, vN, vN])) j = zz_get h j := fun j hj => by rw [zz_gn (by omega), zz_get_new, if_neg (by omega)]; exact o4 j hj
  change AW X 46 _ _ (zz_put (zz_new q4 5 (cA 5 (fun _ => 0))) 20 (cO 4 [vI 0, vJ 0, vI 1, vR 21, vR 22, vR 23, vR 24, vR 25, vN, vN, vN, vN]))
  generalize hhq5 : zz_put (zz_new q4 5 (cA 5 (fun _ => 0))) 20 (cO 4 [vI 0, vJ 0, vI 1, vR 21, vR 22, vR 23, vR 24, vR 25, vN, vN, vN, vN]) = q5 at a5 f5_20 f5_21 f5_22 f5_23 f5_24 f5_25 o5 ⊢
  clear hhq5
  refine aw_aload_n cx 47 dX5_init_46 rfl rfl ?_
  refine aw_bipush cx 49 dX5_init_47 rfl (by decide +kernel) ?_
  refine aw_newI cx 51 dX5_init_49 rfl (by rfl) (by decide) (zz_rmk mX5_init hRm hNS 5 143 a5 rfl) ?_
  have i5 : q5.1.1 = 26 := by rw [a5, hid]
  rw [i5]
  have z5 : zz_get (zz_new q5 8 (cA 8 (fun _ => 0))) 20 = cO 4 [vI 0, vJ 0, vI 1, vR 21, vR 22, vR 23, vR 24, vR 25, vN, vN, vN, vN] := by
    rw [zz_get_new, if_neg (by omega)]
    exact f5_20
  refine aw_putfinal cx 54 dX5_init_51 rfl fdX5_29 ⟨rfl, by decide +kernel⟩ (by first | with_reducible assumption | with_reducible exact zz_gs _ _ _ | exact (zz_gn (by omega)).trans (by assumption)) (by exact Nat.le_of_ble_eq_true rfl) rfl ?_
  dsimp only [List.set]
  have a6 : (zz_put (zz_new q5 8 (cA 8 (fun _ => 0))) 20 (cO 4 [vI 0, vJ 0, vI 1, vR 21, vR 22, vR 23, vR 24, vR 25, vR 26, vN, vN, vN])).1 = (h.1.1 + 6, h.1.2 + 151) := (by rw [zz_put_1, zz_new_1, a5] <;> rfl)
  have f6_20 : zz_get (zz_put (zz_new q5 8 (cA 8 (fun _ => 0))) 20 (cO 4 [vI 0, vJ 0, vI 1, vR 21, vR 22, vR 23, vR 24, vR 25, vR 26, vN, vN, vN])) 20 = cO 4 [vI 0, vJ 0, vI 1, vR 21, vR 22, vR 23, vR 24, vR 25, vR 26, vN, vN, vN] := zz_gs _ _ _
  have f6_21 : zz_get (zz_put (zz_new q5 8 (cA 8 (fun _ => 0))) 20 (cO 4 [vI 0, vJ 0, vI 1, vR 21, vR 22, vR 23, vR 24, vR 25, vR 26, vN, vN, vN])) 21 = cA 64 (fun _ => 0) := (by rw [zz_gn (by omega), zz_get_new, if_neg (by omega)]; exact f5_21)
  have f6_22 : zz_get (zz_put (zz_new q5 8 (cA 8 (fun _ => 0))) 20 (cO 4 [vI 0, vJ 0, vI 1, vR 21, vR 22, vR 23, vR 24, vR 25, vR 26, vN, vN, vN])) 22 = cA 64 (fun _ => 0) := (by rw [zz_gn (by omega), zz_get_new, if_neg (by omega)]; exact f5_22)
  have f6_23 : zz_get (zz_put (zz_new q5 8 (cA 8 (fun _ => 0))) 20 (cO 4 [vI 0, vJ 0, vI 1, vR 21, vR 22, vR 23, vR 24, vR 25, vR 26, vN, vN, vN])) 23 = cA 5 (fun _ => 0) := (by rw [zz_gn (by omega), zz_get_new, if_neg (by omega)]; exact f5_23)
  have f6_24 : zz_get (zz_put (zz_new q5 8 (cA 8 (fun _ => 0))) 20 (cO 4 [vI 0, vJ 0, vI 1, vR 21, vR 22, vR 23, vR 24, vR 25, vR 26, vN, vN, vN])) 24 = cA 5 (fun _ => 0) := (by rw [zz_gn (by omega), zz_get_new, if_neg (by omega)]; exact f5_24)
  have f6_25 : zz_get (zz_put (zz_new q5 8 (cA 8 (fun _ => 0))) 20 (cO 4 [vI 0, vJ 0, vI 1, vR 21, vR 22, vR 23, vR 24, vR 25, vR 26, vN, vN, vN])) 25 = cA 5 (fun _ => 0) := (by rw [zz_gn (by omega), zz_get_new, if_neg (by omega)]; exact f5_25)
  have f6_26 : zz_get (zz_put (zz_new q5 8 (cA 8 (fun _ => 0))) 20 (cO 4 [vI 0, vJ 0, vI 1, vR 21, vR 22, vR 23, vR 24, vR 25, vR 26, vN, vN, vN])) 26 = cA 8 (fun _ => 0) := (by rw [zz_gn (by omega), zz_get_new, if_pos i5.symm])
  have o6 : ∀ j, j < 20 → zz_get (zz_put (zz_new q5 8 (cA 8 (fun _ => 0))) 20 (cO 4 [vI 0, vJ 0, vI 1, vR 21, vR 22, vR 23, vR 24, vR 25, vR 26, vN, vN, vN])) j = zz_get h j := fun j hj => by rw [zz_gn (by omega), zz_get_new, if_neg (by omega)]; exact o5 j hj
  change AW X 54 _ _ (zz_put (zz_new q5 8 (cA 8 (fun _ => 0))) 20 (cO 4 [vI 0, vJ 0, vI 1, vR 21, vR 22, vR 23, vR 24, vR 25, vR 26, vN, vN, vN]))
  generalize hhq6 : zz_put (zz_new q5 8 (cA 8 (fun _ => 0))) 20 (cO 4 [vI 0, vJ 0, vI 1, vR 21, vR 22, vR 23, vR 24, vR 25, vR 26, vN, vN, vN]) = q6 at a6 f6_20 f6_21 f6_22 f6_23 f6_24 f6_25 f6_26 o6 ⊢
  clear hhq6
  refine aw_aload_n cx 55 dX5_init_54 rfl rfl ?_
  refine aw_iconst cx 56 dX5_init_55 rfl ?_
  refine aw_newI cx 58 dX5_init_56 rfl (by rfl) (by decide) (zz_rmk mX5_init hRm hNS 6 151 a6 rfl) ?_
  have i6 : q6.1.1 = 27 := by rw [a6, hid]
  rw [i6]
  have z6 : zz_get (zz_new q6 5 (cA 5 (fun _ => 0))) 20 = cO 4 [vI 0, vJ 0, vI 1, vR 21, vR 22, vR 23, vR 24, vR 25, vR 26, vN, vN, vN] := by
    rw [zz_get_new, if_neg (by omega)]
    exact f6_20
  refine aw_putfinal cx 61 dX5_init_58 rfl fdX5_32 ⟨rfl, by decide +kernel⟩ (by first | with_reducible assumption | with_reducible exact zz_gs _ _ _ | exact (zz_gn (by omega)).trans (by assumption)) (by exact Nat.le_of_ble_eq_true rfl) rfl ?_
  dsimp only [List.set]
  have a7 : (zz_put (zz_new q6 5 (cA 5 (fun _ => 0))) 20 (cO 4 [vI 0, vJ 0, vI 1, vR 21, vR 22, vR 23, vR 24, vR 25, vR 26, vR 27, vN, vN])).1 = (h.1.1 + 7, h.1.2 + 156) := (by rw [zz_put_1, zz_new_1, a6] <;> rfl)
  have f7_20 : zz_get (zz_put (zz_new q6 5 (cA 5 (fun _ => 0))) 20 (cO 4 [vI 0, vJ 0, vI 1, vR 21, vR 22, vR 23, vR 24, vR 25, vR 26, vR 27, vN, vN])) 20 = cO 4 [vI 0, vJ 0, vI 1, vR 21, vR 22, vR 23, vR 24, vR 25, vR 26, vR 27, vN, vN] := zz_gs _ _ _
  have f7_21 : zz_get (zz_put (zz_new q6 5 (cA 5 (fun _ => 0))) 20 (cO 4 [vI 0, vJ 0, vI 1, vR 21, vR 22, vR 23, vR 24, vR 25, vR 26, vR 27, vN, vN])) 21 = cA 64 (fun _ => 0) := (by rw [zz_gn (by omega), zz_get_new, if_neg (by omega)]; exact f6_21)
  have f7_22 : zz_get (zz_put (zz_new q6 5 (cA 5 (fun _ => 0))) 20 (cO 4 [vI 0, vJ 0, vI 1, vR 21, vR 22, vR 23, vR 24, vR 25, vR 26, vR 27, vN, vN])) 22 = cA 64 (fun _ => 0) := (by rw [zz_gn (by omega), zz_get_new, if_neg (by omega)]; exact f6_22)
  have f7_23 : zz_get (zz_put (zz_new q6 5 (cA 5 (fun _ => 0))) 20 (cO 4 [vI 0, vJ 0, vI 1, vR 21, vR 22, vR 23, vR 24, vR 25, vR 26, vR 27, vN, vN])) 23 = cA 5 (fun _ => 0) := (by rw [zz_gn (by omega), zz_get_new, if_neg (by omega)]; exact f6_23)
  have f7_24 : zz_get (zz_put (zz_new q6 5 (cA 5 (fun _ => 0))) 20 (cO 4 [vI 0, vJ 0, vI 1, vR 21, vR 22, vR 23, vR 24, vR 25, vR 26, vR 27, vN, vN])) 24 = cA 5 (fun _ => 0) := (by rw [zz_gn (by omega), zz_get_new, if_neg (by omega)]; exact f6_24)
  have f7_25 : zz_get (zz_put (zz_new q6 5 (cA 5 (fun _ => 0))) 20 (cO 4 [vI 0, vJ 0, vI 1, vR 21, vR 22, vR 23, vR 24, vR 25, vR 26, vR 27, vN, vN])) 25 = cA 5 (fun _ => 0) := (by rw [zz_gn (by omega), zz_get_new, if_neg (by omega)]; exact f6_25)
  have f7_26 : zz_get (zz_put (zz_new q6 5 (cA 5 (fun _ => 0))) 20 (cO 4 [vI 0, vJ 0, vI 1, vR 21, vR 22, vR 23, vR 24, vR 25, vR 26, vR 27, vN, vN])) 26 = cA 8 (fun _ => 0) := (by rw [zz_gn (by omega), zz_get_new, if_neg (by omega)]; exact f6_26)
  have f7_27 : zz_get (zz_put (zz_new q6 5 (cA 5 (fun _ => 0))) 20 (cO 4 [vI 0, vJ 0, vI 1, vR 21, vR 22, vR 23, vR 24, vR 25, vR 26, vR 27, vN, vN])) 27 = cA 5 (fun _ => 0) := (by rw [zz_gn (by omega), zz_get_new, if_pos i6.symm])
  have o7 : ∀ j, j < 20 → zz_get (zz_put (zz_new q6 5 (cA 5 (fun _ => 0))) 20 (cO 4 [vI 0, vJ 0, vI 1, vR 21, vR 22, vR 23, vR 24, vR 25, vR 26, vR 27, vN, vN])) j = zz_get h j := fun j hj => by rw [zz_gn (by omega), zz_get_new, if_neg (by omega)]; exact o6 j hj
  change AW X 61 _ _ (zz_put (zz_new q6 5 (cA 5 (fun _ => 0))) 20 (cO 4 [vI 0, vJ 0, vI 1, vR 21, vR 22, vR 23, vR 24, vR 25, vR 26, vR 27, vN, vN]))
  generalize hhq7 : zz_put (zz_new q6 5 (cA 5 (fun _ => 0))) 20 (cO 4 [vI 0, vJ 0, vI 1, vR 21, vR 22, vR 23, vR 24, vR 25, vR 26, vR 27, vN, vN]) = q7 at a7 f7_20 f7_21 f7_22 f7_23 f7_24 f7_25 f7_26 f7_27 o7 ⊢
  clear hhq7
  refine aw_aload_n cx 62 dX5_init_61 rfl rfl ?_
  refine aw_bipush cx 64 dX5_init_62 rfl (by decide +kernel) ?_
  refine aw_newL cx 66 dX5_init_64 rfl (by rfl) (by decide) (zz_rmk mX5_init hRm hNS 7 156 a7 rfl) ?_
  have i7 : q7.1.1 = 28 := by rw [a7, hid]
  rw [i7]
  have z7 : zz_get (zz_new q7 8 (cL 8 (fun _ => 0))) 20 = cO 4 [vI 0, vJ 0, vI 1, vR 21, vR 22, vR 23, vR 24, vR 25, vR 26, vR 27, vN, vN] := by
    rw [zz_get_new, if_neg (by omega)]
    exact f7_20
  refine aw_putfinal cx 69 dX5_init_66 rfl fdX5_35 ⟨rfl, by decide +kernel⟩ (by first | with_reducible assumption | with_reducible exact zz_gs _ _ _ | exact (zz_gn (by omega)).trans (by assumption)) (by exact Nat.le_of_ble_eq_true rfl) rfl ?_
  dsimp only [List.set]
  have a8 : (zz_put (zz_new q7 8 (cL 8 (fun _ => 0))) 20 (cO 4 [vI 0, vJ 0, vI 1, vR 21, vR 22, vR 23, vR 24, vR 25, vR 26, vR 27, vR 28, vN])).1 = (h.1.1 + 8, h.1.2 + 164) := (by rw [zz_put_1, zz_new_1, a7] <;> rfl)
  have f8_20 : zz_get (zz_put (zz_new q7 8 (cL 8 (fun _ => 0))) 20 (cO 4 [vI 0, vJ 0, vI 1, vR 21, vR 22, vR 23, vR 24, vR 25, vR 26, vR 27, vR 28, vN])) 20 = cO 4 [vI 0, vJ 0, vI 1, vR 21, vR 22, vR 23, vR 24, vR 25, vR 26, vR 27, vR 28, vN] := zz_gs _ _ _
  have f8_21 : zz_get (zz_put (zz_new q7 8 (cL 8 (fun _ => 0))) 20 (cO 4 [vI 0, vJ 0, vI 1, vR 21, vR 22, vR 23, vR 24, vR 25, vR 26, vR 27, vR 28, vN])) 21 = cA 64 (fun _ => 0) := (by rw [zz_gn (by omega), zz_get_new, if_neg (by omega)]; exact f7_21)
  have f8_22 : zz_get (zz_put (zz_new q7 8 (cL 8 (fun _ => 0))) 20 (cO 4 [vI 0, vJ 0, vI 1, vR 21, vR 22, vR 23, vR 24, vR 25, vR 26, vR 27, vR 28, vN])) 22 = cA 64 (fun _ => 0) := (by rw [zz_gn (by omega), zz_get_new, if_neg (by omega)]; exact f7_22)
  have f8_23 : zz_get (zz_put (zz_new q7 8 (cL 8 (fun _ => 0))) 20 (cO 4 [vI 0, vJ 0, vI 1, vR 21, vR 22, vR 23, vR 24, vR 25, vR 26, vR 27, vR 28, vN])) 23 = cA 5 (fun _ => 0) := (by rw [zz_gn (by omega), zz_get_new, if_neg (by omega)]; exact f7_23)
  have f8_24 : zz_get (zz_put (zz_new q7 8 (cL 8 (fun _ => 0))) 20 (cO 4 [vI 0, vJ 0, vI 1, vR 21, vR 22, vR 23, vR 24, vR 25, vR 26, vR 27, vR 28, vN])) 24 = cA 5 (fun _ => 0) := (by rw [zz_gn (by omega), zz_get_new, if_neg (by omega)]; exact f7_24)
  have f8_25 : zz_get (zz_put (zz_new q7 8 (cL 8 (fun _ => 0))) 20 (cO 4 [vI 0, vJ 0, vI 1, vR 21, vR 22, vR 23, vR 24, vR 25, vR 26, vR 27, vR 28, vN])) 25 = cA 5 (fun _ => 0) := (by rw [zz_gn (by omega), zz_get_new, if_neg (by omega)]; exact f7_25)
  have f8_26 : zz_get (zz_put (zz_new q7 8 (cL 8 (fun _ => 0))) 20 (cO 4 [vI 0, vJ 0, vI 1, vR 21, vR 22, vR 23, vR 24, vR 25, vR 26, vR 27, vR 28, vN])) 26 = cA 8 (fun _ => 0) := (by rw [zz_gn (by omega), zz_get_new, if_neg (by omega)]; exact f7_26)
  have f8_27 : zz_get (zz_put (zz_new q7 8 (cL 8 (fun _ => 0))) 20 (cO 4 [vI 0, vJ 0, vI 1, vR 21, vR 22, vR 23, vR 24, vR 25, vR 26, vR 27, vR 28, vN])) 27 = cA 5 (fun _ => 0) := (by rw [zz_gn (by omega), zz_get_new, if_neg (by omega)]; exact f7_27)
  have f8_28 : zz_get (zz_put (zz_new q7 8 (cL 8 (fun _ => 0))) 20 (cO 4 [vI 0, vJ 0, vI 1, vR 21, vR 22, vR 23, vR 24, vR 25, vR 26, vR 27, vR 28, vN])) 28 = cL 8 (fun _ => 0) := (by rw [zz_gn (by omega), zz_get_new, if_pos i7.symm])
  have o8 : ∀ j, j < 20 → zz_get (zz_put (zz_new q7 8 (cL 8 (fun _ => 0))) 20 (cO 4 [vI 0, vJ 0, vI 1, vR 21, vR 22, vR 23, vR 24, vR 25, vR 26, vR 27, vR 28, vN])) j = zz_get h j := fun j hj => by rw [zz_gn (by omega), zz_get_new, if_neg (by omega)]; exact o7 j hj
  change AW X 69 _ _ (zz_put (zz_new q7 8 (cL 8 (fun _ => 0))) 20 (cO 4 [vI 0, vJ 0, vI 1, vR 21, vR 22, vR 23, vR 24, vR 25, vR 26, vR 27, vR 28, vN]))
  generalize hhq8 : zz_put (zz_new q7 8 (cL 8 (fun _ => 0))) 20 (cO 4 [vI 0, vJ 0, vI 1, vR 21, vR 22, vR 23, vR 24, vR 25, vR 26, vR 27, vR 28, vN]) = q8 at a8 f8_20 f8_21 f8_22 f8_23 f8_24 f8_25 f8_26 f8_27 f8_28 o8 ⊢
  clear hhq8
  refine aw_aload_n cx 70 dX5_init_69 rfl rfl ?_
  refine aw_bipush cx 72 dX5_init_70 rfl (by decide +kernel) ?_
  refine aw_newL cx 74 dX5_init_72 rfl (by rfl) (by decide) (zz_rmk mX5_init hRm hNS 8 164 a8 rfl) ?_
  have i8 : q8.1.1 = 29 := by rw [a8, hid]
  rw [i8]
  have z8 : zz_get (zz_new q8 8 (cL 8 (fun _ => 0))) 20 = cO 4 [vI 0, vJ 0, vI 1, vR 21, vR 22, vR 23, vR 24, vR 25, vR 26, vR 27, vR 28, vN] := by
    rw [zz_get_new, if_neg (by omega)]
    exact f8_20
  refine aw_putfinal cx 77 dX5_init_74 rfl fdX5_39 ⟨rfl, by decide +kernel⟩ (by first | with_reducible assumption | with_reducible exact zz_gs _ _ _ | exact (zz_gn (by omega)).trans (by assumption)) (by exact Nat.le_of_ble_eq_true rfl) rfl ?_
  dsimp only [List.set]
  have a9 : (zz_put (zz_new q8 8 (cL 8 (fun _ => 0))) 20 (cO 4 [vI 0, vJ 0, vI 1, vR 21, vR 22, vR 23, vR 24, vR 25, vR 26, vR 27, vR 28, vR 29])).1 = (h.1.1 + 9, h.1.2 + 172) := (by rw [zz_put_1, zz_new_1, a8] <;> rfl)
  have f9_20 : zz_get (zz_put (zz_new q8 8 (cL 8 (fun _ => 0))) 20 (cO 4 [vI 0, vJ 0, vI 1, vR 21, vR 22, vR 23, vR 24, vR 25, vR 26, vR 27, vR 28, vR 29])) 20 = cO 4 [vI 0, vJ 0, vI 1, vR 21, vR 22, vR 23, vR 24, vR 25, vR 26, vR 27, vR 28, vR 29] := zz_gs _ _ _
  have f9_21 : zz_get (zz_put (zz_new q8 8 (cL 8 (fun _ => 0))) 20 (cO 4 [vI 0, vJ 0, vI 1, vR 21, vR 22, vR 23, vR 24, vR 25, vR 26, vR 27, vR 28, vR 29])) 21 = cA 64 (fun _ => 0) := (by rw [zz_gn (by omega), zz_get_new, if_neg (by omega)]; exact f8_21)
  have f9_22 : zz_get (zz_put (zz_new q8 8 (cL 8 (fun _ => 0))) 20 (cO 4 [vI 0, vJ 0, vI 1, vR 21, vR 22, vR 23, vR 24, vR 25, vR 26, vR 27, vR 28, vR 29])) 22 = cA 64 (fun _ => 0) := (by rw [zz_gn (by omega), zz_get_new, if_neg (by omega)]; exact f8_22)
  have f9_23 : zz_get (zz_put (zz_new q8 8 (cL 8 (fun _ => 0))) 20 (cO 4 [vI 0, vJ 0, vI 1, vR 21, vR 22, vR 23, vR 24, vR 25, vR 26, vR 27, vR 28, vR 29])) 23 = cA 5 (fun _ => 0) := (by rw [zz_gn (by omega), zz_get_new, if_neg (by omega)]; exact f8_23)
  have f9_24 : zz_get (zz_put (zz_new q8 8 (cL 8 (fun _ => 0))) 20 (cO 4 [vI 0, vJ 0, vI 1, vR 21, vR 22, vR 23, vR 24, vR 25, vR 26, vR 27, vR 28, vR 29])) 24 = cA 5 (fun _ => 0) := (by rw [zz_gn (by omega), zz_get_new, if_neg (by omega)]; exact f8_24)
  have f9_25 : zz_get (zz_put (zz_new q8 8 (cL 8 (fun _ => 0))) 20 (cO 4 [vI 0, vJ 0, vI 1, vR 21, vR 22, vR 23, vR 24, vR 25, vR 26, vR 27, vR 28, vR 29])) 25 = cA 5 (fun _ => 0) := (by rw [zz_gn (by omega), zz_get_new, if_neg (by omega)]; exact f8_25)
  have f9_26 : zz_get (zz_put (zz_new q8 8 (cL 8 (fun _ => 0))) 20 (cO 4 [vI 0, vJ 0, vI 1, vR 21, vR 22, vR 23, vR 24, vR 25, vR 26, vR 27, vR 28, vR 29])) 26 = cA 8 (fun _ => 0) := (by rw [zz_gn (by omega), zz_get_new, if_neg (by omega)]; exact f8_26)
  have f9_27 : zz_get (zz_put (zz_new q8 8 (cL 8 (fun _ => 0))) 20 (cO 4 [vI 0, vJ 0, vI 1, vR 21, vR 22, vR 23, vR 24, vR 25, vR 26, vR 27, vR 28, vR 29])) 27 = cA 5 (fun _ => 0) := (by rw [zz_gn (by omega), zz_get_new, if_neg (by omega)]; exact f8_27)
  have f9_28 : zz_get (zz_put (zz_new q8 8 (cL 8 (fun _ => 0))) 20 (cO 4 [vI 0, vJ 0, vI 1, vR 21, vR 22, vR 23, vR 24, vR 25, vR 26, vR 27, vR 28, vR 29])) 28 = cL 8 (fun _ => 0) := (by rw [zz_gn (by omega), zz_get_new, if_neg (by omega)]; exact f8_28)
  have f9_29 : zz_get (zz_put (zz_new q8 8 (cL 8 (fun _ => 0))) 20 (cO 4 [vI 0, vJ 0, vI 1, vR 21, vR 22, vR 23, vR 24, vR 25, vR 26, vR 27, vR 28, vR 29])) 29 = cL 8 (fun _ => 0) := (by rw [zz_gn (by omega), zz_get_new, if_pos i8.symm])
  have o9 : ∀ j, j < 20 → zz_get (zz_put (zz_new q8 8 (cL 8 (fun _ => 0))) 20 (cO 4 [vI 0, vJ 0, vI 1, vR 21, vR 22, vR 23, vR 24, vR 25, vR 26, vR 27, vR 28, vR 29])) j = zz_get h j := fun j hj => by rw [zz_gn (by omega), zz_get_new, if_neg (by omega)]; exact o8 j hj
  change AW X 77 _ _ (zz_put (zz_new q8 8 (cL 8 (fun _ => 0))) 20 (cO 4 [vI 0, vJ 0, vI 1, vR 21, vR 22, vR 23, vR 24, vR 25, vR 26, vR 27, vR 28, vR 29]))
  generalize hhq9 : zz_put (zz_new q8 8 (cL 8 (fun _ => 0))) 20 (cO 4 [vI 0, vJ 0, vI 1, vR 21, vR 22, vR 23, vR 24, vR 25, vR 26, vR 27, vR 28, vR 29]) = q9 at a9 f9_20 f9_21 f9_22 f9_23 f9_24 f9_25 f9_26 f9_27 f9_28 f9_29 o9 ⊢
  clear hhq9
  refine aw_iconst cx 78 dX5_init_77 rfl ?_
  refine aw_istore_n cx 79 1 dX5_init_78 rfl rfl ⟨Nat.le_of_ble_eq_true rfl, Nat.le_of_ble_eq_true rfl⟩ rfl ?_
  dsimp only [List.set]
  have lp79 : ∀ (kf : Nat) (c : Int) (V : Int → Int), (5 - c < (kf : Int)) → (0 ≤ c ∧ c ≤ 5) → (∀ x, V x = if 0 ≤ x ∧ x < c then 1 else 0) → AW X 79 [some (vR 20), some (vI c)] [] (zz_put q9 23 (cA 5 V)) := by
    intro kf
    induction kf with
    | zero =>
      intro c V hk hc hx
      exfalso
      omega
    | succ kf ih79 =>
      intro c V hk hc hx
      refine aw_iload_n cx 80 dX5_init_79 rfl rfl ?_
      refine aw_iconst cx 81 dX5_init_80 rfl ?_
      refine aw_icmp_ge cx 84 97 dX5_init_81 rfl (by decide) ⟨⟨by omega, by omega⟩, ⟨by omega, by omega⟩⟩ (fun c81 => ?_) (fun c81 => ?_)
      · refine aw_return cx dX5_init_97 ?_
        refine hRet _ _ rfl a9 ?_
        have eV : V = vW1 := funext fun x => by
          rw [hx x, show c = 5 by omega]
          rfl
        subst eV
        refine k _ a9 ⟨_, _, _, _, _, _, _, _, ⟨((zz_gn (by omega)).trans f9_20), ((zz_gn (by omega)).trans f9_21), ((zz_gn (by omega)).trans f9_22), (zz_gs _ _ _), ((zz_gn (by omega)).trans f9_24), ((zz_gn (by omega)).trans f9_25), ((zz_gn (by omega)).trans f9_26), ((zz_gn (by omega)).trans f9_27), ((zz_gn (by omega)).trans f9_28), ((zz_gn (by omega)).trans f9_29)⟩, ⟨by omega, by omega⟩, fun a b a0 a1 b0 b1 => ?_, gB_r _, vW1_I⟩ (fun j hj => (zz_gn (by omega)).trans (o9 j hj))
        show (0 : Int) = gB a b
        unfold gB
        rw [if_pos (by omega)]
      · refine aw_aload_n cx 85 dX5_init_84 rfl rfl ?_
        refine aw_getfield cx 88 dX5_init_85 rfl fdX5_20 (by first | with_reducible assumption | with_reducible exact zz_gs _ _ _ | exact (zz_gn (by omega)).trans (by assumption)) (by rfl) ?_
        refine aw_iload_n cx 89 dX5_init_88 rfl rfl ?_
        refine aw_iconst cx 90 dX5_init_89 rfl ?_
        refine aw_iastore cx 91 dX5_init_90 rfl (by first | with_reducible assumption | with_reducible exact zz_gs _ _ _ | exact (zz_gn (by omega)).trans (by assumption)) ⟨by omega, by omega⟩ (by decide) ?_
        refine aw_iinc cx 94 dX5_init_91 rfl rfl (Nat.le_of_ble_eq_true rfl) rfl ?_
        dsimp only [List.set]
        refine aw_goto cx 79 dX5_init_94 (by decide) ?_
        rw [zz_put_put]
        exact ih79 (c + 1) _ (by omega) ⟨by omega, by omega⟩ (fun x => by
          unfold zz_up
          rw [hx x]
          by_cases e : x = c
          · rw [if_pos e, if_pos (by omega)]
          · rw [if_neg e]
            first | (split <;> first | (rw [if_pos (by omega)]; done) | (rw [if_neg (by omega)]; done)))
  rw [show q9 = zz_put q9 23 (cA 5 (fun _ => 0)) from (zz_put_get q9 23 _ f9_23).symm]
  exact lp79 6 0 _ (by omega) ⟨by omega, by omega⟩ (fun x => by rw [if_neg (by omega)])
