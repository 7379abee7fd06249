/-! the class's constructors -/
theorem zz_put_1 (h : AH) (k : Nat) (x : AC) : (zz_put h k x).1 = h.1 := rfl
theorem zz_new_1 (h : AH) (sz : Nat) (x : AC) : (zz_new h sz x).1 = (h.1.1 + 1, h.1.2 + sz) := rfl
theorem zz_rmk {X : CT} {h h0 : AH} {k n : Nat} (m : MD) (hRm : zz_R X = zz_room m) (hNS : zz_NS X = h0.1) (a b : Nat) (hh : h.1 = (h0.1.1 + a, h0.1.2 + b)) (e : (Nat.ble (a + k) m.2.2.2.2.2.1 && Nat.ble (b + n) m.2.2.2.2.2.2) = true) : zz_rm X h k n := by
  simp only [Bool.and_eq_true] at e
  have e1 := Nat.le_of_ble_eq_true e.1
  have e2 := Nat.le_of_ble_eq_true e.2
  refine ⟨?_, ?_⟩
  · rw [hNS, hRm, hh]
    show h0.1.1 + a + k ≤ h0.1.1 + m.2.2.2.2.2.1
    omega
  · rw [hNS, hRm, hh]
    show h0.1.2 + b + n ≤ h0.1.2 + m.2.2.2.2.2.2
    omega
theorem zz_rck {X : CT} {d : MD} {h h0 : AH} (m : MD) (hRm : zz_R X = zz_room m) (hNS : zz_NS X = h0.1) (a b : Nat) (hh : h.1 = (h0.1.1 + a, h0.1.2 + b)) (e : (Nat.ble (d.2.2.2.2.1.1 + 1) m.2.2.2.2.1.1 && (Nat.ble (d.2.2.1 + 19 + d.2.2.2.2.1.2) m.2.2.2.2.1.2 && (Nat.ble (a + d.2.2.2.2.2.1) m.2.2.2.2.2.1 && Nat.ble (b + d.2.2.2.2.2.2) m.2.2.2.2.2.2))) = true) : zz_rc X d h := by
  simp only [Bool.and_eq_true] at e
  have e1 := Nat.le_of_ble_eq_true e.1
  have e2 := Nat.le_of_ble_eq_true e.2.1
  have e3 := Nat.le_of_ble_eq_true e.2.2.1
  have e4 := Nat.le_of_ble_eq_true e.2.2.2
  refine ⟨?_, ?_, ?_, ?_⟩
  · rw [hRm]; exact e1
  · rw [hRm]; exact e2
  · rw [hNS, hRm, hh]
    show h0.1.1 + a + d.2.2.2.2.2.1 ≤ h0.1.1 + m.2.2.2.2.2.1
    omega
  · rw [hNS, hRm, hh]
    show h0.1.2 + b + d.2.2.2.2.2.2 ≤ h0.1.2 + m.2.2.2.2.2.2
    omega
def vW1 : Int → Int := fun x => if 0 ≤ x ∧ x < 5 then 1 else 0
theorem vW1_I : wtI vW1 := fun i i0 i1 => by unfold vW1; split <;> omega
set_option maxRecDepth 100000 in
set_option maxHeartbeats 4000000 in
theorem s_X0_init {h : AH} {Q : Option AV → AH → Prop} {o : Nat} (hid : h.1.1 = o + 1) (h0 : zz_get h o = cO 0 [vN, vN, vN, vN, vI 0, vI 0, vI 0]) (k : ∀ h', h'.1 = (h.1.1 + 4, h.1.2 + 219) → xCol h' o (fun _ => 0) (fun _ => 0) (fun _ => 0) (fun _ => 0) 1 1 0 → (∀ j, j < o → zz_get h' j = zz_get h j) → Q none h') : MC mX0_init [vR o] h Q := by
  refine mc_start mX0_init RX0 "<init>" ⟨rfl, rfl, by decide +kernel⟩ [some (vR o)] ⟨0, rfl⟩ rfl (fun X cx hRm hNS hRet => ?_)
  refine aw_aload_n cx 1 dX0_init_0 rfl rfl ?_
  refine aw_objInit cx 4 dX0_init_1 rfl lkX0_3 lk_oi lk_oc ⟨by rw [hRm]; exact (Nat.le_of_ble_eq_true rfl), by rw [hRm]; exact (Nat.le_of_ble_eq_true rfl)⟩ ?_
  refine aw_aload_n cx 5 dX0_init_4 rfl rfl ?_
  refine aw_bipush cx 7 dX0_init_5 rfl (by decide +kernel) ?_
  refine aw_newI cx 9 dX0_init_7 rfl (by rfl) (by decide) (zz_rmk mX0_init hRm hNS 0 0 rfl rfl) ?_
  refine aw_putfinal cx 12 dX0_init_9 rfl fdX0_9 ⟨rfl, by decide +kernel⟩ (by first | assumption | exact zz_gs _ _ _ | (simp only [zz_get_put, zz_get_new, zz_put_1, zz_new_1, hid, ↓reduceIte]; (repeat (first | rw [if_pos (by omega)] | rw [if_neg (by omega)])); first | done | rfl | assumption)) (by exact Nat.le_of_ble_eq_true rfl) rfl ?_
  dsimp only [List.set]
  refine aw_aload_n cx 13 dX0_init_12 rfl rfl ?_
  refine aw_iconst cx 14 dX0_init_13 rfl ?_
  refine aw_newI cx 16 dX0_init_14 rfl (by rfl) (by decide) (zz_rmk mX0_init hRm hNS 1 64 rfl rfl) ?_
  refine aw_putfinal cx 19 dX0_init_16 rfl fdX0_15 ⟨rfl, by decide +kernel⟩ (by first | assumption | exact zz_gs _ _ _ | (simp only [zz_get_put, zz_get_new, zz_put_1, zz_new_1, hid, ↓reduceIte]; (repeat (first | rw [if_pos (by omega)] | rw [if_neg (by omega)])); first | done | rfl | assumption)) (by exact Nat.le_of_ble_eq_true rfl) rfl ?_
  dsimp only [List.set]
  refine aw_aload_n cx 20 dX0_init_19 rfl rfl ?_
  refine aw_bipush cx 22 dX0_init_20 rfl (by decide +kernel) ?_
  refine aw_newI cx 24 dX0_init_22 rfl (by rfl) (by decide) (zz_rmk mX0_init hRm hNS 2 69 rfl rfl) ?_
  refine aw_putfinal cx 27 dX0_init_24 rfl fdX0_18 ⟨rfl, by decide +kernel⟩ (by first | assumption | exact zz_gs _ _ _ | (simp only [zz_get_put, zz_get_new, zz_put_1, zz_new_1, hid, ↓reduceIte]; (repeat (first | rw [if_pos (by omega)] | rw [if_neg (by omega)])); first | done | rfl | assumption)) (by exact Nat.le_of_ble_eq_true rfl) rfl ?_
  dsimp only [List.set]
  refine aw_aload_n cx 28 dX0_init_27 rfl rfl ?_
  refine aw_bipush cx 30 dX0_init_28 rfl (by decide +kernel) ?_
  refine aw_newI cx 32 dX0_init_30 rfl (by rfl) (by decide) (zz_rmk mX0_init hRm hNS 3 194 rfl rfl) ?_
  refine aw_putfinal cx 35 dX0_init_32 rfl fdX0_21 ⟨rfl, by decide +kernel⟩ (by first | assumption | exact zz_gs _ _ _ | (simp only [zz_get_put, zz_get_new, zz_put_1, zz_new_1, hid, ↓reduceIte]; (repeat (first | rw [if_pos (by omega)] | rw [if_neg (by omega)])); first | done | rfl | assumption)) (by exact Nat.le_of_ble_eq_true rfl) rfl ?_
  dsimp only [List.set]
  refine aw_aload_n cx 36 dX0_init_35 rfl rfl ?_
  refine aw_iconst cx 37 dX0_init_36 rfl ?_
  refine aw_putfield cx 40 dX0_init_37 rfl fdX0_24 (by first | assumption | exact zz_gs _ _ _ | (simp only [zz_get_put, zz_get_new, zz_put_1, zz_new_1, hid, ↓reduceIte]; (repeat (first | rw [if_pos (by omega)] | rw [if_neg (by omega)])); first | done | rfl | assumption)) (by exact Nat.le_of_ble_eq_true rfl) rfl ?_
  dsimp only [List.set]
  refine aw_aload_n cx 41 dX0_init_40 rfl rfl ?_
  refine aw_iconst cx 42 dX0_init_41 rfl ?_
  refine aw_putfield cx 45 dX0_init_42 rfl fdX0_28 (by first | assumption | exact zz_gs _ _ _ | (simp only [zz_get_put, zz_get_new, zz_put_1, zz_new_1, hid, ↓reduceIte]; (repeat (first | rw [if_pos (by omega)] | rw [if_neg (by omega)])); first | done | rfl | assumption)) (by exact Nat.le_of_ble_eq_true rfl) rfl ?_
  dsimp only [List.set]
  refine aw_aload_n cx 46 dX0_init_45 rfl rfl ?_
  refine aw_iconst cx 47 dX0_init_46 rfl ?_
  refine aw_putfield cx 50 dX0_init_47 rfl fdX0_31 (by first | assumption | exact zz_gs _ _ _ | (simp only [zz_get_put, zz_get_new, zz_put_1, zz_new_1, hid, ↓reduceIte]; (repeat (first | rw [if_pos (by omega)] | rw [if_neg (by omega)])); first | done | rfl | assumption)) (by exact Nat.le_of_ble_eq_true rfl) rfl ?_
  dsimp only [List.set]
  refine aw_return cx dX0_init_50 ?_
  refine hRet _ _ rfl (by simp only [zz_put_1, zz_new_1]) ?_
  refine k _ (by simp only [zz_put_1, zz_new_1]) ⟨(by (simp only [zz_get_put, zz_get_new, zz_put_1, zz_new_1, hid, ↓reduceIte]; (repeat (first | rw [if_pos (by omega)] | rw [if_neg (by omega)])); first | done | rfl | assumption)), (by (simp only [zz_get_put, zz_get_new, zz_put_1, zz_new_1, hid, ↓reduceIte]; (repeat (first | rw [if_pos (by omega)] | rw [if_neg (by omega)])); first | done | rfl | assumption)), (by (simp only [zz_get_put, zz_get_new, zz_put_1, zz_new_1, hid, ↓reduceIte]; (repeat (first | rw [if_pos (by omega)] | rw [if_neg (by omega)])); first | done | rfl | assumption)), (by (simp only [zz_get_put, zz_get_new, zz_put_1, zz_new_1, hid, ↓reduceIte]; (repeat (first | rw [if_pos (by omega)] | rw [if_neg (by omega)])); first | done | rfl | assumption)), (by (simp only [zz_get_put, zz_get_new, zz_put_1, zz_new_1, hid, ↓reduceIte]; (repeat (first | rw [if_pos (by omega)] | rw [if_neg (by omega)])); first | done | rfl | assumption))⟩ (fun j hj => by simp only [zz_get_put, zz_get_new, zz_put_1, zz_new_1, hid]; (repeat (first | rw [if_pos (by omega)] | rw [if_neg (by omega)])))
set_option maxRecDepth 100000 in
set_option maxHeartbeats 4000000 in
theorem s_X1_init {h : AH} {Q : Option AV → AH → Prop} {o : Nat} (hid : h.1.1 = o + 1) (h0 : zz_get h o = cO 1 [vN, vN, vN, vI 0]) (k : ∀ h', h'.1 = (h.1.1 + 3, h.1.2 + 77) → (zz_get h' o = cDiv o 0 ∧ zz_get h' (o + 1) = cA 8 (fun _ => 0) ∧ zz_get h' (o + 2) = cA 5 (fun _ => 0) ∧ zz_get h' (o + 3) = cA 64 (fun _ => 0)) → (∀ j, j < o → zz_get h' j = zz_get h j) → Q none h') : MC mX1_init [vR o] h Q := by
  refine mc_start mX1_init RX1 "<init>" ⟨rfl, rfl, by decide +kernel⟩ [some (vR o)] ⟨0, rfl⟩ rfl (fun X cx hRm hNS hRet => ?_)
  refine aw_aload_n cx 1 dX1_init_0 rfl rfl ?_
  refine aw_objInit cx 4 dX1_init_1 rfl lkX1_3 lk_oi lk_oc ⟨by rw [hRm]; exact (Nat.le_of_ble_eq_true rfl), by rw [hRm]; exact (Nat.le_of_ble_eq_true rfl)⟩ ?_
  refine aw_aload_n cx 5 dX1_init_4 rfl rfl ?_
  refine aw_bipush cx 7 dX1_init_5 rfl (by decide +kernel) ?_
  refine aw_newI cx 9 dX1_init_7 rfl (by rfl) (by decide) (zz_rmk mX1_init hRm hNS 0 0 rfl rfl) ?_
  refine aw_putfinal cx 12 dX1_init_9 rfl fdX1_9 ⟨rfl, by decide +kernel⟩ (by first | assumption | exact zz_gs _ _ _ | (simp only [zz_get_put, zz_get_new, zz_put_1, zz_new_1, hid, ↓reduceIte]; (repeat (first | rw [if_pos (by omega)] | rw [if_neg (by omega)])); first | done | rfl | assumption)) (by exact Nat.le_of_ble_eq_true rfl) rfl ?_
  dsimp only [List.set]
  refine aw_aload_n cx 13 dX1_init_12 rfl rfl ?_
  refine aw_iconst cx 14 dX1_init_13 rfl ?_
  refine aw_newI cx 16 dX1_init_14 rfl (by rfl) (by decide) (zz_rmk mX1_init hRm hNS 1 8 rfl rfl) ?_
  refine aw_putfinal cx 19 dX1_init_16 rfl fdX1_15 ⟨rfl, by decide +kernel⟩ (by first | assumption | exact zz_gs _ _ _ | (simp only [zz_get_put, zz_get_new, zz_put_1, zz_new_1, hid, ↓reduceIte]; (repeat (first | rw [if_pos (by omega)] | rw [if_neg (by omega)])); first | done | rfl | assumption)) (by exact Nat.le_of_ble_eq_true rfl) rfl ?_
  dsimp only [List.set]
  refine aw_aload_n cx 20 dX1_init_19 rfl rfl ?_
  refine aw_bipush cx 22 dX1_init_20 rfl (by decide +kernel) ?_
  refine aw_newI cx 24 dX1_init_22 rfl (by rfl) (by decide) (zz_rmk mX1_init hRm hNS 2 13 rfl rfl) ?_
  refine aw_putfinal cx 27 dX1_init_24 rfl fdX1_18 ⟨rfl, by decide +kernel⟩ (by first | assumption | exact zz_gs _ _ _ | (simp only [zz_get_put, zz_get_new, zz_put_1, zz_new_1, hid, ↓reduceIte]; (repeat (first | rw [if_pos (by omega)] | rw [if_neg (by omega)])); first | done | rfl | assumption)) (by exact Nat.le_of_ble_eq_true rfl) rfl ?_
  dsimp only [List.set]
  refine aw_aload_n cx 28 dX1_init_27 rfl rfl ?_
  refine aw_iconst cx 29 dX1_init_28 rfl ?_
  refine aw_putfield cx 32 dX1_init_29 rfl fdX1_21 (by first | assumption | exact zz_gs _ _ _ | (simp only [zz_get_put, zz_get_new, zz_put_1, zz_new_1, hid, ↓reduceIte]; (repeat (first | rw [if_pos (by omega)] | rw [if_neg (by omega)])); first | done | rfl | assumption)) (by exact Nat.le_of_ble_eq_true rfl) rfl ?_
  dsimp only [List.set]
  refine aw_return cx dX1_init_32 ?_
  refine hRet _ _ rfl (by simp only [zz_put_1, zz_new_1]) ?_
  refine k _ (by simp only [zz_put_1, zz_new_1]) ⟨(by (simp only [zz_get_put, zz_get_new, zz_put_1, zz_new_1, hid, ↓reduceIte]; (repeat (first | rw [if_pos (by omega)] | rw [if_neg (by omega)])); first | done | rfl | assumption)), (by (simp only [zz_get_put, zz_get_new, zz_put_1, zz_new_1, hid, ↓reduceIte]; (repeat (first | rw [if_pos (by omega)] | rw [if_neg (by omega)])); first | done | rfl | assumption)), (by (simp only [zz_get_put, zz_get_new, zz_put_1, zz_new_1, hid, ↓reduceIte]; (repeat (first | rw [if_pos (by omega)] | rw [if_neg (by omega)])); first | done | rfl | assumption)), (by (simp only [zz_get_put, zz_get_new, zz_put_1, zz_new_1, hid, ↓reduceIte]; (repeat (first | rw [if_pos (by omega)] | rw [if_neg (by omega)])); first | done | rfl | assumption))⟩ (fun j hj => by simp only [zz_get_put, zz_get_new, zz_put_1, zz_new_1, hid]; (repeat (first | rw [if_pos (by omega)] | rw [if_neg (by omega)])))
set_option maxRecDepth 100000 in
set_option maxHeartbeats 4000000 in
theorem s_X3_init {h : AH} {Q : Option AV → AH → Prop} {o : Nat} (hid : h.1.1 = o + 1) (h0 : zz_get h o = cO 2 [vN, vN, vN, vJ 0]) (k : ∀ h', h'.1 = (h.1.1 + 3, h.1.2 + 21) → (zz_get h' o = cWk o 1 ∧ zz_get h' (o + 1) = cL 5 (fun _ => 0) ∧ zz_get h' (o + 2) = cL 8 (fun _ => 0) ∧ zz_get h' (o + 3) = cL 8 (fun _ => 0)) → (∀ j, j < o → zz_get h' j = zz_get h j) → Q none h') : MC mX3_init [vR o] h Q := by
  refine mc_start mX3_init RX3 "<init>" ⟨rfl, rfl, by decide +kernel⟩ [some (vR o)] ⟨0, rfl⟩ rfl (fun X cx hRm hNS hRet => ?_)
  refine aw_aload_n cx 1 dX3_init_0 rfl rfl ?_
  refine aw_objInit cx 4 dX3_init_1 rfl lkX3_3 lk_oi lk_oc ⟨by rw [hRm]; exact (Nat.le_of_ble_eq_true rfl), by rw [hRm]; exact (Nat.le_of_ble_eq_true rfl)⟩ ?_
  refine aw_aload_n cx 5 dX3_init_4 rfl rfl ?_
  refine aw_iconst cx 6 dX3_init_5 rfl ?_
  refine aw_newL cx 8 dX3_init_6 rfl (by rfl) (by decide) (zz_rmk mX3_init hRm hNS 0 0 rfl rfl) ?_
  refine aw_putfinal cx 11 dX3_init_8 rfl fdX3_9 ⟨rfl, by decide +kernel⟩ (by first | assumption | exact zz_gs _ _ _ | (simp only [zz_get_put, zz_get_new, zz_put_1, zz_new_1, hid, ↓reduceIte]; (repeat (first | rw [if_pos (by omega)] | rw [if_neg (by omega)])); first | done | rfl | assumption)) (by exact Nat.le_of_ble_eq_true rfl) rfl ?_
  dsimp only [List.set]
  refine aw_aload_n cx 12 dX3_init_11 rfl rfl ?_
  refine aw_bipush cx 14 dX3_init_12 rfl (by decide +kernel) ?_
  refine aw_newL cx 16 dX3_init_14 rfl (by rfl) (by decide) (zz_rmk mX3_init hRm hNS 1 5 rfl rfl) ?_
  refine aw_putfinal cx 19 dX3_init_16 rfl fdX3_15 ⟨rfl, by decide +kernel⟩ (by first | assumption | exact zz_gs _ _ _ | (simp only [zz_get_put, zz_get_new, zz_put_1, zz_new_1, hid, ↓reduceIte]; (repeat (first | rw [if_pos (by omega)] | rw [if_neg (by omega)])); first | done | rfl | assumption)) (by exact Nat.le_of_ble_eq_true rfl) rfl ?_
  dsimp only [List.set]
  refine aw_aload_n cx 20 dX3_init_19 rfl rfl ?_
  refine aw_bipush cx 22 dX3_init_20 rfl (by decide +kernel) ?_
  refine aw_newL cx 24 dX3_init_22 rfl (by rfl) (by decide) (zz_rmk mX3_init hRm hNS 2 13 rfl rfl) ?_
  refine aw_putfinal cx 27 dX3_init_24 rfl fdX3_18 ⟨rfl, by decide +kernel⟩ (by first | assumption | exact zz_gs _ _ _ | (simp only [zz_get_put, zz_get_new, zz_put_1, zz_new_1, hid, ↓reduceIte]; (repeat (first | rw [if_pos (by omega)] | rw [if_neg (by omega)])); first | done | rfl | assumption)) (by exact Nat.le_of_ble_eq_true rfl) rfl ?_
  dsimp only [List.set]
  refine aw_aload_n cx 28 dX3_init_27 rfl rfl ?_
  refine aw_lconst cx 29 1 dX3_init_28 rfl (by decide +kernel) ?_
  refine aw_putfield cx 32 dX3_init_29 rfl fdX3_21 (by first | assumption | exact zz_gs _ _ _ | (simp only [zz_get_put, zz_get_new, zz_put_1, zz_new_1, hid, ↓reduceIte]; (repeat (first | rw [if_pos (by omega)] | rw [if_neg (by omega)])); first | done | rfl | assumption)) (by exact Nat.le_of_ble_eq_true rfl) rfl ?_
  dsimp only [List.set]
  refine aw_return cx dX3_init_32 ?_
  refine hRet _ _ rfl (by simp only [zz_put_1, zz_new_1]) ?_
  refine k _ (by simp only [zz_put_1, zz_new_1]) ⟨(by (simp only [zz_get_put, zz_get_new, zz_put_1, zz_new_1, hid, ↓reduceIte]; (repeat (first | rw [if_pos (by omega)] | rw [if_neg (by omega)])); first | done | rfl | assumption)), (by (simp only [zz_get_put, zz_get_new, zz_put_1, zz_new_1, hid, ↓reduceIte]; (repeat (first | rw [if_pos (by omega)] | rw [if_neg (by omega)])); first | done | rfl | assumption)), (by (simp only [zz_get_put, zz_get_new, zz_put_1, zz_new_1, hid, ↓reduceIte]; (repeat (first | rw [if_pos (by omega)] | rw [if_neg (by omega)])); first | done | rfl | assumption)), (by (simp only [zz_get_put, zz_get_new, zz_put_1, zz_new_1, hid, ↓reduceIte]; (repeat (first | rw [if_pos (by omega)] | rw [if_neg (by omega)])); first | done | rfl | assumption))⟩ (fun j hj => by simp only [zz_get_put, zz_get_new, zz_put_1, zz_new_1, hid]; (repeat (first | rw [if_pos (by omega)] | rw [if_neg (by omega)])))
