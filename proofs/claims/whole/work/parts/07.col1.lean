/-! ShareTables.Colouring: its small methods -/
set_option maxRecDepth 100000 in
set_option maxHeartbeats 4000000 in
theorem s_X0_colourOf {h : AH} {Q : Option AV → AH → Prop} {o : Nat} {n r f : Int} {C : Int → Int} {a b : Int} (hO : zz_get h o = cCol o n r f) (hC : zz_get h (o + 1) = cA 64 C) (ha : 0 ≤ a ∧ a < 8) (hb : 0 ≤ b ∧ b < 8) (k : ∀ v, v = C (8 * a + b) → Q (some (vI v)) h) : MC mX0_colourOf [vR o, vI a, vI b] h Q := by
  refine mc_start mX0_colourOf RX0 "colourOf" ⟨rfl, rfl, by decide +kernel⟩ [some (vR o), some (vI a), some (vI b)] ⟨0, rfl⟩ rfl (fun X cx hRm hNS hRet => ?_)
  refine aw_aload_n cx 1 dX0_colourOf_0 rfl rfl ?_
  refine aw_getfield cx 4 dX0_colourOf_1 rfl fdX0_9 (by first | assumption | exact hc_0 | exact hc_1 | exact hc_2 | exact hc_3 | exact hc_4 | exact zz_gs _ _ _ | exact (hc_x (by omega)).trans (by first | assumption | exact hc_0 | exact hc_1 | exact hc_2 | exact hc_3 | exact hc_4 | exact zz_gs _ _ _) | exact (zz_gn (by omega)).trans (by first | assumption | exact hc_0 | exact hc_1 | exact hc_2 | exact hc_3 | exact hc_4 | exact zz_gs _ _ _)) (by rfl) ?_
  refine aw_iload_n cx 5 dX0_colourOf_4 rfl rfl ?_
  refine aw_bipush cx 7 dX0_colourOf_5 rfl (by decide +kernel) ?_
  refine aw_imul cx 8 dX0_colourOf_7 rfl ?_
  refine aw_iload_n cx 9 dX0_colourOf_8 rfl rfl ?_
  refine aw_iadd cx 10 dX0_colourOf_9 rfl ?_
  refine aw_iaload cx 11 dX0_colourOf_10 rfl (by first | assumption | exact hc_0 | exact hc_1 | exact hc_2 | exact hc_3 | exact hc_4 | exact zz_gs _ _ _ | exact (hc_x (by omega)).trans (by first | assumption | exact hc_0 | exact hc_1 | exact hc_2 | exact hc_3 | exact hc_4 | exact zz_gs _ _ _) | exact (zz_gn (by omega)).trans (by first | assumption | exact hc_0 | exact hc_1 | exact hc_2 | exact hc_3 | exact hc_4 | exact zz_gs _ _ _)) ⟨by omega, by omega⟩ (by decide) ?_
  refine aw_ireturn cx dX0_colourOf_11 ?_
  refine hRet _ _ True.intro rfl ?_
  exact k _ (by rw [show a * 8 + b = 8 * a + b by omega])
set_option maxRecDepth 100000 in
set_option maxHeartbeats 4000000 in
theorem s_X0_paint {h : AH} {Q : Option AV → AH → Prop} {o : Nat} {n r f : Int} {C : Int → Int} {a b c : Int} (hO : zz_get h o = cCol o n r f) (hC : zz_get h (o + 1) = cA 64 C) (ha : 0 ≤ a ∧ a < 8) (hb : 0 ≤ b ∧ b < 8) (k : Q none (zz_put h (o + 1) (cA 64 (zz_up C (8 * a + b) c)))) : MC mX0_paint [vR o, vI a, vI b, vI c] h Q := by
  refine mc_start mX0_paint RX0 "paint" ⟨rfl, rfl, by decide +kernel⟩ [some (vR o), some (vI a), some (vI b), some (vI c)] ⟨0, rfl⟩ rfl (fun X cx hRm hNS hRet => ?_)
  refine aw_aload_n cx 1 dX0_paint_0 rfl rfl ?_
  refine aw_getfield cx 4 dX0_paint_1 rfl fdX0_9 (by first | assumption | exact hc_0 | exact hc_1 | exact hc_2 | exact hc_3 | exact hc_4 | exact zz_gs _ _ _ | exact (hc_x (by omega)).trans (by first | assumption | exact hc_0 | exact hc_1 | exact hc_2 | exact hc_3 | exact hc_4 | exact zz_gs _ _ _) | exact (zz_gn (by omega)).trans (by first | assumption | exact hc_0 | exact hc_1 | exact hc_2 | exact hc_3 | exact hc_4 | exact zz_gs _ _ _)) (by rfl) ?_
  refine aw_iload_n cx 5 dX0_paint_4 rfl rfl ?_
  refine aw_bipush cx 7 dX0_paint_5 rfl (by decide +kernel) ?_
  refine aw_imul cx 8 dX0_paint_7 rfl ?_
  refine aw_iload_n cx 9 dX0_paint_8 rfl rfl ?_
  refine aw_iadd cx 10 dX0_paint_9 rfl ?_
  refine aw_iload_n cx 11 dX0_paint_10 rfl rfl ?_
  refine aw_iastore cx 12 dX0_paint_11 rfl (by first | assumption | exact hc_0 | exact hc_1 | exact hc_2 | exact hc_3 | exact hc_4 | exact zz_gs _ _ _ | exact (hc_x (by omega)).trans (by first | assumption | exact hc_0 | exact hc_1 | exact hc_2 | exact hc_3 | exact hc_4 | exact zz_gs _ _ _) | exact (zz_gn (by omega)).trans (by first | assumption | exact hc_0 | exact hc_1 | exact hc_2 | exact hc_3 | exact hc_4 | exact zz_gs _ _ _)) ⟨by omega, by omega⟩ (by decide) ?_
  refine aw_return cx dX0_paint_12 ?_
  refine hRet _ _ rfl rfl ?_
  rw [show a * 8 + b = 8 * a + b by omega]
  exact k
set_option maxRecDepth 100000 in
set_option maxHeartbeats 4000000 in
theorem s_X0_failureAt {h : AH} {Q : Option AV → AH → Prop} {t a b : Int} (k : ∀ v, v = 100 * t + 10 * a + b → Q (some (vI v)) h) : MC mX0_failureAt [vI t, vI a, vI b] h Q := by
  refine mc_start mX0_failureAt RX0 "failureAt" ⟨rfl, rfl, by decide +kernel⟩ [some (vI t), some (vI a), some (vI b)] ⟨0, rfl⟩ rfl (fun X cx hRm hNS hRet => ?_)
  refine aw_bipush cx 2 dX0_failureAt_0 rfl (by decide +kernel) ?_
  refine aw_iload_n cx 3 dX0_failureAt_2 rfl rfl ?_
  refine aw_imul cx 4 dX0_failureAt_3 rfl ?_
  refine aw_bipush cx 6 dX0_failureAt_4 rfl (by decide +kernel) ?_
  refine aw_iload_n cx 7 dX0_failureAt_6 rfl rfl ?_
  refine aw_imul cx 8 dX0_failureAt_7 rfl ?_
  refine aw_iadd cx 9 dX0_failureAt_8 rfl ?_
  refine aw_iload_n cx 10 dX0_failureAt_9 rfl rfl ?_
  refine aw_iadd cx 11 dX0_failureAt_10 rfl ?_
  refine aw_ireturn cx dX0_failureAt_11 ?_
  refine hRet _ _ True.intro rfl ?_
  exact k _ rfl
set_option maxRecDepth 100000 in
set_option maxHeartbeats 4000000 in
theorem s_X0_numberOf {h : AH} {Q : Option AV → AH → Prop} {o : Nat} {n r f : Int} {Nu : Int → Int} {i j l : Int} (hO : zz_get h o = cCol o n r f) (hN : zz_get h (o + 3) = cA 125 Nu) (hi : 0 ≤ i ∧ i < 5) (hj : 0 ≤ j ∧ j < 5) (hl : 0 ≤ l ∧ l < 5) (k : ∀ v, v = Nu (25 * l + 5 * i + j) → Q (some (vI v)) h) : MC mX0_numberOf [vR o, vI i, vI j, vI l] h Q := by
  refine mc_start mX0_numberOf RX0 "numberOf" ⟨rfl, rfl, by decide +kernel⟩ [some (vR o), some (vI i), some (vI j), some (vI l)] ⟨0, rfl⟩ rfl (fun X cx hRm hNS hRet => ?_)
  refine aw_aload_n cx 1 dX0_numberOf_0 rfl rfl ?_
  refine aw_getfield cx 4 dX0_numberOf_1 rfl fdX0_18 (by first | assumption | exact hc_0 | exact hc_1 | exact hc_2 | exact hc_3 | exact hc_4 | exact zz_gs _ _ _ | exact (hc_x (by omega)).trans (by first | assumption | exact hc_0 | exact hc_1 | exact hc_2 | exact hc_3 | exact hc_4 | exact zz_gs _ _ _) | exact (zz_gn (by omega)).trans (by first | assumption | exact hc_0 | exact hc_1 | exact hc_2 | exact hc_3 | exact hc_4 | exact zz_gs _ _ _)) (by rfl) ?_
  refine aw_iload_n cx 5 dX0_numberOf_4 rfl rfl ?_
  refine aw_iconst cx 6 dX0_numberOf_5 rfl ?_
  refine aw_imul cx 7 dX0_numberOf_6 rfl ?_
  refine aw_iload_n cx 8 dX0_numberOf_7 rfl rfl ?_
  refine aw_iadd cx 9 dX0_numberOf_8 rfl ?_
  refine aw_iconst cx 10 dX0_numberOf_9 rfl ?_
  refine aw_imul cx 11 dX0_numberOf_10 rfl ?_
  refine aw_iload_n cx 12 dX0_numberOf_11 rfl rfl ?_
  refine aw_iadd cx 13 dX0_numberOf_12 rfl ?_
  refine aw_iaload cx 14 dX0_numberOf_13 rfl (by first | assumption | exact hc_0 | exact hc_1 | exact hc_2 | exact hc_3 | exact hc_4 | exact zz_gs _ _ _ | exact (hc_x (by omega)).trans (by first | assumption | exact hc_0 | exact hc_1 | exact hc_2 | exact hc_3 | exact hc_4 | exact zz_gs _ _ _) | exact (zz_gn (by omega)).trans (by first | assumption | exact hc_0 | exact hc_1 | exact hc_2 | exact hc_3 | exact hc_4 | exact zz_gs _ _ _)) ⟨by omega, by omega⟩ (by decide) ?_
  refine aw_ireturn cx dX0_numberOf_14 ?_
  refine hRet _ _ True.intro rfl ?_
  exact k _ (by rw [show (l * 5 + i) * 5 + j = 25 * l + 5 * i + j by omega])
set_option maxRecDepth 100000 in
set_option maxHeartbeats 4000000 in
theorem s_X0_reverseOf {h : AH} {Q : Option AV → AH → Prop} {o : Nat} {n r f : Int} {C F : Int → Int} {i : Int} (hO : zz_get h o = cCol o n r f) (hC : zz_get h (o + 1) = cA 64 C) (hF : zz_get h (o + 2) = cA 5 F) (hi : 0 ≤ i ∧ i < 5) (hf : -1 ≤ F i ∧ F i < 64) (k : ∀ v, v = (if F i = -1 then 0 else C (8 * (F i % 8) + F i / 8)) → Q (some (vI v)) h) : MC mX0_reverseOf [vR o, vI i] h Q := by
  refine mc_start mX0_reverseOf RX0 "reverseOf" ⟨rfl, rfl, by decide +kernel⟩ [some (vR o), some (vI i), none] ⟨1, rfl⟩ rfl (fun X cx hRm hNS hRet => ?_)
  refine aw_aload_n cx 1 dX0_reverseOf_0 rfl rfl ?_
  refine aw_getfield cx 4 dX0_reverseOf_1 rfl fdX0_15 (by first | assumption | exact hc_0 | exact hc_1 | exact hc_2 | exact hc_3 | exact hc_4 | exact zz_gs _ _ _ | exact (hc_x (by omega)).trans (by first | assumption | exact hc_0 | exact hc_1 | exact hc_2 | exact hc_3 | exact hc_4 | exact zz_gs _ _ _) | exact (zz_gn (by omega)).trans (by first | assumption | exact hc_0 | exact hc_1 | exact hc_2 | exact hc_3 | exact hc_4 | exact zz_gs _ _ _)) (by rfl) ?_
  refine aw_iload_n cx 5 dX0_reverseOf_4 rfl rfl ?_
  refine aw_iaload cx 6 dX0_reverseOf_5 rfl (by first | assumption | exact hc_0 | exact hc_1 | exact hc_2 | exact hc_3 | exact hc_4 | exact zz_gs _ _ _ | exact (hc_x (by omega)).trans (by first | assumption | exact hc_0 | exact hc_1 | exact hc_2 | exact hc_3 | exact hc_4 | exact zz_gs _ _ _) | exact (zz_gn (by omega)).trans (by first | assumption | exact hc_0 | exact hc_1 | exact hc_2 | exact hc_3 | exact hc_4 | exact zz_gs _ _ _)) ⟨by omega, by omega⟩ (by decide) ?_
  refine aw_istore_n cx 7 2 dX0_reverseOf_6 rfl rfl ⟨Nat.le_of_ble_eq_true rfl, Nat.le_of_ble_eq_true rfl⟩ rfl ?_
  dsimp only [List.set]
  refine aw_iload_n cx 8 dX0_reverseOf_7 rfl rfl ?_
  refine aw_iconst cx 9 dX0_reverseOf_8 rfl ?_
  refine aw_icmp_ne cx 12 14 dX0_reverseOf_9 rfl (by decide) ⟨⟨by omega, by omega⟩, ⟨by omega, by omega⟩⟩ (fun c9 => ?_) (fun c9 => ?_)
  · refine aw_aload_n cx 15 dX0_reverseOf_14 rfl rfl ?_
    refine aw_iload_n cx 16 dX0_reverseOf_15 rfl rfl ?_
    refine aw_bipush cx 18 dX0_reverseOf_16 rfl (by decide +kernel) ?_
    refine aw_iremN cx 19 dX0_reverseOf_18 rfl ⟨by omega, by omega, by omega, by omega⟩ ?_
    refine aw_iload_n cx 20 dX0_reverseOf_19 rfl rfl ?_
    refine aw_bipush cx 22 dX0_reverseOf_20 rfl (by decide +kernel) ?_
    refine aw_idivN cx 23 dX0_reverseOf_22 rfl ⟨by omega, by omega, by omega, by omega⟩ ?_
    refine aw_V2v cx 26 mX0_colourOf (ci := 0) dX0_reverseOf_23 rfl okmX0_colourOf lkX0_41 (by first | assumption | exact hc_0 | exact hc_1 | exact hc_2 | exact hc_3 | exact hc_4 | exact zz_gs _ _ _ | exact (hc_x (by omega)).trans (by first | assumption | exact hc_0 | exact hc_1 | exact hc_2 | exact hc_3 | exact hc_4 | exact zz_gs _ _ _) | exact (zz_gn (by omega)).trans (by first | assumption | exact hc_0 | exact hc_1 | exact hc_2 | exact hc_3 | exact hc_4 | exact zz_gs _ _ _)) ⟨rfl, by decide⟩ (zz_rc0 mX0_reverseOf hRm hNS rfl rfl) (Nat.le_of_ble_eq_true rfl) ?_
    refine s_X0_colourOf (by first | assumption | exact hc_0 | exact hc_1 | exact hc_2 | exact hc_3 | exact hc_4 | exact (hc_x (by omega)).trans (by first | assumption | exact hc_0 | exact hc_1 | exact hc_2 | exact hc_3 | exact hc_4)) (by first | assumption | exact hc_0 | exact hc_1 | exact hc_2 | exact hc_3 | exact hc_4 | exact (hc_x (by omega)).trans (by first | assumption | exact hc_0 | exact hc_1 | exact hc_2 | exact hc_3 | exact hc_4)) ⟨by omega, by omega⟩ ⟨by omega, by omega⟩ (fun v23 e23 => ⟨_, rfl, ?_⟩)
    refine aw_ireturn cx dX0_reverseOf_26 ?_
    refine hRet _ _ True.intro rfl ?_
    exact k _ (by rw [e23, if_neg c9])
  · refine aw_iconst cx 13 dX0_reverseOf_12 rfl ?_
    refine aw_ireturn cx dX0_reverseOf_13 ?_
    refine hRet _ _ True.intro rfl ?_
    exact k _ (by rw [if_pos c9])
