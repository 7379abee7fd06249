set_option maxRecDepth 100000 in
set_option maxHeartbeats 4000000 in
theorem s_X0_degreeOf {h : AH} {Q : Option AV → AH → Prop} {o : Nat} {C F Nu Co : Int → Int} {n r f : Int} {g : Gr} (hn : 1 ≤ n ∧ n ≤ 8) (hA : ag n C g) (hg : rgn n g) {i : Int} (hi : 0 ≤ i ∧ i < 5) (k : ∀ v, v = dg n g i → Q (some (vI v)) (hcol h o C F Nu Co n r f)) : MC mX0_degreeOf [vR o, vI i] (hcol h o C F Nu Co n r f) Q := by
  refine mc_start mX0_degreeOf RX0 "degreeOf" ⟨rfl, rfl, by decide +kernel⟩ [some (vR o), some (vI i), none, none] ⟨2, rfl⟩ rfl (fun X cx hRm hNS hRet => ?_)
  refine aw_iconst cx 1 dX0_degreeOf_0 rfl ?_
  refine aw_istore_n cx 2 2 dX0_degreeOf_1 rfl rfl ⟨Nat.le_of_ble_eq_true rfl, Nat.le_of_ble_eq_true rfl⟩ rfl ?_
  dsimp only [List.set]
  refine aw_iconst cx 3 dX0_degreeOf_2 rfl ?_
  refine aw_istore_n cx 4 3 dX0_degreeOf_3 rfl rfl ⟨Nat.le_of_ble_eq_true rfl, Nat.le_of_ble_eq_true rfl⟩ rfl ?_
  dsimp only [List.set]
  have lp4 : ∀ (kf : Nat) (b s : Int), (n - b < (kf : Int)) → (0 ≤ b ∧ b ≤ n) → s = dg b g i → AW X 4 [some (vR o), some (vI i), some (vI s), some (vI b)] [] ((hcol h o C F Nu Co n r f)) := by
    intro kf
    induction kf with
    | zero =>
      intro b s hk hb hs
      exfalso
      omega
    | succ kf ih4 =>
      intro b s hk hb hs
      refine aw_iload_n cx 5 dX0_degreeOf_4 rfl rfl ?_
      refine aw_aload_n cx 6 dX0_degreeOf_5 rfl rfl ?_
      refine aw_getfield cx 9 dX0_degreeOf_6 rfl fdX0_24 (by first | assumption | exact hc_0 | exact hc_1 | exact hc_2 | exact hc_3 | exact hc_4 | exact zz_gs _ _ _ | exact (hc_x (by omega)).trans (by first | assumption | exact hc_0 | exact hc_1 | exact hc_2 | exact hc_3 | exact hc_4 | exact zz_gs _ _ _) | exact (zz_gn (by omega)).trans (by first | assumption | exact hc_0 | exact hc_1 | exact hc_2 | exact hc_3 | exact hc_4 | exact zz_gs _ _ _)) (by rfl) ?_
      refine aw_icmp_ge cx 12 31 dX0_degreeOf_9 rfl (by decide) ⟨⟨by omega, by omega⟩, ⟨by omega, by omega⟩⟩ (fun c9 => ?_) (fun c9 => ?_)
      · refine aw_iload_n cx 32 dX0_degreeOf_31 rfl rfl ?_
        refine aw_ireturn cx dX0_degreeOf_32 ?_
        refine hRet _ _ True.intro rfl ?_
        exact k _ (by rw [hs, show b = n by omega])
      · refine aw_aload_n cx 13 dX0_degreeOf_12 rfl rfl ?_
        refine aw_iconst cx 14 dX0_degreeOf_13 rfl ?_
        refine aw_iload_n cx 15 dX0_degreeOf_14 rfl rfl ?_
        refine aw_V2v cx 18 mX0_colourOf (ci := 0) dX0_degreeOf_15 rfl okmX0_colourOf lkX0_41 (by first | assumption | exact hc_0 | exact hc_1 | exact hc_2 | exact hc_3 | exact hc_4 | exact zz_gs _ _ _ | exact (hc_x (by omega)).trans (by first | assumption | exact hc_0 | exact hc_1 | exact hc_2 | exact hc_3 | exact hc_4 | exact zz_gs _ _ _) | exact (zz_gn (by omega)).trans (by first | assumption | exact hc_0 | exact hc_1 | exact hc_2 | exact hc_3 | exact hc_4 | exact zz_gs _ _ _)) ⟨rfl, by decide⟩ (zz_rc0 mX0_degreeOf hRm hNS rfl rfl) (Nat.le_of_ble_eq_true rfl) ?_
        refine s_X0_colourOf (by first | assumption | exact hc_0 | exact hc_1 | exact hc_2 | exact hc_3 | exact hc_4 | exact (hc_x (by omega)).trans (by first | assumption | exact hc_0 | exact hc_1 | exact hc_2 | exact hc_3 | exact hc_4)) (by first | assumption | exact hc_0 | exact hc_1 | exact hc_2 | exact hc_3 | exact hc_4 | exact (hc_x (by omega)).trans (by first | assumption | exact hc_0 | exact hc_1 | exact hc_2 | exact hc_3 | exact hc_4)) ⟨by omega, by omega⟩ ⟨by omega, by omega⟩ (fun v15 e15 => ⟨_, rfl, ?_⟩)
        have q15 := hA 0 b (by omega) (by omega) (by omega) (by omega)
        have w15 := hg 0 b (by omega) (by omega) (by omega) (by omega)
        have u15 := dg_b hb.1 g i
        refine aw_iload_n cx 19 dX0_degreeOf_18 rfl rfl ?_
        refine aw_icmp_ne cx 22 25 dX0_degreeOf_19 rfl (by decide) ⟨⟨by omega, by omega⟩, ⟨by omega, by omega⟩⟩ (fun c19 => ?_) (fun c19 => ?_)
        · refine aw_iinc cx 28 dX0_degreeOf_25 rfl rfl (Nat.le_of_ble_eq_true rfl) rfl ?_
          dsimp only [List.set]
          refine aw_goto cx 4 dX0_degreeOf_28 (by decide) ?_
          exact ih4 (b + 1) _ (by omega) ⟨by omega, by omega⟩ (by rw [dg_s hb.1]; split <;> omega)
        · refine aw_iinc cx 25 dX0_degreeOf_22 rfl rfl (Nat.le_of_ble_eq_true rfl) rfl ?_
          dsimp only [List.set]
          refine aw_iinc cx 28 dX0_degreeOf_25 rfl rfl (Nat.le_of_ble_eq_true rfl) rfl ?_
          dsimp only [List.set]
          refine aw_goto cx 4 dX0_degreeOf_28 (by decide) ?_
          exact ih4 (b + 1) _ (by omega) ⟨by omega, by omega⟩ (by rw [dg_s hb.1]; split <;> omega)
  exact lp4 (n.toNat + 1) 0 0 (by omega) ⟨by omega, by omega⟩ rfl
set_option maxRecDepth 100000 in
set_option maxHeartbeats 4000000 in
theorem s_X0_countBetween {h : AH} {Q : Option AV → AH → Prop} {o : Nat} {C F Nu Co : Int → Int} {n r f : Int} {g : Gr} (hn : 1 ≤ n ∧ n ≤ 8) (hA : ag n C g) (hg : rgn n g) {a b : Int} (ha : 0 ≤ a ∧ a < n) (hb : 0 ≤ b ∧ b < n) (k : ∀ Co', (∀ i j, 0 ≤ i → i < 5 → 0 ≤ j → j < 5 → Co' (5 * i + j) = cn n g a b i j) → Q none (hcol h o C F Nu Co' n r f)) : MC mX0_countBetween [vR o, vI a, vI b] (hcol h o C F Nu Co n r f) Q := by
  refine mc_start mX0_countBetween RX0 "countBetween" ⟨rfl, rfl, by decide +kernel⟩ [some (vR o), some (vI a), some (vI b), none] ⟨1, rfl⟩ rfl (fun X cx hRm hNS hRet => ?_)
  refine aw_iconst cx 1 dX0_countBetween_0 rfl ?_
  refine aw_istore_n cx 2 3 dX0_countBetween_1 rfl rfl ⟨Nat.le_of_ble_eq_true rfl, Nat.le_of_ble_eq_true rfl⟩ rfl ?_
  dsimp only [List.set]
  have lp2 : ∀ (kf : Nat) (x : Int) (Co' : Int → Int), (25 - x < (kf : Int)) → (0 ≤ x ∧ x ≤ 25) → (∀ y, 0 ≤ y → y < x → Co' y = 0) → AW X 2 [some (vR o), some (vI a), some (vI b), some (vI x)] [] (hcol h o C F Nu Co' n r f) := by
    intro kf
    induction kf with
    | zero =>
      intro x Co' hk hx hz
      exfalso
      omega
    | succ kf ih2 =>
      intro x Co' hk hx hz
      refine aw_iload_n cx 3 dX0_countBetween_2 rfl rfl ?_
      refine aw_bipush cx 5 dX0_countBetween_3 rfl (by decide +kernel) ?_
      refine aw_icmp_ge cx 8 21 dX0_countBetween_5 rfl (by decide) ⟨⟨by omega, by omega⟩, ⟨by omega, by omega⟩⟩ (fun c5 => ?_) (fun c5 => ?_)
      · refine aw_iconst cx 22 dX0_countBetween_21 rfl ?_
        refine aw_istore_n cx 23 3 dX0_countBetween_22 rfl rfl ⟨Nat.le_of_ble_eq_true rfl, Nat.le_of_ble_eq_true rfl⟩ rfl ?_
        dsimp only [List.set]
        have lp23 : ∀ (kf : Nat) (e : Int) (Ct : Int → Int), (n - e < (kf : Int)) → (0 ≤ e ∧ e ≤ n) → (∀ i j, 0 ≤ i → i < 5 → 0 ≤ j → j < 5 → Ct (5 * i + j) = cn e g a b i j) → AW X 23 [some (vR o), some (vI a), some (vI b), some (vI e)] [] (hcol h o C F Nu Ct n r f) := by
          intro kf
          induction kf with
          | zero =>
            intro e Ct hk he hI
            exfalso
            omega
          | succ kf ih23 =>
            intro e Ct hk he hI
            refine aw_iload_n cx 24 dX0_countBetween_23 rfl rfl ?_
            refine aw_aload_n cx 25 dX0_countBetween_24 rfl rfl ?_
            refine aw_getfield cx 28 dX0_countBetween_25 rfl fdX0_24 (by first | assumption | exact hc_0 | exact hc_1 | exact hc_2 | exact hc_3 | exact hc_4 | exact zz_gs _ _ _ | exact (hc_x (by omega)).trans (by first | assumption | exact hc_0 | exact hc_1 | exact hc_2 | exact hc_3 | exact hc_4 | exact zz_gs _ _ _) | exact (zz_gn (by omega)).trans (by first | assumption | exact hc_0 | exact hc_1 | exact hc_2 | exact hc_3 | exact hc_4 | exact zz_gs _ _ _)) (by rfl) ?_
            refine aw_icmp_ge cx 31 61 dX0_countBetween_28 rfl (by decide) ⟨⟨by omega, by omega⟩, ⟨by omega, by omega⟩⟩ (fun c28 => ?_) (fun c28 => ?_)
            · refine aw_return cx dX0_countBetween_61 ?_
              refine hRet _ _ rfl rfl ?_
              exact k _ (by rw [show e = n by omega] at hI; exact hI)
            · refine aw_aload_n cx 32 dX0_countBetween_31 rfl rfl ?_
              refine aw_getfield cx 35 dX0_countBetween_32 rfl fdX0_21 (by first | assumption | exact hc_0 | exact hc_1 | exact hc_2 | exact hc_3 | exact hc_4 | exact zz_gs _ _ _ | exact (hc_x (by omega)).trans (by first | assumption | exact hc_0 | exact hc_1 | exact hc_2 | exact hc_3 | exact hc_4 | exact zz_gs _ _ _) | exact (zz_gn (by omega)).trans (by first | assumption | exact hc_0 | exact hc_1 | exact hc_2 | exact hc_3 | exact hc_4 | exact zz_gs _ _ _)) (by rfl) ?_
              refine aw_aload_n cx 36 dX0_countBetween_35 rfl rfl ?_
              refine aw_iload_n cx 37 dX0_countBetween_36 rfl rfl ?_
              refine aw_iload_n cx 38 dX0_countBetween_37 rfl rfl ?_
              refine aw_V2v cx 41 mX0_colourOf (ci := 0) dX0_countBetween_38 rfl okmX0_colourOf lkX0_41 (by first | assumption | exact hc_0 | exact hc_1 | exact hc_2 | exact hc_3 | exact hc_4 | exact zz_gs _ _ _ | exact (hc_x (by omega)).trans (by first | assumption | exact hc_0 | exact hc_1 | exact hc_2 | exact hc_3 | exact hc_4 | exact zz_gs _ _ _) | exact (zz_gn (by omega)).trans (by first | assumption | exact hc_0 | exact hc_1 | exact hc_2 | exact hc_3 | exact hc_4 | exact zz_gs _ _ _)) ⟨rfl, by decide⟩ (zz_rc0 mX0_countBetween hRm hNS rfl rfl) (Nat.le_of_ble_eq_true rfl) ?_
              refine s_X0_colourOf (by first | assumption | exact hc_0 | exact hc_1 | exact hc_2 | exact hc_3 | exact hc_4 | exact (hc_x (by omega)).trans (by first | assumption | exact hc_0 | exact hc_1 | exact hc_2 | exact hc_3 | exact hc_4)) (by first | assumption | exact hc_0 | exact hc_1 | exact hc_2 | exact hc_3 | exact hc_4 | exact (hc_x (by omega)).trans (by first | assumption | exact hc_0 | exact hc_1 | exact hc_2 | exact hc_3 | exact hc_4)) ⟨by omega, by omega⟩ ⟨by omega, by omega⟩ (fun v38 e38 => ⟨_, rfl, ?_⟩)
              have q38 := hA a e (by omega) (by omega) (by omega) (by omega)
              have w38 := hg a e (by omega) (by omega) (by omega) (by omega)
              refine aw_iconst cx 42 dX0_countBetween_41 rfl ?_
              refine aw_imul cx 43 dX0_countBetween_42 rfl ?_
              refine aw_aload_n cx 44 dX0_countBetween_43 rfl rfl ?_
              refine aw_iload_n cx 45 dX0_countBetween_44 rfl rfl ?_
              refine aw_iload_n cx 46 dX0_countBetween_45 rfl rfl ?_
              refine aw_V2v cx 49 mX0_colourOf (ci := 0) dX0_countBetween_46 rfl okmX0_colourOf lkX0_41 (by first | assumption | exact hc_0 | exact hc_1 | exact hc_2 | exact hc_3 | exact hc_4 | exact zz_gs _ _ _ | exact (hc_x (by omega)).trans (by first | assumption | exact hc_0 | exact hc_1 | exact hc_2 | exact hc_3 | exact hc_4 | exact zz_gs _ _ _) | exact (zz_gn (by omega)).trans (by first | assumption | exact hc_0 | exact hc_1 | exact hc_2 | exact hc_3 | exact hc_4 | exact zz_gs _ _ _)) ⟨rfl, by decide⟩ (zz_rc0 mX0_countBetween hRm hNS rfl rfl) (Nat.le_of_ble_eq_true rfl) ?_
              refine s_X0_colourOf (by first | assumption | exact hc_0 | exact hc_1 | exact hc_2 | exact hc_3 | exact hc_4 | exact (hc_x (by omega)).trans (by first | assumption | exact hc_0 | exact hc_1 | exact hc_2 | exact hc_3 | exact hc_4)) (by first | assumption | exact hc_0 | exact hc_1 | exact hc_2 | exact hc_3 | exact hc_4 | exact (hc_x (by omega)).trans (by first | assumption | exact hc_0 | exact hc_1 | exact hc_2 | exact hc_3 | exact hc_4)) ⟨by omega, by omega⟩ ⟨by omega, by omega⟩ (fun v46 e46 => ⟨_, rfl, ?_⟩)
              have q46 := hA e b (by omega) (by omega) (by omega) (by omega)
              have w46 := hg e b (by omega) (by omega) (by omega) (by omega)
              refine aw_iadd cx 50 dX0_countBetween_49 rfl ?_
              refine aw_dup2 cx 51 dX0_countBetween_50 rfl ⟨rfl, rfl⟩ ?_
              refine aw_iaload cx 52 dX0_countBetween_51 rfl (by first | assumption | exact hc_0 | exact hc_1 | exact hc_2 | exact hc_3 | exact hc_4 | exact zz_gs _ _ _ | exact (hc_x (by omega)).trans (by first | assumption | exact hc_0 | exact hc_1 | exact hc_2 | exact hc_3 | exact hc_4 | exact zz_gs _ _ _) | exact (zz_gn (by omega)).trans (by first | assumption | exact hc_0 | exact hc_1 | exact hc_2 | exact hc_3 | exact hc_4 | exact zz_gs _ _ _)) ⟨by omega, by omega⟩ (by decide) ?_
              refine aw_iconst cx 53 dX0_countBetween_52 rfl ?_
              refine aw_iadd cx 54 dX0_countBetween_53 rfl ?_
              refine aw_iastore cx 55 dX0_countBetween_54 rfl (by first | assumption | exact hc_0 | exact hc_1 | exact hc_2 | exact hc_3 | exact hc_4 | exact zz_gs _ _ _ | exact (hc_x (by omega)).trans (by first | assumption | exact hc_0 | exact hc_1 | exact hc_2 | exact hc_3 | exact hc_4 | exact zz_gs _ _ _) | exact (zz_gn (by omega)).trans (by first | assumption | exact hc_0 | exact hc_1 | exact hc_2 | exact hc_3 | exact hc_4 | exact zz_gs _ _ _)) ⟨by omega, by omega⟩ (by decide) ?_
              first | rw [hp_1] | rw [hp_2] | rw [hp_3] | rw [hp_4] | rw [hp_0]
              refine aw_iinc cx 58 dX0_countBetween_55 rfl rfl (Nat.le_of_ble_eq_true rfl) rfl ?_
              dsimp only [List.set]
              refine aw_goto cx 23 dX0_countBetween_58 (by decide) ?_
              exact ih23 (e + 1) _ (by omega) ⟨by omega, by omega⟩ (fun i j i0 i1 j0 j1 => by
                rw [cn_s he.1]
                unfold zz_up
                have q := hI i j i0 i1 j0 j1
                by_cases hh : 5 * i + j = v38 * 5 + v46
                · rw [if_pos hh, if_pos (by omega), ← hh, q]
                · rw [if_neg hh, if_neg (by omega), q])
        exact lp23 (n.toNat + 1) 0 _ (by omega) ⟨by omega, by omega⟩ (fun i j i0 i1 j0 j1 => by rw [hz _ (by omega) (by omega)]; rfl)
      · refine aw_aload_n cx 9 dX0_countBetween_8 rfl rfl ?_
        refine aw_getfield cx 12 dX0_countBetween_9 rfl fdX0_21 (by first | assumption | exact hc_0 | exact hc_1 | exact hc_2 | exact hc_3 | exact hc_4 | exact zz_gs _ _ _ | exact (hc_x (by omega)).trans (by first | assumption | exact hc_0 | exact hc_1 | exact hc_2 | exact hc_3 | exact hc_4 | exact zz_gs _ _ _) | exact (zz_gn (by omega)).trans (by first | assumption | exact hc_0 | exact hc_1 | exact hc_2 | exact hc_3 | exact hc_4 | exact zz_gs _ _ _)) (by rfl) ?_
        refine aw_iload_n cx 13 dX0_countBetween_12 rfl rfl ?_
        refine aw_iconst cx 14 dX0_countBetween_13 rfl ?_
        refine aw_iastore cx 15 dX0_countBetween_14 rfl (by first | assumption | exact hc_0 | exact hc_1 | exact hc_2 | exact hc_3 | exact hc_4 | exact zz_gs _ _ _ | exact (hc_x (by omega)).trans (by first | assumption | exact hc_0 | exact hc_1 | exact hc_2 | exact hc_3 | exact hc_4 | exact zz_gs _ _ _) | exact (zz_gn (by omega)).trans (by first | assumption | exact hc_0 | exact hc_1 | exact hc_2 | exact hc_3 | exact hc_4 | exact zz_gs _ _ _)) ⟨by omega, by omega⟩ (by decide) ?_
        first | rw [hp_1] | rw [hp_2] | rw [hp_3] | rw [hp_4] | rw [hp_0]
        refine aw_iinc cx 18 dX0_countBetween_15 rfl rfl (Nat.le_of_ble_eq_true rfl) rfl ?_
        dsimp only [List.set]
        refine aw_goto cx 2 dX0_countBetween_18 (by decide) ?_
        exact ih2 (x + 1) _ (by omega) ⟨by omega, by omega⟩ (by
          intro y y0 y1
          unfold zz_up
          split
          · rfl
          · exact hz y y0 (by omega))
  exact lp2 26 0 Co (by omega) ⟨by omega, by omega⟩ (fun y y0 y1 => by omega)
set_option maxRecDepth 100000 in
set_option maxHeartbeats 4000000 in
theorem s_X0_keepCounts {h : AH} {Q : Option AV → AH → Prop} {o : Nat} {C F Nu Co : Int → Int} {n r f : Int} {l : Int} (hl : 0 ≤ l ∧ l < 5) (k : ∀ Nu', (∀ y, 0 ≤ y → y < 25 → Nu' (25 * l + y) = Co y) → (∀ z, (z < 25 * l ∨ 25 * l + 25 ≤ z) → Nu' z = Nu z) → Q none (hcol h o C F Nu' Co n r f)) : MC mX0_keepCounts [vR o, vI l] (hcol h o C F Nu Co n r f) Q := by
  refine mc_start mX0_keepCounts RX0 "keepCounts" ⟨rfl, rfl, by decide +kernel⟩ [some (vR o), some (vI l), none] ⟨1, rfl⟩ rfl (fun X cx hRm hNS hRet => ?_)
  refine aw_iconst cx 1 dX0_keepCounts_0 rfl ?_
  refine aw_istore_n cx 2 2 dX0_keepCounts_1 rfl rfl ⟨Nat.le_of_ble_eq_true rfl, Nat.le_of_ble_eq_true rfl⟩ rfl ?_
  dsimp only [List.set]
  have lp2 : ∀ (kf : Nat) (x : Int) (Nt : Int → Int), (25 - x < (kf : Int)) → (0 ≤ x ∧ x ≤ 25) → (∀ y, 0 ≤ y → y < x → Nt (25 * l + y) = Co y) → (∀ z, (z < 25 * l ∨ 25 * l + 25 ≤ z) → Nt z = Nu z) → AW X 2 [some (vR o), some (vI l), some (vI x)] [] (hcol h o C F Nt Co n r f) := by
    intro kf
    induction kf with
    | zero =>
      intro x Nt hk hx hy hz
      exfalso
      omega
    | succ kf ih2 =>
      intro x Nt hk hx hy hz
      refine aw_iload_n cx 3 dX0_keepCounts_2 rfl rfl ?_
      refine aw_bipush cx 5 dX0_keepCounts_3 rfl (by decide +kernel) ?_
      refine aw_icmp_ge cx 8 32 dX0_keepCounts_5 rfl (by decide) ⟨⟨by omega, by omega⟩, ⟨by omega, by omega⟩⟩ (fun c5 => ?_) (fun c5 => ?_)
      · refine aw_return cx dX0_keepCounts_32 ?_
        refine hRet _ _ rfl rfl ?_
        exact k _ (by rw [show x = 25 by omega] at hy; exact hy) hz
      · refine aw_aload_n cx 9 dX0_keepCounts_8 rfl rfl ?_
        refine aw_getfield cx 12 dX0_keepCounts_9 rfl fdX0_18 (by first | assumption | exact hc_0 | exact hc_1 | exact hc_2 | exact hc_3 | exact hc_4 | exact zz_gs _ _ _ | exact (hc_x (by omega)).trans (by first | assumption | exact hc_0 | exact hc_1 | exact hc_2 | exact hc_3 | exact hc_4 | exact zz_gs _ _ _) | exact (zz_gn (by omega)).trans (by first | assumption | exact hc_0 | exact hc_1 | exact hc_2 | exact hc_3 | exact hc_4 | exact zz_gs _ _ _)) (by rfl) ?_
        refine aw_iload_n cx 13 dX0_keepCounts_12 rfl rfl ?_
        refine aw_iconst cx 14 dX0_keepCounts_13 rfl ?_
        refine aw_imul cx 15 dX0_keepCounts_14 rfl ?_
        refine aw_iconst cx 16 dX0_keepCounts_15 rfl ?_
        refine aw_imul cx 17 dX0_keepCounts_16 rfl ?_
        refine aw_iload_n cx 18 dX0_keepCounts_17 rfl rfl ?_
        refine aw_iadd cx 19 dX0_keepCounts_18 rfl ?_
        refine aw_aload_n cx 20 dX0_keepCounts_19 rfl rfl ?_
        refine aw_getfield cx 23 dX0_keepCounts_20 rfl fdX0_21 (by first | assumption | exact hc_0 | exact hc_1 | exact hc_2 | exact hc_3 | exact hc_4 | exact zz_gs _ _ _ | exact (hc_x (by omega)).trans (by first | assumption | exact hc_0 | exact hc_1 | exact hc_2 | exact hc_3 | exact hc_4 | exact zz_gs _ _ _) | exact (zz_gn (by omega)).trans (by first | assumption | exact hc_0 | exact hc_1 | exact hc_2 | exact hc_3 | exact hc_4 | exact zz_gs _ _ _)) (by rfl) ?_
        refine aw_iload_n cx 24 dX0_keepCounts_23 rfl rfl ?_
        refine aw_iaload cx 25 dX0_keepCounts_24 rfl (by first | assumption | exact hc_0 | exact hc_1 | exact hc_2 | exact hc_3 | exact hc_4 | exact zz_gs _ _ _ | exact (hc_x (by omega)).trans (by first | assumption | exact hc_0 | exact hc_1 | exact hc_2 | exact hc_3 | exact hc_4 | exact zz_gs _ _ _) | exact (zz_gn (by omega)).trans (by first | assumption | exact hc_0 | exact hc_1 | exact hc_2 | exact hc_3 | exact hc_4 | exact zz_gs _ _ _)) ⟨by omega, by omega⟩ (by decide) ?_
        refine aw_iastore cx 26 dX0_keepCounts_25 rfl (by first | assumption | exact hc_0 | exact hc_1 | exact hc_2 | exact hc_3 | exact hc_4 | exact zz_gs _ _ _ | exact (hc_x (by omega)).trans (by first | assumption | exact hc_0 | exact hc_1 | exact hc_2 | exact hc_3 | exact hc_4 | exact zz_gs _ _ _) | exact (zz_gn (by omega)).trans (by first | assumption | exact hc_0 | exact hc_1 | exact hc_2 | exact hc_3 | exact hc_4 | exact zz_gs _ _ _)) ⟨by omega, by omega⟩ (by decide) ?_
        first | rw [hp_1] | rw [hp_2] | rw [hp_3] | rw [hp_4] | rw [hp_0]
        refine aw_iinc cx 29 dX0_keepCounts_26 rfl rfl (Nat.le_of_ble_eq_true rfl) rfl ?_
        dsimp only [List.set]
        refine aw_goto cx 2 dX0_keepCounts_29 (by decide) ?_
        exact ih2 (x + 1) _ (by omega) ⟨by omega, by omega⟩ (fun y y0 y1 => by
          unfold zz_up
          by_cases e : y = x
          · subst e
            rw [if_pos (by omega)]
          · rw [if_neg (by omega)]
            exact hy y y0 (by omega)) (fun z z0 => by
          unfold zz_up
          rw [if_neg (by omega)]
          exact hz z z0)
  exact lp2 26 0 Nu (by omega) ⟨by omega, by omega⟩ (fun y y0 y1 => by omega) (fun z _ => rfl)
set_option maxRecDepth 100000 in
set_option maxHeartbeats 4000000 in
theorem s_X0_countsAreKept {h : AH} {Q : Option AV → AH → Prop} {o : Nat} {C F Nu Co : Int → Int} {n r f : Int} {l : Int} (hl : 0 ≤ l ∧ l < 5) (hb : ∀ y, 0 ≤ y → y < 25 → R32 (Co y) ∧ R32 (Nu (25 * l + y))) (k : ∀ v, ((v = 1 ∧ ∀ y, 0 ≤ y → y < 25 → Nu (25 * l + y) = Co y) ∨ (v = 0 ∧ ∃ y, 0 ≤ y ∧ y < 25 ∧ Nu (25 * l + y) ≠ Co y)) → Q (some (vI v)) (hcol h o C F Nu Co n r f)) : MC mX0_countsAreKept [vR o, vI l] (hcol h o C F Nu Co n r f) Q := by
  refine mc_start mX0_countsAreKept RX0 "countsAreKept" ⟨rfl, rfl, by decide +kernel⟩ [some (vR o), some (vI l), none] ⟨1, rfl⟩ rfl (fun X cx hRm hNS hRet => ?_)
  refine aw_iconst cx 1 dX0_countsAreKept_0 rfl ?_
  refine aw_istore_n cx 2 2 dX0_countsAreKept_1 rfl rfl ⟨Nat.le_of_ble_eq_true rfl, Nat.le_of_ble_eq_true rfl⟩ rfl ?_
  dsimp only [List.set]
  have lp2 : ∀ (kf : Nat) (x : Int), (25 - x < (kf : Int)) → (0 ≤ x ∧ x ≤ 25) → (∀ y, 0 ≤ y → y < x → Nu (25 * l + y) = Co y) → AW X 2 [some (vR o), some (vI l), some (vI x)] [] (hcol h o C F Nu Co n r f) := by
    intro kf
    induction kf with
    | zero =>
      intro x hk hx hy
      exfalso
      omega
    | succ kf ih2 =>
      intro x hk hx hy
      refine aw_iload_n cx 3 dX0_countsAreKept_2 rfl rfl ?_
      refine aw_bipush cx 5 dX0_countsAreKept_3 rfl (by decide +kernel) ?_
      refine aw_icmp_ge cx 8 37 dX0_countsAreKept_5 rfl (by decide) ⟨⟨by omega, by omega⟩, ⟨by omega, by omega⟩⟩ (fun c5 => ?_) (fun c5 => ?_)
      · refine aw_iconst cx 38 dX0_countsAreKept_37 rfl ?_
        refine aw_ireturn cx dX0_countsAreKept_38 ?_
        refine hRet _ _ (by first | exact Or.inl rfl | exact Or.inr rfl | assumption) rfl ?_
        exact k _ (Or.inl ⟨rfl, by rw [show x = 25 by omega] at hy; exact hy⟩)
      · refine aw_aload_n cx 9 dX0_countsAreKept_8 rfl rfl ?_
        refine aw_getfield cx 12 dX0_countsAreKept_9 rfl fdX0_18 (by first | assumption | exact hc_0 | exact hc_1 | exact hc_2 | exact hc_3 | exact hc_4 | exact zz_gs _ _ _ | exact (hc_x (by omega)).trans (by first | assumption | exact hc_0 | exact hc_1 | exact hc_2 | exact hc_3 | exact hc_4 | exact zz_gs _ _ _) | exact (zz_gn (by omega)).trans (by first | assumption | exact hc_0 | exact hc_1 | exact hc_2 | exact hc_3 | exact hc_4 | exact zz_gs _ _ _)) (by rfl) ?_
        refine aw_iload_n cx 13 dX0_countsAreKept_12 rfl rfl ?_
        refine aw_iconst cx 14 dX0_countsAreKept_13 rfl ?_
        refine aw_imul cx 15 dX0_countsAreKept_14 rfl ?_
        refine aw_iconst cx 16 dX0_countsAreKept_15 rfl ?_
        refine aw_imul cx 17 dX0_countsAreKept_16 rfl ?_
        refine aw_iload_n cx 18 dX0_countsAreKept_17 rfl rfl ?_
        refine aw_iadd cx 19 dX0_countsAreKept_18 rfl ?_
        refine aw_iaload cx 20 dX0_countsAreKept_19 rfl (by first | assumption | exact hc_0 | exact hc_1 | exact hc_2 | exact hc_3 | exact hc_4 | exact zz_gs _ _ _ | exact (hc_x (by omega)).trans (by first | assumption | exact hc_0 | exact hc_1 | exact hc_2 | exact hc_3 | exact hc_4 | exact zz_gs _ _ _) | exact (zz_gn (by omega)).trans (by first | assumption | exact hc_0 | exact hc_1 | exact hc_2 | exact hc_3 | exact hc_4 | exact zz_gs _ _ _)) ⟨by omega, by omega⟩ (by decide) ?_
        refine aw_aload_n cx 21 dX0_countsAreKept_20 rfl rfl ?_
        refine aw_getfield cx 24 dX0_countsAreKept_21 rfl fdX0_21 (by first | assumption | exact hc_0 | exact hc_1 | exact hc_2 | exact hc_3 | exact hc_4 | exact zz_gs _ _ _ | exact (hc_x (by omega)).trans (by first | assumption | exact hc_0 | exact hc_1 | exact hc_2 | exact hc_3 | exact hc_4 | exact zz_gs _ _ _) | exact (zz_gn (by omega)).trans (by first | assumption | exact hc_0 | exact hc_1 | exact hc_2 | exact hc_3 | exact hc_4 | exact zz_gs _ _ _)) (by rfl) ?_
        refine aw_iload_n cx 25 dX0_countsAreKept_24 rfl rfl ?_
        have e25 : 25 * l + x = l * 5 * 5 + x := by omega
        have w25 := hb x (by omega) (by omega)
        rw [e25] at w25
        refine aw_iaload cx 26 dX0_countsAreKept_25 rfl (by first | assumption | exact hc_0 | exact hc_1 | exact hc_2 | exact hc_3 | exact hc_4 | exact zz_gs _ _ _ | exact (hc_x (by omega)).trans (by first | assumption | exact hc_0 | exact hc_1 | exact hc_2 | exact hc_3 | exact hc_4 | exact zz_gs _ _ _) | exact (zz_gn (by omega)).trans (by first | assumption | exact hc_0 | exact hc_1 | exact hc_2 | exact hc_3 | exact hc_4 | exact zz_gs _ _ _)) ⟨by omega, by omega⟩ (by decide) ?_
        refine aw_icmp_eq cx 29 31 dX0_countsAreKept_26 rfl (by decide) ⟨w25.2, w25.1⟩ (fun c26 => ?_) (fun c26 => ?_)
        · refine aw_iinc cx 34 dX0_countsAreKept_31 rfl rfl (Nat.le_of_ble_eq_true rfl) rfl ?_
          dsimp only [List.set]
          refine aw_goto cx 2 dX0_countsAreKept_34 (by decide) ?_
          exact ih2 (x + 1) (by omega) ⟨by omega, by omega⟩ (fun y y0 y1 => by
            by_cases e : y = x
            · subst e
              rw [e25]
              exact c26
            · exact hy y y0 (by omega))
        · refine aw_iconst cx 30 dX0_countsAreKept_29 rfl ?_
          refine aw_ireturn cx dX0_countsAreKept_30 ?_
          refine hRet _ _ (by first | exact Or.inl rfl | exact Or.inr rfl | assumption) rfl ?_
          exact k _ (Or.inr ⟨rfl, x, by omega, by omega, by rw [e25]; exact c26⟩)
  exact lp2 26 0 (by omega) ⟨by omega, by omega⟩ (fun y y0 y1 => by omega)
set_option maxRecDepth 100000 in
set_option maxHeartbeats 4000000 in
theorem s_X0_findFirsts {h : AH} {Q : Option AV → AH → Prop} {o : Nat} {C F Nu Co : Int → Int} {n r f : Int} {g : Gr} (hn : 1 ≤ n ∧ n ≤ 8) (hA : ag n C g) (hg : rgn n g) (k : ∀ F', (∀ c, 0 ≤ c → c < 5 → F' c = fp n g c) → Q none (hcol h o C F' Nu Co n (rk n g) f)) : MC mX0_findFirsts [vR o] (hcol h o C F Nu Co n r f) Q := by
  refine mc_start mX0_findFirsts RX0 "findFirsts" ⟨rfl, rfl, by decide +kernel⟩ [some (vR o), none, none, none] ⟨3, rfl⟩ rfl (fun X cx hRm hNS hRet => ?_)
  refine aw_iconst cx 1 dX0_findFirsts_0 rfl ?_
  refine aw_istore_n cx 2 1 dX0_findFirsts_1 rfl rfl ⟨Nat.le_of_ble_eq_true rfl, Nat.le_of_ble_eq_true rfl⟩ rfl ?_
  dsimp only [List.set]
  have lp2 : ∀ (kf : Nat) (x : Int) (Ft : Int → Int), (5 - x < (kf : Int)) → (0 ≤ x ∧ x ≤ 5) → (∀ y, 0 ≤ y → y < x → Ft y = -1) → AW X 2 [some (vR o), some (vI x), none, none] [] (hcol h o C Ft Nu Co n r f) := by
    intro kf
    induction kf with
    | zero =>
      intro x Ft hk hx hz
      exfalso
      omega
    | succ kf ih2 =>
      intro x Ft hk hx hz
      refine aw_iload_n cx 3 dX0_findFirsts_2 rfl rfl ?_
      refine aw_iconst cx 4 dX0_findFirsts_3 rfl ?_
      refine aw_icmp_ge cx 7 20 dX0_findFirsts_4 rfl (by decide) ⟨⟨by omega, by omega⟩, ⟨by omega, by omega⟩⟩ (fun c4 => ?_) (fun c4 => ?_)
      · refine aw_aload_n cx 21 dX0_findFirsts_20 rfl rfl ?_
        refine aw_iconst cx 22 dX0_findFirsts_21 rfl ?_
        refine aw_putfield cx 25 dX0_findFirsts_22 rfl fdX0_28 (by first | assumption | exact hc_0 | exact hc_1 | exact hc_2 | exact hc_3 | exact hc_4 | exact zz_gs _ _ _) (by exact Nat.le_of_ble_eq_true rfl) rfl ?_
        dsimp only [List.set]
        first | rw [hp_1] | rw [hp_2] | rw [hp_3] | rw [hp_4] | rw [hp_0]
        refine aw_iconst cx 26 dX0_findFirsts_25 rfl ?_
        refine aw_istore_n cx 27 1 dX0_findFirsts_26 rfl rfl ⟨Nat.le_of_ble_eq_true rfl, Nat.le_of_ble_eq_true rfl⟩ rfl ?_
        dsimp only [List.set]
        have lp27 : ∀ (kf : Nat) (a m : Int) (Ga : Int → Int), (n - a < (kf : Int)) → (0 ≤ a ∧ a ≤ n) → m = 1 + mx2 n g a → (∀ c, 0 ≤ c → c < 5 → Ga c + 1 = sc1 a (fun x => sc1 n (tF g c x))) → AW X 27 [some (vR o), some (vI a), none, none] [] (hcol h o C Ga Nu Co n m f) := by
          intro kf
          induction kf with
          | zero =>
            intro a m Ga hk ha hm hF
            exfalso
            omega
          | succ kf ih27 =>
            intro a m Ga hk ha hm hF
            refine aw_iload_n cx 28 dX0_findFirsts_27 rfl rfl ?_
            refine aw_aload_n cx 29 dX0_findFirsts_28 rfl rfl ?_
            refine aw_getfield cx 32 dX0_findFirsts_29 rfl fdX0_24 (by first | assumption | exact hc_0 | exact hc_1 | exact hc_2 | exact hc_3 | exact hc_4 | exact zz_gs _ _ _) (by rfl) ?_
            refine aw_icmp_ge cx 35 100 dX0_findFirsts_32 rfl (by decide) ⟨⟨by omega, by omega⟩, ⟨by omega, by omega⟩⟩ (fun c32 => ?_) (fun c32 => ?_)
            · refine aw_return cx dX0_findFirsts_100 ?_
              refine hRet _ _ rfl rfl ?_
              have e100 : a = n := by omega
              rw [e100] at hm hF
              rw [hm]
              exact k _ (fun c c0 c1 => by have q := hF c c0 c1; rw [fp_tF]; omega)
            · refine aw_iconst cx 36 dX0_findFirsts_35 rfl ?_
              refine aw_istore_n cx 37 2 dX0_findFirsts_36 rfl rfl ⟨Nat.le_of_ble_eq_true rfl, Nat.le_of_ble_eq_true rfl⟩ rfl ?_
              dsimp only [List.set]
              have lp37 : ∀ (kf : Nat) (b m2 : Int) (Gb : Int → Int), (n - b < (kf : Int)) → (0 ≤ b ∧ b ≤ n) → m2 = 1 + mx1 b (g a) (mx2 n g a) → (∀ c, 0 ≤ c → c < 5 → Gb c + 1 = if sc1 a (fun x => sc1 n (tF g c x)) = 0 then sc1 b (tF g c a) else sc1 a (fun x => sc1 n (tF g c x))) → AW X 37 [some (vR o), some (vI a), some (vI b), none] [] (hcol h o C Gb Nu Co n m2 f) := by
                intro kf
                induction kf with
                | zero =>
                  intro b m2 Gb hk hb hm2 hF2
                  exfalso
                  omega
                | succ kf ih37 =>
                  intro b m2 Gb hk hb hm2 hF2
                  refine aw_iload_n cx 38 dX0_findFirsts_37 rfl rfl ?_
                  refine aw_aload_n cx 39 dX0_findFirsts_38 rfl rfl ?_
                  refine aw_getfield cx 42 dX0_findFirsts_39 rfl fdX0_24 (by first | assumption | exact hc_0 | exact hc_1 | exact hc_2 | exact hc_3 | exact hc_4 | exact zz_gs _ _ _) (by rfl) ?_
                  refine aw_icmp_ge cx 45 94 dX0_findFirsts_42 rfl (by decide) ⟨⟨by omega, by omega⟩, ⟨by omega, by omega⟩⟩ (fun c42 => ?_) (fun c42 => ?_)
                  · refine aw_iinc cx 97 dX0_findFirsts_94 rfl rfl (Nat.le_of_ble_eq_true rfl) rfl ?_
                    dsimp only [List.set]
                    refine aw_goto cx 27 dX0_findFirsts_97 (by decide) ?_
                    exact aw_weak (ih27 (a + 1) _ _ (by omega) ⟨by omega, by omega⟩ (by rw [hm2, mx2_n ha.1, show b = n by omega]) (fun c c0 c1 => by
                      have q := hF2 c c0 c1
                      rw [show b = n by omega] at q
                      rw [sc1_s ha.1]
                      exact q)) ⟨rfl, rfl, True.intro⟩
                  · refine aw_aload_n cx 46 dX0_findFirsts_45 rfl rfl ?_
                    refine aw_iload_n cx 47 dX0_findFirsts_46 rfl rfl ?_
                    refine aw_iload_n cx 48 dX0_findFirsts_47 rfl rfl ?_
                    refine aw_V2v cx 51 mX0_colourOf (ci := 0) dX0_findFirsts_48 rfl okmX0_colourOf lkX0_41 (by first | assumption | exact hc_0 | exact hc_1 | exact hc_2 | exact hc_3 | exact hc_4 | exact zz_gs _ _ _) ⟨rfl, by decide⟩ (zz_rc0 mX0_findFirsts hRm hNS rfl rfl) (Nat.le_of_ble_eq_true rfl) ?_
                    refine s_X0_colourOf (by first | assumption | exact hc_0 | exact hc_1 | exact hc_2 | exact hc_3 | exact hc_4 | exact (hc_x (by omega)).trans (by first | assumption | exact hc_0 | exact hc_1 | exact hc_2 | exact hc_3 | exact hc_4)) (by first | assumption | exact hc_0 | exact hc_1 | exact hc_2 | exact hc_3 | exact hc_4 | exact (hc_x (by omega)).trans (by first | assumption | exact hc_0 | exact hc_1 | exact hc_2 | exact hc_3 | exact hc_4)) ⟨by omega, by omega⟩ ⟨by omega, by omega⟩ (fun v48 e48 => ⟨_, rfl, ?_⟩)
                    have q48 := hA a b (by omega) (by omega) (by omega) (by omega)
                    have w48 := hg a b (by omega) (by omega) (by omega) (by omega)
                    have m48 := mx1_ge hb.1 (g a) (mx2 n g a)
                    have m49 := mx2_ge (n := n) (a := a) (by omega) ha.1 g
                    have m50 := mx1_le hb.1 (g a) (mx2 n g a) 4 (mx2_le (by omega) ha.1 (by omega) hg) (fun y y0 y1 => (hg a y (by omega) (by omega) y0 (by omega)).2)
                    have f48 := hF2 v48 (by omega) (by omega)
                    have f49 := ff_b (n := n) (a := a) (b := b) (g := g) (c := v48) (by omega) ⟨by omega, by omega⟩ ⟨by omega, by omega⟩
                    rw [← f48] at f49
                    refine aw_istore_n cx 52 3 dX0_findFirsts_51 rfl rfl ⟨Nat.le_of_ble_eq_true rfl, Nat.le_of_ble_eq_true rfl⟩ rfl ?_
                    dsimp only [List.set]
                    refine aw_aload_n cx 53 dX0_findFirsts_52 rfl rfl ?_
                    refine aw_getfield cx 56 dX0_findFirsts_53 rfl fdX0_15 (by first | assumption | exact hc_0 | exact hc_1 | exact hc_2 | exact hc_3 | exact hc_4 | exact zz_gs _ _ _) (by rfl) ?_
                    refine aw_iload_n cx 57 dX0_findFirsts_56 rfl rfl ?_
                    refine aw_iaload cx 58 dX0_findFirsts_57 rfl (by first | assumption | exact hc_0 | exact hc_1 | exact hc_2 | exact hc_3 | exact hc_4 | exact zz_gs _ _ _) ⟨by omega, by omega⟩ (by decide) ?_
                    refine aw_iconst cx 59 dX0_findFirsts_58 rfl ?_
                    refine aw_icmp_ne cx 62 74 dX0_findFirsts_59 rfl (by decide) ⟨⟨by omega, by omega⟩, ⟨by omega, by omega⟩⟩ (fun c59 => ?_) (fun c59 => ?_)
                    · refine aw_aload_n cx 75 dX0_findFirsts_74 rfl rfl ?_
                      refine aw_aload_n cx 76 dX0_findFirsts_75 rfl rfl ?_
                      refine aw_getfield cx 79 dX0_findFirsts_76 rfl fdX0_28 (by first | assumption | exact hc_0 | exact hc_1 | exact hc_2 | exact hc_3 | exact hc_4 | exact zz_gs _ _ _) (by rfl) ?_
                      refine aw_iload_n cx 80 dX0_findFirsts_79 rfl rfl ?_
                      refine aw_iconst cx 81 dX0_findFirsts_80 rfl ?_
                      refine aw_iadd cx 82 dX0_findFirsts_81 rfl ?_
                      refine aw_mmax cx 85 dX0_findFirsts_82 rfl lkX0_55 ⟨by rw [hRm]; exact (Nat.le_of_ble_eq_true rfl), by rw [hRm]; exact (Nat.le_of_ble_eq_true rfl)⟩ (zz_rm0 hNS rfl) (by constructor <;> constructor <;> omega) (fun v82 e82 => ?_)
                      refine aw_putfield cx 88 dX0_findFirsts_85 rfl fdX0_28 (by first | assumption | exact hc_0 | exact hc_1 | exact hc_2 | exact hc_3 | exact hc_4 | exact zz_gs _ _ _) (by exact Nat.le_of_ble_eq_true rfl) rfl ?_
                      dsimp only [List.set]
                      first | rw [hp_1] | rw [hp_2] | rw [hp_3] | rw [hp_4] | rw [hp_0]
                      refine aw_iinc cx 91 dX0_findFirsts_88 rfl rfl (Nat.le_of_ble_eq_true rfl) rfl ?_
                      dsimp only [List.set]
                      refine aw_goto cx 37 dX0_findFirsts_91 (by decide) ?_
                      exact aw_weak (ih37 (b + 1) _ _ (by omega) ⟨by omega, by omega⟩ (by rw [mx1_n hb.1]; split <;> omega) (by first | exact ff_new (S := fun c => sc1 a (fun x => sc1 n (tF g c x))) ha.1 hb.1 hF2 (e48.trans q48) c59 | exact ff_old (S := fun c => sc1 a (fun x => sc1 n (tF g c x))) hb.1 hF2 (e48.trans q48) c59)) ⟨rfl, rfl, rfl, True.intro⟩
                    · refine aw_aload_n cx 63 dX0_findFirsts_62 rfl rfl ?_
                      refine aw_getfield cx 66 dX0_findFirsts_63 rfl fdX0_15 (by first | assumption | exact hc_0 | exact hc_1 | exact hc_2 | exact hc_3 | exact hc_4 | exact zz_gs _ _ _) (by rfl) ?_
                      refine aw_iload_n cx 67 dX0_findFirsts_66 rfl rfl ?_
                      refine aw_iload_n cx 68 dX0_findFirsts_67 rfl rfl ?_
                      refine aw_bipush cx 70 dX0_findFirsts_68 rfl (by decide +kernel) ?_
                      refine aw_imul cx 71 dX0_findFirsts_70 rfl ?_
                      refine aw_iload_n cx 72 dX0_findFirsts_71 rfl rfl ?_
                      refine aw_iadd cx 73 dX0_findFirsts_72 rfl ?_
                      refine aw_iastore cx 74 dX0_findFirsts_73 rfl (by first | assumption | exact hc_0 | exact hc_1 | exact hc_2 | exact hc_3 | exact hc_4 | exact zz_gs _ _ _) ⟨by omega, by omega⟩ (by decide) ?_
                      first | rw [hp_1] | rw [hp_2] | rw [hp_3] | rw [hp_4] | rw [hp_0]
                      refine aw_aload_n cx 75 dX0_findFirsts_74 rfl rfl ?_
                      refine aw_aload_n cx 76 dX0_findFirsts_75 rfl rfl ?_
                      refine aw_getfield cx 79 dX0_findFirsts_76 rfl fdX0_28 (by first | assumption | exact hc_0 | exact hc_1 | exact hc_2 | exact hc_3 | exact hc_4 | exact zz_gs _ _ _) (by rfl) ?_
                      refine aw_iload_n cx 80 dX0_findFirsts_79 rfl rfl ?_
                      refine aw_iconst cx 81 dX0_findFirsts_80 rfl ?_
                      refine aw_iadd cx 82 dX0_findFirsts_81 rfl ?_
                      refine aw_mmax cx 85 dX0_findFirsts_82 rfl lkX0_55 ⟨by rw [hRm]; exact (Nat.le_of_ble_eq_true rfl), by rw [hRm]; exact (Nat.le_of_ble_eq_true rfl)⟩ (zz_rm0 hNS rfl) (by constructor <;> constructor <;> omega) (fun v82 e82 => ?_)
                      refine aw_putfield cx 88 dX0_findFirsts_85 rfl fdX0_28 (by first | assumption | exact hc_0 | exact hc_1 | exact hc_2 | exact hc_3 | exact hc_4 | exact zz_gs _ _ _) (by exact Nat.le_of_ble_eq_true rfl) rfl ?_
                      dsimp only [List.set]
                      first | rw [hp_1] | rw [hp_2] | rw [hp_3] | rw [hp_4] | rw [hp_0]
                      refine aw_iinc cx 91 dX0_findFirsts_88 rfl rfl (Nat.le_of_ble_eq_true rfl) rfl ?_
                      dsimp only [List.set]
                      refine aw_goto cx 37 dX0_findFirsts_91 (by decide) ?_
                      exact aw_weak (ih37 (b + 1) _ _ (by omega) ⟨by omega, by omega⟩ (by rw [mx1_n hb.1]; split <;> omega) (by first | exact ff_new (S := fun c => sc1 a (fun x => sc1 n (tF g c x))) ha.1 hb.1 hF2 (e48.trans q48) c59 | exact ff_old (S := fun c => sc1 a (fun x => sc1 n (tF g c x))) hb.1 hF2 (e48.trans q48) c59)) ⟨rfl, rfl, rfl, True.intro⟩
              exact aw_weak (lp37 (n.toNat + 1) 0 m Ga (by omega) ⟨by omega, by omega⟩ hm (fun c c0 c1 => by
                have q := hF c c0 c1
                rw [q, sc1_0]
                split <;> omega)) ⟨rfl, rfl, rfl, True.intro⟩
        exact aw_weak (lp27 (n.toNat + 1) 0 1 _ (by omega) ⟨by omega, by omega⟩ rfl (fun c c0 c1 => by rw [hz c c0 (by omega)]; rfl)) ⟨rfl, rfl, True.intro⟩
      · refine aw_aload_n cx 8 dX0_findFirsts_7 rfl rfl ?_
        refine aw_getfield cx 11 dX0_findFirsts_8 rfl fdX0_15 (by first | assumption | exact hc_0 | exact hc_1 | exact hc_2 | exact hc_3 | exact hc_4 | exact zz_gs _ _ _) (by rfl) ?_
        refine aw_iload_n cx 12 dX0_findFirsts_11 rfl rfl ?_
        refine aw_iconst cx 13 dX0_findFirsts_12 rfl ?_
        refine aw_iastore cx 14 dX0_findFirsts_13 rfl (by first | assumption | exact hc_0 | exact hc_1 | exact hc_2 | exact hc_3 | exact hc_4 | exact zz_gs _ _ _) ⟨by omega, by omega⟩ (by decide) ?_
        first | rw [hp_1] | rw [hp_2] | rw [hp_3] | rw [hp_4] | rw [hp_0]
        refine aw_iinc cx 17 dX0_findFirsts_14 rfl rfl (Nat.le_of_ble_eq_true rfl) rfl ?_
        dsimp only [List.set]
        refine aw_goto cx 2 dX0_findFirsts_17 (by decide) ?_
        exact ih2 (x + 1) _ (by omega) ⟨by omega, by omega⟩ (by
          intro y y0 y1
          unfold zz_up
          split
          · rfl
          · exact hz y y0 (by omega))
  exact lp2 6 0 F (by omega) ⟨by omega, by omega⟩ (fun y y0 y1 => by omega)
