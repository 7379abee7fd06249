set_option maxRecDepth 100000 in
set_option maxHeartbeats 4000000 in
theorem s_X0_begin {h : AH} {Q : Option AV → AH → Prop} {o : Nat} {C F Nu Co : Int → Int} {n r f m : Int} (hm : 1 ≤ m ∧ m ≤ 8) (k : ∀ C' F' Nu' Co' r' f', msd m gB C' F' Nu' r' f' → Q none (hcol h o C' F' Nu' Co' m r' f')) : MC mX0_begin [vR o, vI m] (hcol h o C F Nu Co n r f) Q := by
  refine mc_start mX0_begin RX0 "begin" ⟨rfl, rfl, by decide +kernel⟩ [some (vR o), some (vI m), none, none] ⟨2, rfl⟩ rfl (fun X cx hRm hNS hRet => ?_)
  refine aw_aload_n cx 1 dX0_begin_0 rfl rfl ?_
  refine aw_iload_n cx 2 dX0_begin_1 rfl rfl ?_
  refine aw_putfield cx 5 dX0_begin_2 rfl fdX0_24 (by first | assumption | exact hc_0 | exact hc_1 | exact hc_2 | exact hc_3 | exact hc_4 | exact zz_gs _ _ _) (by exact Nat.le_of_ble_eq_true rfl) rfl ?_
  dsimp only [List.set]
  first | rw [hp_1] | rw [hp_2] | rw [hp_3] | rw [hp_4] | rw [hp_0]
  refine aw_iconst cx 6 dX0_begin_5 rfl ?_
  refine aw_istore_n cx 7 2 dX0_begin_6 rfl rfl ⟨Nat.le_of_ble_eq_true rfl, Nat.le_of_ble_eq_true rfl⟩ rfl ?_
  dsimp only [List.set]
  have lp7 : ∀ (kf : Nat) (a : Int) (Ca : Int → Int), (m - a < (kf : Int)) → (0 ≤ a ∧ a ≤ m) → (∀ x y, 0 ≤ x → x < m → 0 ≤ y → y < m → x < a → Ca (8 * x + y) = gB x y) → AW X 7 [some (vR o), some (vI m), some (vI a), none] [] (hcol h o Ca F Nu Co m r f) := by
    intro kf
    induction kf with
    | zero =>
      intro a Ca hk ha hz
      exfalso
      omega
    | succ kf ih7 =>
      intro a Ca hk ha hz
      refine aw_iload_n cx 8 dX0_begin_7 rfl rfl ?_
      refine aw_iload_n cx 9 dX0_begin_8 rfl rfl ?_
      refine aw_icmp_ge cx 12 47 dX0_begin_9 rfl (by decide) ⟨⟨by omega, by omega⟩, ⟨by omega, by omega⟩⟩ (fun c9 => ?_) (fun c9 => ?_)
      · refine aw_aload_n cx 48 dX0_begin_47 rfl rfl ?_
        have hA : ag m Ca gB := fun x y x0 x1 y0 y1 => hz x y x0 x1 y0 y1 (by omega)
        refine aw_V0n cx 51 mX0_measure (ci := 0) dX0_begin_48 rfl okmX0_measure lkX0_38 (by first | assumption | exact hc_0 | exact hc_1 | exact hc_2 | exact hc_3 | exact hc_4 | exact zz_gs _ _ _) ⟨rfl, by decide⟩ (zz_rc0 mX0_begin hRm hNS rfl rfl) (Nat.le_of_ble_eq_true rfl) ?_
        refine s_X0_measure hm hA (gB_r m) (fun F48 Nu48 Co48 r48 f48 m48 => ⟨rfl, ?_⟩)
        refine aw_return cx dX0_begin_51 ?_
        refine hRet _ _ rfl rfl ?_
        exact k _ _ _ _ _ _ m48
      · refine aw_iconst cx 13 dX0_begin_12 rfl ?_
        refine aw_istore_n cx 14 3 dX0_begin_13 rfl rfl ⟨Nat.le_of_ble_eq_true rfl, Nat.le_of_ble_eq_true rfl⟩ rfl ?_
        dsimp only [List.set]
        have lp14 : ∀ (kf : Nat) (b : Int) (Cb : Int → Int), (m - b < (kf : Int)) → (0 ≤ b ∧ b ≤ m) → (∀ x y, 0 ≤ x → x < m → 0 ≤ y → y < m → lx x y a b → Cb (8 * x + y) = gB x y) → AW X 14 [some (vR o), some (vI m), some (vI a), some (vI b)] [] (hcol h o Cb F Nu Co m r f) := by
          intro kf
          induction kf with
          | zero =>
            intro b Cb hk hb hy
            exfalso
            omega
          | succ kf ih14 =>
            intro b Cb hk hb hy
            refine aw_iload_n cx 15 dX0_begin_14 rfl rfl ?_
            refine aw_iload_n cx 16 dX0_begin_15 rfl rfl ?_
            refine aw_icmp_ge cx 19 41 dX0_begin_16 rfl (by decide) ⟨⟨by omega, by omega⟩, ⟨by omega, by omega⟩⟩ (fun c16 => ?_) (fun c16 => ?_)
            · refine aw_iinc cx 44 dX0_begin_41 rfl rfl (Nat.le_of_ble_eq_true rfl) rfl ?_
              dsimp only [List.set]
              refine aw_goto cx 7 dX0_begin_44 (by decide) ?_
              exact aw_weak (ih7 (a + 1) _ (by omega) ⟨by omega, by omega⟩ (fun x y x0 x1 y0 y1 hl => hy x y x0 x1 y0 y1 (by omega))) (by simp [zz_le])
            · refine aw_aload_n cx 20 dX0_begin_19 rfl rfl ?_
              refine aw_iload_n cx 21 dX0_begin_20 rfl rfl ?_
              refine aw_iload_n cx 22 dX0_begin_21 rfl rfl ?_
              refine aw_iload_n cx 23 dX0_begin_22 rfl rfl ?_
              refine aw_iload_n cx 24 dX0_begin_23 rfl rfl ?_
              refine aw_icmp_ne cx 27 31 dX0_begin_24 rfl (by decide) ⟨⟨by omega, by omega⟩, ⟨by omega, by omega⟩⟩ (fun c24 => ?_) (fun c24 => ?_)
              · refine aw_iconst cx 32 dX0_begin_31 rfl ?_
                refine aw_V3n cx 35 mX0_paint (ci := 0) dX0_begin_32 rfl okmX0_paint lkX0_34 (by first | assumption | exact hc_0 | exact hc_1 | exact hc_2 | exact hc_3 | exact hc_4 | exact zz_gs _ _ _) ⟨rfl, by decide⟩ (zz_rc0 mX0_begin hRm hNS rfl rfl) (Nat.le_of_ble_eq_true rfl) ?_
                refine s_X0_paint (by first | assumption | exact hc_0 | exact hc_1 | exact hc_2 | exact hc_3 | exact hc_4 | exact (hc_x (by omega)).trans (by first | assumption | exact hc_0 | exact hc_1 | exact hc_2 | exact hc_3 | exact hc_4)) (by first | assumption | exact hc_0 | exact hc_1 | exact hc_2 | exact hc_3 | exact hc_4 | exact (hc_x (by omega)).trans (by first | assumption | exact hc_0 | exact hc_1 | exact hc_2 | exact hc_3 | exact hc_4)) ⟨by omega, by omega⟩ ⟨by omega, by omega⟩ ⟨rfl, ?_⟩
                rw [hp_1]
                refine aw_iinc cx 38 dX0_begin_35 rfl rfl (Nat.le_of_ble_eq_true rfl) rfl ?_
                dsimp only [List.set]
                refine aw_goto cx 14 dX0_begin_38 (by decide) ?_
                exact aw_weak (ih14 (b + 1) _ (by omega) ⟨by omega, by omega⟩ (fun x y x0 x1 y0 y1 hl => by
                  rw [up_at ⟨by omega, by omega⟩ ⟨by omega, by omega⟩]
                  by_cases e : x = a ∧ y = b
                  · rw [if_pos e, e.1, e.2]
                    unfold gB
                    first
                    | rw [if_pos (by omega)]
                    | rw [if_neg (by omega)]
                  · rw [if_neg e]
                    exact hy x y x0 x1 y0 y1 (by omega))) (by simp [zz_le])
              · refine aw_iconst cx 28 dX0_begin_27 rfl ?_
                refine aw_goto cx 32 dX0_begin_28 (by decide) ?_
                refine aw_V3n cx 35 mX0_paint (ci := 0) dX0_begin_32 rfl okmX0_paint lkX0_34 (by first | assumption | exact hc_0 | exact hc_1 | exact hc_2 | exact hc_3 | exact hc_4 | exact zz_gs _ _ _) ⟨rfl, by decide⟩ (zz_rc0 mX0_begin hRm hNS rfl rfl) (Nat.le_of_ble_eq_true rfl) ?_
                refine s_X0_paint (by first | assumption | exact hc_0 | exact hc_1 | exact hc_2 | exact hc_3 | exact hc_4 | exact (hc_x (by omega)).trans (by first | assumption | exact hc_0 | exact hc_1 | exact hc_2 | exact hc_3 | exact hc_4)) (by first | assumption | exact hc_0 | exact hc_1 | exact hc_2 | exact hc_3 | exact hc_4 | exact (hc_x (by omega)).trans (by first | assumption | exact hc_0 | exact hc_1 | exact hc_2 | exact hc_3 | exact hc_4)) ⟨by omega, by omega⟩ ⟨by omega, by omega⟩ ⟨rfl, ?_⟩
                rw [hp_1]
                refine aw_iinc cx 38 dX0_begin_35 rfl rfl (Nat.le_of_ble_eq_true rfl) rfl ?_
                dsimp only [List.set]
                refine aw_goto cx 14 dX0_begin_38 (by decide) ?_
                exact aw_weak (ih14 (b + 1) _ (by omega) ⟨by omega, by omega⟩ (fun x y x0 x1 y0 y1 hl => by
                  rw [up_at ⟨by omega, by omega⟩ ⟨by omega, by omega⟩]
                  by_cases e : x = a ∧ y = b
                  · rw [if_pos e, e.1, e.2]
                    unfold gB
                    first
                    | rw [if_pos (by omega)]
                    | rw [if_neg (by omega)]
                  · rw [if_neg e]
                    exact hy x y x0 x1 y0 y1 (by omega))) (by simp [zz_le])
        exact aw_weak (lp14 (m.toNat + 1) 0 Ca (by omega) ⟨by omega, by omega⟩ (fun x y x0 x1 y0 y1 hl => hz x y x0 x1 y0 y1 (by omega))) (by simp [zz_le])
  exact aw_weak (lp7 (m.toNat + 1) 0 C (by omega) ⟨by omega, by omega⟩ (fun x y x0 x1 y0 y1 hl => by omega)) (by simp [zz_le])
set_option maxRecDepth 100000 in
set_option maxHeartbeats 4000000 in
theorem s_X0_fusedColour {h : AH} {Q : Option AV → AH → Prop} {mp c : Int} (hm : 0 ≤ mp ∧ mp < 2147483648) (hc : 0 ≤ c ∧ c ≤ 4) (k : ∀ v, v = fz mp c → Q (some (vI v)) h) : MC mX0_fusedColour [vI mp, vI c] h Q := by
  refine mc_start mX0_fusedColour RX0 "fusedColour" ⟨rfl, rfl, by decide +kernel⟩ [some (vI mp), some (vI c), none, none] ⟨2, rfl⟩ rfl (fun X cx hRm hNS hRet => ?_)
  refine aw_iload_n cx 1 dX0_fusedColour_0 rfl rfl ?_
  refine aw_if_ne cx 4 6 dX0_fusedColour_1 rfl (by decide) ⟨by omega, by omega⟩ (fun c1 => ?_) (fun c1 => ?_)
  · refine aw_iload_n cx 7 dX0_fusedColour_6 rfl rfl ?_
    refine aw_istore_n cx 8 2 dX0_fusedColour_7 rfl rfl ⟨Nat.le_of_ble_eq_true rfl, Nat.le_of_ble_eq_true rfl⟩ rfl ?_
    dsimp only [List.set]
    refine aw_iconst cx 9 dX0_fusedColour_8 rfl ?_
    refine aw_istore_n cx 10 3 dX0_fusedColour_9 rfl rfl ⟨Nat.le_of_ble_eq_true rfl, Nat.le_of_ble_eq_true rfl⟩ rfl ?_
    dsimp only [List.set]
    have lp10 : ∀ (kf : Nat) (l e : Int), (c - l < (kf : Int)) → (1 ≤ l ∧ l ≤ c) → e = dv mp l → AW X 10 [some (vI mp), some (vI c), some (vI e), some (vI l)] [] (h) := by
      intro kf
      induction kf with
      | zero =>
        intro l e hk hl he
        exfalso
        omega
      | succ kf ih10 =>
        intro l e hk hl he
        have hd := dv_b (mp := mp) (l := l) hm.1
        refine aw_iload_n cx 11 dX0_fusedColour_10 rfl rfl ?_
        refine aw_iload_n cx 12 dX0_fusedColour_11 rfl rfl ?_
        refine aw_icmp_ge cx 15 25 dX0_fusedColour_12 rfl (by decide) ⟨⟨by omega, by omega⟩, ⟨by omega, by omega⟩⟩ (fun c12 => ?_) (fun c12 => ?_)
        · refine aw_iload_n cx 26 dX0_fusedColour_25 rfl rfl ?_
          refine aw_iconst cx 27 dX0_fusedColour_26 rfl ?_
          refine aw_iremN cx 28 dX0_fusedColour_27 rfl ⟨by omega, by omega, by omega, by omega⟩ ?_
          refine aw_ireturn cx dX0_fusedColour_28 ?_
          refine hRet _ _ True.intro rfl ?_
          exact k _ (by unfold fz; rw [if_neg (by omega), he, show l = c by omega])
        · refine aw_iload_n cx 16 dX0_fusedColour_15 rfl rfl ?_
          refine aw_iconst cx 17 dX0_fusedColour_16 rfl ?_
          refine aw_idivN cx 18 dX0_fusedColour_17 rfl ⟨by omega, by omega, by omega, by omega⟩ ?_
          refine aw_istore_n cx 19 2 dX0_fusedColour_18 rfl rfl ⟨Nat.le_of_ble_eq_true rfl, Nat.le_of_ble_eq_true rfl⟩ rfl ?_
          dsimp only [List.set]
          refine aw_iinc cx 22 dX0_fusedColour_19 rfl rfl (Nat.le_of_ble_eq_true rfl) rfl ?_
          dsimp only [List.set]
          refine aw_goto cx 10 dX0_fusedColour_22 (by decide) ?_
          exact ih10 (l + 1) _ (by omega) ⟨by omega, by omega⟩ (by rw [dv_s hm.1 ⟨by omega, by omega⟩, he])
    exact lp10 5 1 mp (by omega) ⟨by omega, by omega⟩ rfl
  · refine aw_iconst cx 5 dX0_fusedColour_4 rfl ?_
    refine aw_ireturn cx dX0_fusedColour_5 ?_
    refine hRet _ _ True.intro rfl ?_
    exact k _ (by unfold fz; rw [if_pos (by omega)])
set_option maxRecDepth 100000 in
set_option maxHeartbeats 4000000 in
theorem s_X0_paintFused {h : AH} {Q : Option AV → AH → Prop} {o q : Nat} {C F Nu Co C2 F2 Nu2 Co2 : Int → Int} {n r f n2 r2 f2 mp : Int} {g : Gr} (hq : q + 4 < o ∨ o + 4 < q) (hn : 1 ≤ n ∧ n ≤ 8) (hA : ag n C g) (hg : rgn n g) (hm : 0 ≤ mp ∧ mp < 2147483648) (k : ∀ C' F' Nu' Co' r' f', msd n (gF mp g) C' F' Nu' r' f' → Q none (hcol (hcol h q C F Nu Co n r f) o C' F' Nu' Co' n r' f')) : MC mX0_paintFused [vR o, vR q, vI mp] (hcol (hcol h q C F Nu Co n r f) o C2 F2 Nu2 Co2 n2 r2 f2) Q := by
  refine mc_start mX0_paintFused RX0 "paintFused" ⟨rfl, rfl, by decide +kernel⟩ [some (vR o), some (vR q), some (vI mp), none, none] ⟨2, rfl⟩ rfl (fun X cx hRm hNS hRet => ?_)
  refine aw_aload_n cx 1 dX0_paintFused_0 rfl rfl ?_
  refine aw_aload_n cx 2 dX0_paintFused_1 rfl rfl ?_
  refine aw_getfield cx 5 dX0_paintFused_2 rfl fdX0_24 (by first | assumption | exact hc_0 | exact hc_1 | exact hc_2 | exact hc_3 | exact hc_4 | exact (hc_x (by omega)).trans (by first | assumption | exact hc_0 | exact hc_1 | exact hc_2 | exact hc_3 | exact hc_4)) (by rfl) ?_
  refine aw_putfield cx 8 dX0_paintFused_5 rfl fdX0_24 (by first | assumption | exact hc_0 | exact hc_1 | exact hc_2 | exact hc_3 | exact hc_4 | exact (hc_x (by omega)).trans (by first | assumption | exact hc_0 | exact hc_1 | exact hc_2 | exact hc_3 | exact hc_4)) (by exact Nat.le_of_ble_eq_true rfl) rfl ?_
  dsimp only [List.set]
  first | rw [hp_1] | rw [hp_2] | rw [hp_3] | rw [hp_4] | rw [hp_0]
  refine aw_iconst cx 9 dX0_paintFused_8 rfl ?_
  refine aw_istore_n cx 10 3 dX0_paintFused_9 rfl rfl ⟨Nat.le_of_ble_eq_true rfl, Nat.le_of_ble_eq_true rfl⟩ rfl ?_
  dsimp only [List.set]
  have lp10 : ∀ (kf : Nat) (a : Int) (Ca : Int → Int), (n - a < (kf : Int)) → (0 ≤ a ∧ a ≤ n) → (∀ x y, 0 ≤ x → x < n → 0 ≤ y → y < n → x < a → Ca (8 * x + y) = gF mp g x y) → AW X 10 [some (vR o), some (vR q), some (vI mp), some (vI a), none] [] (hcol (hcol h q C F Nu Co n r f) o Ca F2 Nu2 Co2 n r2 f2) := by
    intro kf
    induction kf with
    | zero =>
      intro a Ca hk ha hz
      exfalso
      omega
    | succ kf ih10 =>
      intro a Ca hk ha hz
      refine aw_iload_n cx 11 dX0_paintFused_10 rfl rfl ?_
      refine aw_aload_n cx 12 dX0_paintFused_11 rfl rfl ?_
      refine aw_getfield cx 15 dX0_paintFused_12 rfl fdX0_24 (by first | assumption | exact hc_0 | exact hc_1 | exact hc_2 | exact hc_3 | exact hc_4 | exact (hc_x (by omega)).trans (by first | assumption | exact hc_0 | exact hc_1 | exact hc_2 | exact hc_3 | exact hc_4)) (by rfl) ?_
      refine aw_icmp_ge cx 18 60 dX0_paintFused_15 rfl (by decide) ⟨⟨by omega, by omega⟩, ⟨by omega, by omega⟩⟩ (fun c15 => ?_) (fun c15 => ?_)
      · refine aw_aload_n cx 61 dX0_paintFused_60 rfl rfl ?_
        have hA2 : ag n Ca (gF mp g) := fun x y x0 x1 y0 y1 => hz x y x0 x1 y0 y1 (by omega)
        refine aw_V0n cx 64 mX0_measure (ci := 0) dX0_paintFused_61 rfl okmX0_measure lkX0_38 (by first | assumption | exact hc_0 | exact hc_1 | exact hc_2 | exact hc_3 | exact hc_4 | exact (hc_x (by omega)).trans (by first | assumption | exact hc_0 | exact hc_1 | exact hc_2 | exact hc_3 | exact hc_4)) ⟨rfl, by decide⟩ (zz_rc0 mX0_paintFused hRm hNS rfl rfl) (Nat.le_of_ble_eq_true rfl) ?_
        refine s_X0_measure hn hA2 (gF_r hm.1) (fun F61 Nu61 Co61 r61 f61 m61 => ⟨rfl, ?_⟩)
        refine aw_return cx dX0_paintFused_64 ?_
        refine hRet _ _ rfl rfl ?_
        exact k _ _ _ _ _ _ m61
      · refine aw_iconst cx 19 dX0_paintFused_18 rfl ?_
        refine aw_istore cx 21 dX0_paintFused_19 rfl ⟨Nat.le_of_ble_eq_true rfl, Nat.le_of_ble_eq_true rfl⟩ rfl ?_
        dsimp only [List.set]
        have lp21 : ∀ (kf : Nat) (b : Int) (Cb : Int → Int), (n - b < (kf : Int)) → (0 ≤ b ∧ b ≤ n) → (∀ x y, 0 ≤ x → x < n → 0 ≤ y → y < n → lx x y a b → Cb (8 * x + y) = gF mp g x y) → AW X 21 [some (vR o), some (vR q), some (vI mp), some (vI a), some (vI b)] [] (hcol (hcol h q C F Nu Co n r f) o Cb F2 Nu2 Co2 n r2 f2) := by
          intro kf
          induction kf with
          | zero =>
            intro b Cb hk hb hy
            exfalso
            omega
          | succ kf ih21 =>
            intro b Cb hk hb hy
            refine aw_iload cx 23 dX0_paintFused_21 rfl rfl ?_
            refine aw_aload_n cx 24 dX0_paintFused_23 rfl rfl ?_
            refine aw_getfield cx 27 dX0_paintFused_24 rfl fdX0_24 (by first | assumption | exact hc_0 | exact hc_1 | exact hc_2 | exact hc_3 | exact hc_4 | exact (hc_x (by omega)).trans (by first | assumption | exact hc_0 | exact hc_1 | exact hc_2 | exact hc_3 | exact hc_4)) (by rfl) ?_
            refine aw_icmp_ge cx 30 54 dX0_paintFused_27 rfl (by decide) ⟨⟨by omega, by omega⟩, ⟨by omega, by omega⟩⟩ (fun c27 => ?_) (fun c27 => ?_)
            · refine aw_iinc cx 57 dX0_paintFused_54 rfl rfl (Nat.le_of_ble_eq_true rfl) rfl ?_
              dsimp only [List.set]
              refine aw_goto cx 10 dX0_paintFused_57 (by decide) ?_
              exact aw_weak (ih10 (a + 1) _ (by omega) ⟨by omega, by omega⟩ (fun x y x0 x1 y0 y1 hl => hy x y x0 x1 y0 y1 (by omega))) (by simp [zz_le])
            · refine aw_aload_n cx 31 dX0_paintFused_30 rfl rfl ?_
              refine aw_iload_n cx 32 dX0_paintFused_31 rfl rfl ?_
              refine aw_iload cx 34 dX0_paintFused_32 rfl rfl ?_
              refine aw_iload_n cx 35 dX0_paintFused_34 rfl rfl ?_
              refine aw_aload_n cx 36 dX0_paintFused_35 rfl rfl ?_
              refine aw_iload_n cx 37 dX0_paintFused_36 rfl rfl ?_
              refine aw_iload cx 39 dX0_paintFused_37 rfl rfl ?_
              refine aw_V2v cx 42 mX0_colourOf (ci := 0) dX0_paintFused_39 rfl okmX0_colourOf lkX0_41 (by first | assumption | exact hc_0 | exact hc_1 | exact hc_2 | exact hc_3 | exact hc_4 | exact (hc_x (by omega)).trans (by first | assumption | exact hc_0 | exact hc_1 | exact hc_2 | exact hc_3 | exact hc_4)) ⟨rfl, by decide⟩ (zz_rc0 mX0_paintFused hRm hNS rfl rfl) (Nat.le_of_ble_eq_true rfl) ?_
              refine s_X0_colourOf (by first | assumption | exact hc_0 | exact hc_1 | exact hc_2 | exact hc_3 | exact hc_4 | exact (hc_x (by omega)).trans (by first | assumption | exact hc_0 | exact hc_1 | exact hc_2 | exact hc_3 | exact hc_4)) (by first | assumption | exact hc_0 | exact hc_1 | exact hc_2 | exact hc_3 | exact hc_4 | exact (hc_x (by omega)).trans (by first | assumption | exact hc_0 | exact hc_1 | exact hc_2 | exact hc_3 | exact hc_4)) ⟨by omega, by omega⟩ ⟨by omega, by omega⟩ (fun v39 e39 => ⟨_, rfl, ?_⟩)
              rw [hA a b (by omega) (by omega) (by omega) (by omega)] at e39
              have w39 := hg a b (by omega) (by omega) (by omega) (by omega)
              refine aw_S2v cx 45 mX0_fusedColour dX0_paintFused_42 rfl okmX0_fusedColour lkX0_45 (zz_rc0 mX0_paintFused hRm hNS rfl rfl) (Nat.le_of_ble_eq_true rfl) ?_
              refine s_X0_fusedColour ⟨by omega, by omega⟩ ⟨by omega, by omega⟩ (fun v42 e42 => ⟨_, rfl, ?_⟩)
              refine aw_V3n cx 48 mX0_paint (ci := 0) dX0_paintFused_45 rfl okmX0_paint lkX0_34 (by first | assumption | exact hc_0 | exact hc_1 | exact hc_2 | exact hc_3 | exact hc_4 | exact (hc_x (by omega)).trans (by first | assumption | exact hc_0 | exact hc_1 | exact hc_2 | exact hc_3 | exact hc_4)) ⟨rfl, by decide⟩ (zz_rc0 mX0_paintFused hRm hNS rfl rfl) (Nat.le_of_ble_eq_true rfl) ?_
              refine s_X0_paint (by first | assumption | exact hc_0 | exact hc_1 | exact hc_2 | exact hc_3 | exact hc_4 | exact (hc_x (by omega)).trans (by first | assumption | exact hc_0 | exact hc_1 | exact hc_2 | exact hc_3 | exact hc_4)) (by first | assumption | exact hc_0 | exact hc_1 | exact hc_2 | exact hc_3 | exact hc_4 | exact (hc_x (by omega)).trans (by first | assumption | exact hc_0 | exact hc_1 | exact hc_2 | exact hc_3 | exact hc_4)) ⟨by omega, by omega⟩ ⟨by omega, by omega⟩ ⟨rfl, ?_⟩
              rw [hp_1]
              refine aw_iinc cx 51 dX0_paintFused_48 rfl rfl (Nat.le_of_ble_eq_true rfl) rfl ?_
              dsimp only [List.set]
              refine aw_goto cx 21 dX0_paintFused_51 (by decide) ?_
              exact aw_weak (ih21 (b + 1) _ (by omega) ⟨by omega, by omega⟩ (fun x y x0 x1 y0 y1 hl => by
                rw [up_at ⟨by omega, by omega⟩ ⟨by omega, by omega⟩]
                by_cases e : x = a ∧ y = b
                · rw [if_pos e, e.1, e.2]
                  unfold gF
                  rw [e42, e39]
                · rw [if_neg e]
                  exact hy x y x0 x1 y0 y1 (by omega))) (by simp [zz_le])
        exact aw_weak (lp21 (n.toNat + 1) 0 Ca (by omega) ⟨by omega, by omega⟩ (fun x y x0 x1 y0 y1 hl => hz x y x0 x1 y0 y1 (by omega))) (by simp [zz_le])
  exact aw_weak (lp10 (n.toNat + 1) 0 C2 (by omega) ⟨by omega, by omega⟩ (fun x y x0 x1 y0 y1 hl => by omega)) (by simp [zz_le])
set_option maxRecDepth 100000 in
set_option maxHeartbeats 4000000 in
theorem s_X0_paintRing {h : AH} {Q : Option AV → AH → Prop} {o : Nat} {C F Nu Co : Int → Int} {n r f d : Int} (hn : 1 ≤ n ∧ n ≤ 8) (hd : 0 ≤ d ∧ d < 2147483648) (k : ∀ C' F' Nu' Co' r' f', msd n (gR n d) C' F' Nu' r' f' → Q none (hcol h o C' F' Nu' Co' n r' f')) : MC mX0_paintRing [vR o, vI d] (hcol h o C F Nu Co n r f) Q := by
  refine mc_start mX0_paintRing RX0 "paintRing" ⟨rfl, rfl, by decide +kernel⟩ [some (vR o), some (vI d), none, none, none, none, none] ⟨5, rfl⟩ rfl (fun X cx hRm hNS hRet => ?_)
  refine aw_iload_n cx 1 dX0_paintRing_0 rfl rfl ?_
  refine aw_istore_n cx 2 2 dX0_paintRing_1 rfl rfl ⟨Nat.le_of_ble_eq_true rfl, Nat.le_of_ble_eq_true rfl⟩ rfl ?_
  dsimp only [List.set]
  refine aw_iconst cx 3 dX0_paintRing_2 rfl ?_
  refine aw_istore_n cx 4 3 dX0_paintRing_3 rfl rfl ⟨Nat.le_of_ble_eq_true rfl, Nat.le_of_ble_eq_true rfl⟩ rfl ?_
  dsimp only [List.set]
  have lp4 : ∀ (kf : Nat) (a : Int) (Ca : Int → Int), (n - a < (kf : Int)) → (0 ≤ a ∧ a ≤ n) → (∀ x y, 0 ≤ x → x < n → 0 ≤ y → y < n → x = y ∧ x < a → Ca (8 * x + y) = gR n d x y) → AW X 4 [some (vR o), some (vI d), some (vI d), some (vI a), none, none, none] [] (hcol h o Ca F Nu Co n r f) := by
    intro kf
    induction kf with
    | zero =>
      intro a Ca hk ha hz
      exfalso
      omega
    | succ kf ih4 =>
      intro a Ca hk ha hz
      refine aw_iload_n cx 5 dX0_paintRing_4 rfl rfl ?_
      refine aw_aload_n cx 6 dX0_paintRing_5 rfl rfl ?_
      refine aw_getfield cx 9 dX0_paintRing_6 rfl fdX0_24 (by first | assumption | exact hc_0 | exact hc_1 | exact hc_2 | exact hc_3 | exact hc_4 | exact zz_gs _ _ _) (by rfl) ?_
      refine aw_icmp_ge cx 12 25 dX0_paintRing_9 rfl (by decide) ⟨⟨by omega, by omega⟩, ⟨by omega, by omega⟩⟩ (fun c9 => ?_) (fun c9 => ?_)
      · refine aw_iconst cx 26 dX0_paintRing_25 rfl ?_
        refine aw_istore_n cx 27 3 dX0_paintRing_26 rfl rfl ⟨Nat.le_of_ble_eq_true rfl, Nat.le_of_ble_eq_true rfl⟩ rfl ?_
        dsimp only [List.set]
        have lp27 : ∀ (kf : Nat) (s e : Int) (Cs : Int → Int), (n - s < (kf : Int)) → (1 ≤ s ∧ s ≤ n) → e = dq d (s - 1) → (∀ x y, 0 ≤ x → x < n → 0 ≤ y → y < n → x = y ∨ kR n x y < s → Cs (8 * x + y) = gR n d x y) → AW X 27 [some (vR o), some (vI d), some (vI e), some (vI s), none, none, none] [] (hcol h o Cs F Nu Co n r f) := by
          intro kf
          induction kf with
          | zero =>
            intro s e Cs hk hs he hy
            exfalso
            omega
          | succ kf ih27 =>
            intro s e Cs hk hs he hy
            have hdb := dq_b (d := d) (s := s - 1) hd.1 (by omega)
            refine aw_iload_n cx 28 dX0_paintRing_27 rfl rfl ?_
            refine aw_aload_n cx 29 dX0_paintRing_28 rfl rfl ?_
            refine aw_getfield cx 32 dX0_paintRing_29 rfl fdX0_24 (by first | assumption | exact hc_0 | exact hc_1 | exact hc_2 | exact hc_3 | exact hc_4 | exact zz_gs _ _ _) (by rfl) ?_
            refine aw_icmp_ge cx 35 103 dX0_paintRing_32 rfl (by decide) ⟨⟨by omega, by omega⟩, ⟨by omega, by omega⟩⟩ (fun c32 => ?_) (fun c32 => ?_)
            · refine aw_aload_n cx 104 dX0_paintRing_103 rfl rfl ?_
              have hA : ag n Cs (gR n d) := fun x y x0 x1 y0 y1 => hy x y x0 x1 y0 y1 (by
                refine Or.inr ?_
                unfold kR
                split <;> omega)
              refine aw_V0n cx 107 mX0_measure (ci := 0) dX0_paintRing_104 rfl okmX0_measure lkX0_38 (by first | assumption | exact hc_0 | exact hc_1 | exact hc_2 | exact hc_3 | exact hc_4 | exact zz_gs _ _ _) ⟨rfl, by decide⟩ (zz_rc0 mX0_paintRing hRm hNS rfl rfl) (Nat.le_of_ble_eq_true rfl) ?_
              refine s_X0_measure hn hA gR_r (fun F104 Nu104 Co104 r104 f104 m104 => ⟨rfl, ?_⟩)
              refine aw_return cx dX0_paintRing_107 ?_
              refine hRet _ _ rfl rfl ?_
              exact k _ _ _ _ _ _ m104
            · refine aw_iload_n cx 36 dX0_paintRing_35 rfl rfl ?_
              refine aw_iconst cx 37 dX0_paintRing_36 rfl ?_
              refine aw_iremN cx 38 dX0_paintRing_37 rfl ⟨by omega, by omega, by omega, by omega⟩ ?_
              refine aw_istore cx 40 dX0_paintRing_38 rfl ⟨Nat.le_of_ble_eq_true rfl, Nat.le_of_ble_eq_true rfl⟩ rfl ?_
              dsimp only [List.set]
              refine aw_iload_n cx 41 dX0_paintRing_40 rfl rfl ?_
              refine aw_iconst cx 42 dX0_paintRing_41 rfl ?_
              refine aw_idivN cx 43 dX0_paintRing_42 rfl ⟨by omega, by omega, by omega, by omega⟩ ?_
              refine aw_istore_n cx 44 2 dX0_paintRing_43 rfl rfl ⟨Nat.le_of_ble_eq_true rfl, Nat.le_of_ble_eq_true rfl⟩ rfl ?_
              dsimp only [List.set]
              refine aw_iconst cx 45 dX0_paintRing_44 rfl ?_
              refine aw_istore cx 47 dX0_paintRing_45 rfl ⟨Nat.le_of_ble_eq_true rfl, Nat.le_of_ble_eq_true rfl⟩ rfl ?_
              dsimp only [List.set]
              have lp47 : ∀ (kf : Nat) (a1 : Int) (Cx : Int → Int), (n - a1 < (kf : Int)) → (0 ≤ a1 ∧ a1 ≤ n) → (∀ x y, 0 ≤ x → x < n → 0 ≤ y → y < n → x = y ∨ kR n x y < s ∨ (kR n x y = s ∧ x < a1) → Cx (8 * x + y) = gR n d x y) → AW X 47 [some (vR o), some (vI d), some (vI (e / 5)), some (vI s), some (vI (e % 5)), some (vI a1), none] [] (hcol h o Cx F Nu Co n r f) := by
                intro kf
                induction kf with
                | zero =>
                  intro a1 Cx hk ha1 hx
                  exfalso
                  omega
                | succ kf ih47 =>
                  intro a1 Cx hk ha1 hx
                  refine aw_iload cx 49 dX0_paintRing_47 rfl rfl ?_
                  refine aw_aload_n cx 50 dX0_paintRing_49 rfl rfl ?_
                  refine aw_getfield cx 53 dX0_paintRing_50 rfl fdX0_24 (by first | assumption | exact hc_0 | exact hc_1 | exact hc_2 | exact hc_3 | exact hc_4 | exact zz_gs _ _ _) (by rfl) ?_
                  refine aw_icmp_ge cx 56 97 dX0_paintRing_53 rfl (by decide) ⟨⟨by omega, by omega⟩, ⟨by omega, by omega⟩⟩ (fun c53 => ?_) (fun c53 => ?_)
                  · refine aw_iinc cx 100 dX0_paintRing_97 rfl rfl (Nat.le_of_ble_eq_true rfl) rfl ?_
                    dsimp only [List.set]
                    refine aw_goto cx 27 dX0_paintRing_100 (by decide) ?_
                    exact aw_weak (ih27 (s + 1) (e / 5) _ (by omega) ⟨by omega, by omega⟩ (by rw [he, ← dq_s (by omega), show s - 1 + 1 = s + 1 - 1 by omega]) (fun x y x0 x1 y0 y1 hl => hx x y x0 x1 y0 y1 (by omega))) (by simp [zz_le])
                  · refine aw_iload cx 58 dX0_paintRing_56 rfl rfl ?_
                    refine aw_iload_n cx 59 dX0_paintRing_58 rfl rfl ?_
                    refine aw_iadd cx 60 dX0_paintRing_59 rfl ?_
                    refine aw_istore cx 62 dX0_paintRing_60 rfl ⟨Nat.le_of_ble_eq_true rfl, Nat.le_of_ble_eq_true rfl⟩ rfl ?_
                    dsimp only [List.set]
                    refine aw_aload_n cx 63 dX0_paintRing_62 rfl rfl ?_
                    refine aw_iload cx 65 dX0_paintRing_63 rfl rfl ?_
                    refine aw_iload cx 67 dX0_paintRing_65 rfl rfl ?_
                    refine aw_aload_n cx 68 dX0_paintRing_67 rfl rfl ?_
                    refine aw_getfield cx 71 dX0_paintRing_68 rfl fdX0_24 (by first | assumption | exact hc_0 | exact hc_1 | exact hc_2 | exact hc_3 | exact hc_4 | exact zz_gs _ _ _) (by rfl) ?_
                    refine aw_icmp_ge cx 74 79 dX0_paintRing_71 rfl (by decide) ⟨⟨by omega, by omega⟩, ⟨by omega, by omega⟩⟩ (fun c71 => ?_) (fun c71 => ?_)
                    · refine aw_iload cx 81 dX0_paintRing_79 rfl rfl ?_
                      refine aw_aload_n cx 82 dX0_paintRing_81 rfl rfl ?_
                      refine aw_getfield cx 85 dX0_paintRing_82 rfl fdX0_24 (by first | assumption | exact hc_0 | exact hc_1 | exact hc_2 | exact hc_3 | exact hc_4 | exact zz_gs _ _ _) (by rfl) ?_
                      refine aw_isub cx 86 dX0_paintRing_85 rfl ?_
                      refine aw_iload cx 88 dX0_paintRing_86 rfl rfl ?_
                      refine aw_V3n cx 91 mX0_paint (ci := 0) dX0_paintRing_88 rfl okmX0_paint lkX0_34 (by first | assumption | exact hc_0 | exact hc_1 | exact hc_2 | exact hc_3 | exact hc_4 | exact zz_gs _ _ _) ⟨rfl, by decide⟩ (zz_rc0 mX0_paintRing hRm hNS rfl rfl) (Nat.le_of_ble_eq_true rfl) ?_
                      refine s_X0_paint (by first | assumption | exact hc_0 | exact hc_1 | exact hc_2 | exact hc_3 | exact hc_4 | exact (hc_x (by omega)).trans (by first | assumption | exact hc_0 | exact hc_1 | exact hc_2 | exact hc_3 | exact hc_4)) (by first | assumption | exact hc_0 | exact hc_1 | exact hc_2 | exact hc_3 | exact hc_4 | exact (hc_x (by omega)).trans (by first | assumption | exact hc_0 | exact hc_1 | exact hc_2 | exact hc_3 | exact hc_4)) ⟨by omega, by omega⟩ ⟨by omega, by omega⟩ ⟨rfl, ?_⟩
                      rw [hp_1]
                      refine aw_iinc cx 94 dX0_paintRing_91 rfl rfl (Nat.le_of_ble_eq_true rfl) rfl ?_
                      dsimp only [List.set]
                      refine aw_goto cx 47 dX0_paintRing_94 (by decide) ?_
                      exact aw_weak (ih47 (a1 + 1) _ (by omega) ⟨by omega, by omega⟩ (fun x y x0 x1 y0 y1 hl => by
                        rw [up_at ⟨by omega, by omega⟩ ⟨by omega, by omega⟩]
                        split
                        · rename_i e9
                          unfold gR
                          have e10 : kR n x y = s := by
                            unfold kR
                            split <;> omega
                          rw [if_neg (by omega), e10, he]
                        · rename_i e9
                          refine hx x y x0 x1 y0 y1 ?_
                          unfold kR at hl ⊢
                          split at hl <;> omega)) (by simp [zz_le])
                    · refine aw_iload cx 76 dX0_paintRing_74 rfl rfl ?_
                      refine aw_goto cx 86 dX0_paintRing_76 (by decide) ?_
                      refine aw_iload cx 88 dX0_paintRing_86 rfl rfl ?_
                      refine aw_V3n cx 91 mX0_paint (ci := 0) dX0_paintRing_88 rfl okmX0_paint lkX0_34 (by first | assumption | exact hc_0 | exact hc_1 | exact hc_2 | exact hc_3 | exact hc_4 | exact zz_gs _ _ _) ⟨rfl, by decide⟩ (zz_rc0 mX0_paintRing hRm hNS rfl rfl) (Nat.le_of_ble_eq_true rfl) ?_
                      refine s_X0_paint (by first | assumption | exact hc_0 | exact hc_1 | exact hc_2 | exact hc_3 | exact hc_4 | exact (hc_x (by omega)).trans (by first | assumption | exact hc_0 | exact hc_1 | exact hc_2 | exact hc_3 | exact hc_4)) (by first | assumption | exact hc_0 | exact hc_1 | exact hc_2 | exact hc_3 | exact hc_4 | exact (hc_x (by omega)).trans (by first | assumption | exact hc_0 | exact hc_1 | exact hc_2 | exact hc_3 | exact hc_4)) ⟨by omega, by omega⟩ ⟨by omega, by omega⟩ ⟨rfl, ?_⟩
                      rw [hp_1]
                      refine aw_iinc cx 94 dX0_paintRing_91 rfl rfl (Nat.le_of_ble_eq_true rfl) rfl ?_
                      dsimp only [List.set]
                      refine aw_goto cx 47 dX0_paintRing_94 (by decide) ?_
                      exact aw_weak (ih47 (a1 + 1) _ (by omega) ⟨by omega, by omega⟩ (fun x y x0 x1 y0 y1 hl => by
                        rw [up_at ⟨by omega, by omega⟩ ⟨by omega, by omega⟩]
                        split
                        · rename_i e9
                          unfold gR
                          have e10 : kR n x y = s := by
                            unfold kR
                            split <;> omega
                          rw [if_neg (by omega), e10, he]
                        · rename_i e9
                          refine hx x y x0 x1 y0 y1 ?_
                          unfold kR at hl ⊢
                          split at hl <;> omega)) (by simp [zz_le])
              exact aw_weak (lp47 (n.toNat + 1) 0 Cs (by omega) ⟨by omega, by omega⟩ (fun x y x0 x1 y0 y1 hl => hy x y x0 x1 y0 y1 (by omega))) (by simp [zz_le])
        exact aw_weak (lp27 (n.toNat + 1) 1 d Ca (by omega) ⟨by omega, by omega⟩ rfl (fun x y x0 x1 y0 y1 hl => hz x y x0 x1 y0 y1 (by
          refine ⟨?_, by omega⟩
          rcases hl with hl | hl
          · exact hl
          · unfold kR at hl
            split at hl <;> omega))) (by simp [zz_le])
      · refine aw_aload_n cx 13 dX0_paintRing_12 rfl rfl ?_
        refine aw_iload_n cx 14 dX0_paintRing_13 rfl rfl ?_
        refine aw_iload_n cx 15 dX0_paintRing_14 rfl rfl ?_
        refine aw_iconst cx 16 dX0_paintRing_15 rfl ?_
        refine aw_V3n cx 19 mX0_paint (ci := 0) dX0_paintRing_16 rfl okmX0_paint lkX0_34 (by first | assumption | exact hc_0 | exact hc_1 | exact hc_2 | exact hc_3 | exact hc_4 | exact zz_gs _ _ _) ⟨rfl, by decide⟩ (zz_rc0 mX0_paintRing hRm hNS rfl rfl) (Nat.le_of_ble_eq_true rfl) ?_
        refine s_X0_paint (by first | assumption | exact hc_0 | exact hc_1 | exact hc_2 | exact hc_3 | exact hc_4 | exact (hc_x (by omega)).trans (by first | assumption | exact hc_0 | exact hc_1 | exact hc_2 | exact hc_3 | exact hc_4)) (by first | assumption | exact hc_0 | exact hc_1 | exact hc_2 | exact hc_3 | exact hc_4 | exact (hc_x (by omega)).trans (by first | assumption | exact hc_0 | exact hc_1 | exact hc_2 | exact hc_3 | exact hc_4)) ⟨by omega, by omega⟩ ⟨by omega, by omega⟩ ⟨rfl, ?_⟩
        rw [hp_1]
        refine aw_iinc cx 22 dX0_paintRing_19 rfl rfl (Nat.le_of_ble_eq_true rfl) rfl ?_
        dsimp only [List.set]
        refine aw_goto cx 4 dX0_paintRing_22 (by decide) ?_
        exact ih4 (a + 1) _ (by omega) ⟨by omega, by omega⟩ (fun x y x0 x1 y0 y1 hl => by
          rw [up_at ⟨by omega, by omega⟩ ⟨by omega, by omega⟩]
          by_cases e : x = a ∧ y = a
          · rw [if_pos e]
            unfold gR
            rw [if_pos hl.1]
          · rw [if_neg e]
            exact hz x y x0 x1 y0 y1 (by omega))
  exact lp4 (n.toNat + 1) 0 C (by omega) ⟨by omega, by omega⟩ (fun x y x0 x1 y0 y1 hl => by omega)
