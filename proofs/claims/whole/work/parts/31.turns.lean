abbrev l3 (x y z i j k : Int) : Prop := x < i ∨ (x = i ∧ (y < j ∨ (y = j ∧ z < k)))
def TI (n : Int) (g : Gr) (w i j k : Int) : Prop := (w = 1 ∧ ∀ x y z, 0 ≤ x → x < rk n g → 0 ≤ y → y < rk n g → 0 ≤ z → z < rk n g → l3 x y z i j k → nu n g x y z = nu n g y x z) ∨ (w = 0 ∧ ∃ x y z, (0 ≤ x ∧ x < rk n g) ∧ (0 ≤ y ∧ y < rk n g) ∧ (0 ≤ z ∧ z < rk n g) ∧ nu n g x y z ≠ nu n g y x z)
theorem TI_0 {n : Int} {g : Gr} : TI n g 1 0 0 0 := Or.inl ⟨rfl, fun x y z x0 x1 y0 y1 z0 z1 l => by exfalso; omega⟩
theorem TI_w {n : Int} {g : Gr} {w i j k : Int} (h : TI n g w i j k) : w = 0 ∨ w = 1 := by rcases h with ⟨h, _⟩ | ⟨h, _⟩ <;> omega
theorem TI_r {n : Int} {g : Gr} {w i j k i' j' k' : Int} (h : TI n g w i j k) (e : ∀ x y z, 0 ≤ x → x < rk n g → 0 ≤ y → y < rk n g → 0 ≤ z → z < rk n g → l3 x y z i' j' k' → l3 x y z i j k) : TI n g w i' j' k' := by
  rcases h with ⟨h, q⟩ | h
  · exact Or.inl ⟨h, fun x y z x0 x1 y0 y1 z0 z1 l => q x y z x0 x1 y0 y1 z0 z1 (e x y z x0 x1 y0 y1 z0 z1 l)⟩
  · exact Or.inr h
theorem TI_1 {n : Int} {g : Gr} {w i j k : Int} (h : TI n g w i j k) (e : nu n g i j k = nu n g j i k) : TI n g (zz_and w 1) i j (k + 1) := by
  rw [(and_01 (TI_w h)).1]
  rcases h with ⟨h, q⟩ | h
  · refine Or.inl ⟨h, fun x y z x0 x1 y0 y1 z0 z1 l => ?_⟩
    by_cases f : x = i ∧ y = j ∧ z = k
    · rw [f.1, f.2.1, f.2.2]
      exact e
    · exact q x y z x0 x1 y0 y1 z0 z1 (by omega)
  · exact Or.inr h
theorem TI_n {n : Int} {g : Gr} {w i j k : Int} (h : TI n g w i j k) (hi : 0 ≤ i ∧ i < rk n g) (hj : 0 ≤ j ∧ j < rk n g) (hk : 0 ≤ k ∧ k < rk n g) (e : nu n g i j k ≠ nu n g j i k) : TI n g (zz_and w 0) i j (k + 1) := by
  rw [(and_01 (TI_w h)).2]
  exact Or.inr ⟨rfl, i, j, k, hi, hj, hk, e⟩
theorem TI_e {n : Int} {g : Gr} {w : Int} (hR : 1 ≤ rk n g ∧ rk n g ≤ 5) (h : TI n g w (rk n g) 0 0) : w = tu n g := by
  rcases h with ⟨h, q⟩ | ⟨h, x, y, z, hx, hy, hz, e⟩
  · rw [h, tu_1 hR.2 (fun i j k i0 i1 j0 j1 k0 k1 => q i j k i0 i1 j0 j1 k0 k1 (Or.inl i1))]
  · rw [h, tu_0 hR.2 hx hy hz e]
set_option maxRecDepth 100000 in
set_option maxHeartbeats 4000000 in
theorem s_X5_turns {h : AH} {Q : Option AV → AH → Prop} {n tr : Int} {g : Gr} {V : Int → Int} (hX : MI h n g V tr)  (k : ∀ v h', v = f_turns n g → MP h h' (n) (g) (V) (tr) → Q (some (vI v)) h') : MC mX5_turns [vR 20] h Q := by
  obtain ⟨C, K, A, B, L, D, T, U, ⟨m0, m1, m2, m3, m4, m5, m6, m7, m8, m9⟩, hn, hA, hg, hV⟩ := hX
  rw [mm_in m0 m1 m2 m3 m4 m5 m6 m7 m8 m9]
  have hR := rk_b (n := n) (g := g) (by omega) hg
  refine mc_start mX5_turns RX5 "turns" ⟨rfl, rfl, by decide +kernel⟩ [some (vR 20), none, none, none, none, none] ⟨5, rfl⟩ rfl (fun X cx hRm hNS hRet => ?_)
  refine aw_aload_n cx 1 dX5_turns_0 rfl rfl ?_
  refine aw_iconst cx 2 dX5_turns_1 rfl ?_
  refine aw_putfield cx 5 dX5_turns_2 rfl fdX5_42 (by first | exact mm_0 | exact mm_1 | exact mm_2 | exact mm_3 | exact mm_4 | exact mm_5 | exact mm_6 | exact mm_7 | exact mm_8 | exact mm_9) (by exact Nat.le_of_ble_eq_true rfl) rfl ?_
  dsimp only [List.set]
  first | rw [my_0] | rw [my_1] | rw [my_2] | rw [my_3] | rw [my_4] | rw [my_5] | rw [my_6] | rw [my_7] | rw [my_8] | rw [my_9]
  refine aw_aload_n cx 6 dX5_turns_5 rfl rfl ?_
  refine aw_V0v cx 9 mX5_isEven (ci := 4) dX5_turns_6 rfl okmX5_isEven lkX5_75 (by first | exact mm_0 | exact mm_1 | exact mm_2 | exact mm_3 | exact mm_4 | exact mm_5 | exact mm_6 | exact mm_7 | exact mm_8 | exact mm_9) ⟨rfl, by decide⟩ (zz_rc0 mX5_turns hRm hNS rfl rfl) (Nat.le_of_ble_eq_true rfl) ?_
  refine s_X5_isEven hn hA hg (fun v6 A6 B6 e6 P6 => ⟨_, rfl, ?_⟩)
  refine aw_if_ne cx 12 15 dX5_turns_9 rfl (by decide) ⟨by omega, by omega⟩ (fun c9 => ?_) (fun c9 => ?_)
  · have hz : fl n g = 0 := by omega
    have hP := P6 hz
    have hO : ∀ c, 0 ≤ c → c < 5 → c < rk n g → fp n g c ≠ -1 := fun c c0 c1 c2 => (fl_z (by omega) hz).2.1 c c0 c1 c2
    refine aw_aload_n cx 16 dX5_turns_15 rfl rfl ?_
    refine aw_V0v cx 19 mX5_rank (ci := 4) dX5_turns_16 rfl okmX5_rank lkX5_61 (by first | exact mm_0 | exact mm_1 | exact mm_2 | exact mm_3 | exact mm_4 | exact mm_5 | exact mm_6 | exact mm_7 | exact mm_8 | exact mm_9) ⟨rfl, by decide⟩ (zz_rc0 mX5_turns hRm hNS rfl rfl) (Nat.le_of_ble_eq_true rfl) ?_
    refine s_X5_rank hn hA hg (fun v16 e16 => ⟨_, rfl, ?_⟩)
    subst e16
    refine aw_istore_n cx 20 1 dX5_turns_19 rfl rfl ⟨Nat.le_of_ble_eq_true rfl, Nat.le_of_ble_eq_true rfl⟩ rfl ?_
    dsimp only [List.set]
    refine aw_iconst cx 21 dX5_turns_20 rfl ?_
    refine aw_istore_n cx 22 2 dX5_turns_21 rfl rfl ⟨Nat.le_of_ble_eq_true rfl, Nat.le_of_ble_eq_true rfl⟩ rfl ?_
    dsimp only [List.set]
    refine aw_iconst cx 23 dX5_turns_22 rfl ?_
    refine aw_istore_n cx 24 3 dX5_turns_23 rfl rfl ⟨Nat.le_of_ble_eq_true rfl, Nat.le_of_ble_eq_true rfl⟩ rfl ?_
    dsimp only [List.set]
    have lp24 : ∀ (kf : Nat) (i w : Int), (rk n g - i < (kf : Int)) → (0 ≤ i ∧ i ≤ rk n g) → TI n g w i 0 0 → AW X 24 [some (vR 20), some (vI (rk n g)), some (vI (w)), some (vI (i)), none, none] [] (hmd h n tr C K V A6 B6 L D T U) := by
      intro kf
      induction kf with
      | zero =>
        intro i w hk hi hw
        exfalso
        omega
      | succ kf ih24 =>
        intro i w hk hi hw
        refine aw_iload_n cx 25 dX5_turns_24 rfl rfl ?_
        refine aw_iload_n cx 26 dX5_turns_25 rfl rfl ?_
        refine aw_icmp_ge cx 29 94 dX5_turns_26 rfl (by decide) ⟨⟨by omega, by omega⟩, ⟨by omega, by omega⟩⟩ (fun c26 => ?_) (fun c26 => ?_)
        · rw [show i = rk n g by omega] at hw
          have hw3 := TI_w hw
          have hw4 := TI_e hR hw
          refine aw_iload_n cx 95 dX5_turns_94 rfl rfl ?_
          refine aw_if_eq cx 98 102 dX5_turns_95 rfl (by decide) ⟨by omega, by omega⟩ (fun c95 => ?_) (fun c95 => ?_)
          · refine aw_iconst cx 103 dX5_turns_102 rfl ?_
            refine aw_ireturn cx dX5_turns_103 ?_
            refine hRet _ _ True.intro rfl ?_
            exact k _ _ (by unfold f_turns; rw [if_pos hz, ← hw4]; omega) (mp_mk hn hA hg hV)
          · refine aw_iconst cx 99 dX5_turns_98 rfl ?_
            refine aw_goto cx 103 dX5_turns_99 (by decide) ?_
            refine aw_ireturn cx dX5_turns_103 ?_
            refine hRet _ _ True.intro rfl ?_
            exact k _ _ (by unfold f_turns; rw [if_pos hz, ← hw4]; omega) (mp_mk hn hA hg hV)
        · refine aw_iconst cx 30 dX5_turns_29 rfl ?_
          refine aw_istore cx 32 dX5_turns_30 rfl ⟨Nat.le_of_ble_eq_true rfl, Nat.le_of_ble_eq_true rfl⟩ rfl ?_
          dsimp only [List.set]
          have lp32 : ∀ (kf : Nat) (j w1 : Int), (rk n g - j < (kf : Int)) → (0 ≤ j ∧ j ≤ rk n g) → TI n g w1 i j 0 → AW X 32 [some (vR 20), some (vI (rk n g)), some (vI (w1)), some (vI (i)), some (vI (j)), none] [] (hmd h n tr C K V A6 B6 L D T U) := by
            intro kf
            induction kf with
            | zero =>
              intro j w1 hk hj hw1
              exfalso
              omega
            | succ kf ih32 =>
              intro j w1 hk hj hw1
              refine aw_iload cx 34 dX5_turns_32 rfl rfl ?_
              refine aw_iload_n cx 35 dX5_turns_34 rfl rfl ?_
              refine aw_icmp_ge cx 38 88 dX5_turns_35 rfl (by decide) ⟨⟨by omega, by omega⟩, ⟨by omega, by omega⟩⟩ (fun c35 => ?_) (fun c35 => ?_)
              · refine aw_iinc cx 91 dX5_turns_88 rfl rfl (Nat.le_of_ble_eq_true rfl) rfl ?_
                dsimp only [List.set]
                refine aw_goto cx 24 dX5_turns_91 (by decide) ?_
                exact aw_weak (ih24 (i + 1) w1 (by omega) ⟨by omega, by omega⟩ (TI_r hw1 (fun x y z x0 x1 y0 y1 z0 z1 l => by omega))) (by simp [zz_le])
              · refine aw_iconst cx 39 dX5_turns_38 rfl ?_
                refine aw_istore cx 41 dX5_turns_39 rfl ⟨Nat.le_of_ble_eq_true rfl, Nat.le_of_ble_eq_true rfl⟩ rfl ?_
                dsimp only [List.set]
                have lp41 : ∀ (kf : Nat) (k1 w2 : Int), (rk n g - k1 < (kf : Int)) → (0 ≤ k1 ∧ k1 ≤ rk n g) → TI n g w2 i j k1 → AW X 41 [some (vR 20), some (vI (rk n g)), some (vI (w2)), some (vI (i)), some (vI (j)), some (vI (k1))] [] (hmd h n tr C K V A6 B6 L D T U) := by
                  intro kf
                  induction kf with
                  | zero =>
                    intro k1 w2 hk hk1 hw2
                    exfalso
                    omega
                  | succ kf ih41 =>
                    intro k1 w2 hk hk1 hw2
                    refine aw_iload cx 43 dX5_turns_41 rfl rfl ?_
                    refine aw_iload_n cx 44 dX5_turns_43 rfl rfl ?_
                    refine aw_icmp_ge cx 47 82 dX5_turns_44 rfl (by decide) ⟨⟨by omega, by omega⟩, ⟨by omega, by omega⟩⟩ (fun c44 => ?_) (fun c44 => ?_)
                    · refine aw_iinc cx 85 dX5_turns_82 rfl rfl (Nat.le_of_ble_eq_true rfl) rfl ?_
                      dsimp only [List.set]
                      refine aw_goto cx 32 dX5_turns_85 (by decide) ?_
                      exact aw_weak (ih32 (j + 1) w2 (by omega) ⟨by omega, by omega⟩ (TI_r hw2 (fun x y z x0 x1 y0 y1 z0 z1 l => by omega))) (by simp [zz_le])
                    · refine aw_iload_n cx 48 dX5_turns_47 rfl rfl ?_
                      refine aw_aload_n cx 49 dX5_turns_48 rfl rfl ?_
                      refine aw_iload_n cx 50 dX5_turns_49 rfl rfl ?_
                      refine aw_iload cx 52 dX5_turns_50 rfl rfl ?_
                      refine aw_iload cx 54 dX5_turns_52 rfl rfl ?_
                      refine aw_V3v cx 57 mX5_numberOf (ci := 4) dX5_turns_54 rfl okmX5_numberOf lkX5_78 (by first | exact mm_0 | exact mm_1 | exact mm_2 | exact mm_3 | exact mm_4 | exact mm_5 | exact mm_6 | exact mm_7 | exact mm_8 | exact mm_9) ⟨rfl, by decide⟩ (zz_rc0 mX5_turns hRm hNS rfl rfl) (Nat.le_of_ble_eq_true rfl) ?_
                      refine s_X5_numberOf hn hA hg hP ⟨by omega, by omega⟩ ⟨by omega, by omega⟩ ⟨by omega, by omega⟩ (hO _ (by omega) (by omega) (by omega)) (fun v54 e54 => ⟨_, rfl, ?_⟩)
                      have b54 := nu_b (n := n) (g := g) (by omega)
                      have n54 := b54 i j k1
                      refine aw_aload_n cx 58 dX5_turns_57 rfl rfl ?_
                      refine aw_iload cx 60 dX5_turns_58 rfl rfl ?_
                      refine aw_iload_n cx 61 dX5_turns_60 rfl rfl ?_
                      refine aw_iload cx 63 dX5_turns_61 rfl rfl ?_
                      refine aw_V3v cx 66 mX5_numberOf (ci := 4) dX5_turns_63 rfl okmX5_numberOf lkX5_78 (by first | exact mm_0 | exact mm_1 | exact mm_2 | exact mm_3 | exact mm_4 | exact mm_5 | exact mm_6 | exact mm_7 | exact mm_8 | exact mm_9) ⟨rfl, by decide⟩ (zz_rc0 mX5_turns hRm hNS rfl rfl) (Nat.le_of_ble_eq_true rfl) ?_
                      refine s_X5_numberOf hn hA hg hP ⟨by omega, by omega⟩ ⟨by omega, by omega⟩ ⟨by omega, by omega⟩ (hO _ (by omega) (by omega) (by omega)) (fun v63 e63 => ⟨_, rfl, ?_⟩)
                      have b63 := nu_b (n := n) (g := g) (by omega)
                      have n63 := b63 j i k1
                      refine aw_icmp_ne cx 69 73 dX5_turns_66 rfl (by decide) ⟨⟨by omega, by omega⟩, ⟨by omega, by omega⟩⟩ (fun c66 => ?_) (fun c66 => ?_)
                      · refine aw_iconst cx 74 dX5_turns_73 rfl ?_
                        refine aw_iand cx 75 dX5_turns_74 rfl ?_
                        refine aw_istore_n cx 76 2 dX5_turns_75 rfl rfl ⟨Nat.le_of_ble_eq_true rfl, Nat.le_of_ble_eq_true rfl⟩ rfl ?_
                        dsimp only [List.set]
                        refine aw_iinc cx 79 dX5_turns_76 rfl rfl (Nat.le_of_ble_eq_true rfl) rfl ?_
                        dsimp only [List.set]
                        refine aw_goto cx 41 dX5_turns_79 (by decide) ?_
                        first
                        | exact ih41 (k1 + 1) (zz_and w2 1) (by omega) ⟨by omega, by omega⟩ (TI_1 hw2 (by omega))
                        | exact ih41 (k1 + 1) (zz_and w2 0) (by omega) ⟨by omega, by omega⟩ (TI_n hw2 ⟨by omega, by omega⟩ ⟨by omega, by omega⟩ ⟨by omega, by omega⟩ (by omega))
                      · refine aw_iconst cx 70 dX5_turns_69 rfl ?_
                        refine aw_goto cx 74 dX5_turns_70 (by decide) ?_
                        refine aw_iand cx 75 dX5_turns_74 rfl ?_
                        refine aw_istore_n cx 76 2 dX5_turns_75 rfl rfl ⟨Nat.le_of_ble_eq_true rfl, Nat.le_of_ble_eq_true rfl⟩ rfl ?_
                        dsimp only [List.set]
                        refine aw_iinc cx 79 dX5_turns_76 rfl rfl (Nat.le_of_ble_eq_true rfl) rfl ?_
                        dsimp only [List.set]
                        refine aw_goto cx 41 dX5_turns_79 (by decide) ?_
                        first
                        | exact ih41 (k1 + 1) (zz_and w2 1) (by omega) ⟨by omega, by omega⟩ (TI_1 hw2 (by omega))
                        | exact ih41 (k1 + 1) (zz_and w2 0) (by omega) ⟨by omega, by omega⟩ (TI_n hw2 ⟨by omega, by omega⟩ ⟨by omega, by omega⟩ ⟨by omega, by omega⟩ (by omega))
                exact lp41 6 0 w1 (by omega) ⟨by omega, by omega⟩ hw1
          exact lp32 6 0 w (by omega) ⟨by omega, by omega⟩ hw
    exact aw_weak (lp24 6 0 1 (by omega) ⟨by omega, by omega⟩ TI_0) (by simp [zz_le])
  · refine aw_bipush cx 14 dX5_turns_12 rfl (by decide +kernel) ?_
    refine aw_ireturn cx dX5_turns_14 ?_
    refine hRet _ _ True.intro rfl ?_
    exact k _ _ (by unfold f_turns; rw [if_neg (by omega)]) (mp_mk hn hA hg hV)
set_option maxRecDepth 100000 in
set_option maxHeartbeats 4000000 in
theorem s_X5_closed {h : AH} {Q : Option AV → AH → Prop} {n tr : Int} {g : Gr} {V : Int → Int} (hX : MI h n g V tr) {a b : Int} (ha : R32 a) (hb : R32 b) (k : ∀ v h', v = f_closed n g a b → MP h h' (n) (g) (V) (tr) → Q (some (vI v)) h') : MC mX5_closed [vR 20, vI a, vI b] h Q := by
  obtain ⟨C, K, A, B, L, D, T, U, ⟨m0, m1, m2, m3, m4, m5, m6, m7, m8, m9⟩, hn, hA, hg, hV⟩ := hX
  rw [mm_in m0 m1 m2 m3 m4 m5 m6 m7 m8 m9]
  have hR := rk_b (n := n) (g := g) (by omega) hg
  refine mc_start mX5_closed RX5 "closed" ⟨rfl, rfl, by decide +kernel⟩ [some (vR 20), some (vI a), some (vI b), none, none] ⟨2, rfl⟩ rfl (fun X cx hRm hNS hRet => ?_)
  have hs := shl_r (R := rk n g) ⟨by omega, by omega⟩
  refine aw_aload_n cx 1 dX5_closed_0 rfl rfl ?_
  refine aw_iconst cx 2 dX5_closed_1 rfl ?_
  refine aw_putfield cx 5 dX5_closed_2 rfl fdX5_42 (by first | exact mm_0 | exact mm_1 | exact mm_2 | exact mm_3 | exact mm_4 | exact mm_5 | exact mm_6 | exact mm_7 | exact mm_8 | exact mm_9) (by exact Nat.le_of_ble_eq_true rfl) rfl ?_
  dsimp only [List.set]
  first | rw [my_0] | rw [my_1] | rw [my_2] | rw [my_3] | rw [my_4] | rw [my_5] | rw [my_6] | rw [my_7] | rw [my_8] | rw [my_9]
  refine aw_iload_n cx 6 dX5_closed_5 rfl rfl ?_
  refine aw_iconst cx 7 dX5_closed_6 rfl ?_
  refine aw_iconst cx 8 dX5_closed_7 rfl ?_
  refine aw_S3v cx 11 mX5_in dX5_closed_8 rfl okmX5_in lkX5_45 (zz_rc0 mX5_closed hRm hNS rfl rfl) (Nat.le_of_ble_eq_true rfl) ?_
  refine s_X5_in (by first | assumption | exact ⟨by omega, by omega⟩) (by first | assumption | exact ⟨by omega, by omega⟩) (by first | assumption | exact ⟨by omega, by omega⟩) (fun v8 e8 => ⟨_, rfl, ?_⟩)
  have z8 : v8 = 0 ∨ v8 = 1 := by omega
  have y8 : v8 = 1 ∨ v8 = 0 := by omega
  refine aw_if_eq cx 14 27 dX5_closed_11 rfl (by decide) ⟨by omega, by omega⟩ (fun c11 => ?_) (fun c11 => ?_)
  · refine aw_iconst cx 28 dX5_closed_27 rfl ?_
    refine aw_ireturn cx dX5_closed_28 ?_
    refine hRet _ _ True.intro rfl ?_
    exact k _ _ (by unfold f_closed; rw [if_neg (by omega)]) (mp_mk hn hA hg hV)
  · refine aw_iload_n cx 15 dX5_closed_14 rfl rfl ?_
    refine aw_iconst cx 16 dX5_closed_15 rfl ?_
    refine aw_icmp_ge cx 19 29 dX5_closed_16 rfl (by decide) ⟨⟨by omega, by omega⟩, ⟨by omega, by omega⟩⟩ (fun c16 => ?_) (fun c16 => ?_)
    · refine aw_aload_n cx 30 dX5_closed_29 rfl rfl ?_
      refine aw_V0v cx 33 mX5_isEven (ci := 4) dX5_closed_30 rfl okmX5_isEven lkX5_75 (by first | exact mm_0 | exact mm_1 | exact mm_2 | exact mm_3 | exact mm_4 | exact mm_5 | exact mm_6 | exact mm_7 | exact mm_8 | exact mm_9) ⟨rfl, by decide⟩ (zz_rc0 mX5_closed hRm hNS rfl rfl) (Nat.le_of_ble_eq_true rfl) ?_
      refine s_X5_isEven hn hA hg (fun v30 A30 B30 e30 P30 => ⟨_, rfl, ?_⟩)
      refine aw_if_ne cx 36 39 dX5_closed_33 rfl (by decide) ⟨by omega, by omega⟩ (fun c33 => ?_) (fun c33 => ?_)
      · have hz : fl n g = 0 := by omega
        have hP := P30 hz
        have hO : ∀ c, 0 ≤ c → c < 5 → c < rk n g → fp n g c ≠ -1 := fun c c0 c1 c2 => (fl_z (by omega) hz).2.1 c c0 c1 c2
        refine aw_iload_n cx 40 dX5_closed_39 rfl rfl ?_
        refine aw_if_ne cx 43 58 dX5_closed_40 rfl (by decide) ⟨by omega, by omega⟩ (fun c40 => ?_) (fun c40 => ?_)
        · refine aw_iload_n cx 59 dX5_closed_58 rfl rfl ?_
          refine aw_iconst cx 60 dX5_closed_59 rfl ?_
          refine aw_icmp_ne cx 63 69 dX5_closed_60 rfl (by decide) ⟨⟨by omega, by omega⟩, ⟨by omega, by omega⟩⟩ (fun c60 => ?_) (fun c60 => ?_)
          · refine aw_iconst cx 70 dX5_closed_69 rfl ?_
            refine aw_istore_n cx 71 3 dX5_closed_70 rfl rfl ⟨Nat.le_of_ble_eq_true rfl, Nat.le_of_ble_eq_true rfl⟩ rfl ?_
            dsimp only [List.set]
            refine aw_iconst cx 72 dX5_closed_71 rfl ?_
            refine aw_istore cx 74 dX5_closed_72 rfl ⟨Nat.le_of_ble_eq_true rfl, Nat.le_of_ble_eq_true rfl⟩ rfl ?_
            dsimp only [List.set]
            have lp74 : ∀ (kf : Nat) (x s : Int), (33 - x < (kf : Int)) → (0 ≤ x ∧ x ≤ zz_shl 1 (rk n g)) → s = cs n g x → AW X 74 [some (vR 20), some (vI (a)), some (vI (b)), some (vI (s)), some (vI (x))] [] (hmd h n tr C K V A30 B30 L D T U) := by
              intro kf
              induction kf with
              | zero =>
                intro x s hk hx hxs
                exfalso
                omega
              | succ kf ih74 =>
                intro x s hk hx hxs
                refine aw_iload cx 76 dX5_closed_74 rfl rfl ?_
                refine aw_iconst cx 77 dX5_closed_76 rfl ?_
                refine aw_aload_n cx 78 dX5_closed_77 rfl rfl ?_
                refine aw_V0v cx 81 mX5_rank (ci := 4) dX5_closed_78 rfl okmX5_rank lkX5_61 (by first | exact mm_0 | exact mm_1 | exact mm_2 | exact mm_3 | exact mm_4 | exact mm_5 | exact mm_6 | exact mm_7 | exact mm_8 | exact mm_9) ⟨rfl, by decide⟩ (zz_rc0 mX5_closed hRm hNS rfl rfl) (Nat.le_of_ble_eq_true rfl) ?_
                refine s_X5_rank hn hA hg (fun v78 e78 => ⟨_, rfl, ?_⟩)
                subst e78
                refine aw_ishl cx 82 dX5_closed_81 rfl ?_
                refine aw_icmp_ge cx 85 110 dX5_closed_82 rfl (by decide) ⟨⟨by omega, by omega⟩, ⟨by omega, by omega⟩⟩ (fun c82 => ?_) (fun c82 => ?_)
                · refine aw_iload_n cx 111 dX5_closed_110 rfl rfl ?_
                  refine aw_ireturn cx dX5_closed_111 ?_
                  refine hRet _ _ True.intro rfl ?_
                  exact k _ _ (by unfold f_closed; rw [if_pos (by omega), if_pos (by omega), if_neg (by omega), if_neg (by omega), hxs, show x = zz_shl 1 (rk n g) by omega]) (mp_mk hn hA hg hV)
                · have hlt := shl_lt (v := x) (R := rk n g) ⟨by omega, by omega⟩ (by omega) (by omega)
                  have lt1 := hlt.1
                  have lt2 : blw n g x := hlt.2
                  refine aw_iload_n cx 86 dX5_closed_85 rfl rfl ?_
                  refine aw_aload_n cx 87 dX5_closed_86 rfl rfl ?_
                  refine aw_iload cx 89 dX5_closed_87 rfl rfl ?_
                  refine aw_V1v cx 92 mX5_hull (ci := 4) dX5_closed_89 rfl okmX5_hull lkX5_92 (by first | exact mm_0 | exact mm_1 | exact mm_2 | exact mm_3 | exact mm_4 | exact mm_5 | exact mm_6 | exact mm_7 | exact mm_8 | exact mm_9) ⟨rfl, by decide⟩ (zz_rc0 mX5_closed hRm hNS rfl rfl) (Nat.le_of_ble_eq_true rfl) ?_
                  refine s_X5_hull hn hA hg hP hO (by assumption) (by assumption) (fun v89 e89 => ⟨_, rfl, ?_⟩)
                  have hc := hl_cl hR lt1 lt2
                  have hh := (hl_p hR lt1 lt2).1
                  rw [← e89] at hc hh
                  refine aw_iload cx 94 dX5_closed_92 rfl rfl ?_
                  refine aw_icmp_ne cx 97 101 dX5_closed_94 rfl (by decide) ⟨⟨by omega, by omega⟩, ⟨by omega, by omega⟩⟩ (fun c94 => ?_) (fun c94 => ?_)
                  · refine aw_iconst cx 102 dX5_closed_101 rfl ?_
                    refine aw_iadd cx 103 dX5_closed_102 rfl ?_
                    refine aw_istore_n cx 104 3 dX5_closed_103 rfl rfl ⟨Nat.le_of_ble_eq_true rfl, Nat.le_of_ble_eq_true rfl⟩ rfl ?_
                    dsimp only [List.set]
                    refine aw_iinc cx 107 dX5_closed_104 rfl rfl (Nat.le_of_ble_eq_true rfl) rfl ?_
                    dsimp only [List.set]
                    refine aw_goto cx 74 dX5_closed_107 (by decide) ?_
                    exact ih74 (x + 1) _ (by omega) ⟨by omega, by omega⟩ (by rw [cs_s hx.1]; first | (rw [if_pos (hc.mp (by omega))]; omega) | (rw [if_neg (fun q => by have := hc.mpr q; omega)]; omega))
                  · refine aw_iconst cx 98 dX5_closed_97 rfl ?_
                    refine aw_goto cx 102 dX5_closed_98 (by decide) ?_
                    refine aw_iadd cx 103 dX5_closed_102 rfl ?_
                    refine aw_istore_n cx 104 3 dX5_closed_103 rfl rfl ⟨Nat.le_of_ble_eq_true rfl, Nat.le_of_ble_eq_true rfl⟩ rfl ?_
                    dsimp only [List.set]
                    refine aw_iinc cx 107 dX5_closed_104 rfl rfl (Nat.le_of_ble_eq_true rfl) rfl ?_
                    dsimp only [List.set]
                    refine aw_goto cx 74 dX5_closed_107 (by decide) ?_
                    exact ih74 (x + 1) _ (by omega) ⟨by omega, by omega⟩ (by rw [cs_s hx.1]; first | (rw [if_pos (hc.mp (by omega))]; omega) | (rw [if_neg (fun q => by have := hc.mpr q; omega)]; omega))
            exact lp74 34 0 0 (by omega) ⟨by omega, by omega⟩ rfl
          · have hlt := shl_lt (v := a) (R := rk n g) ⟨by omega, by omega⟩ (by omega) (by omega)
            have lt1 := hlt.1
            have lt2 : blw n g a := hlt.2
            refine aw_aload_n cx 64 dX5_closed_63 rfl rfl ?_
            refine aw_iload_n cx 65 dX5_closed_64 rfl rfl ?_
            refine aw_V1v cx 68 mX5_hull (ci := 4) dX5_closed_65 rfl okmX5_hull lkX5_92 (by first | exact mm_0 | exact mm_1 | exact mm_2 | exact mm_3 | exact mm_4 | exact mm_5 | exact mm_6 | exact mm_7 | exact mm_8 | exact mm_9) ⟨rfl, by decide⟩ (zz_rc0 mX5_closed hRm hNS rfl rfl) (Nat.le_of_ble_eq_true rfl) ?_
            refine s_X5_hull hn hA hg hP hO (by assumption) (by assumption) (fun v65 e65 => ⟨_, rfl, ?_⟩)
            refine aw_ireturn cx dX5_closed_68 ?_
            refine hRet _ _ True.intro rfl ?_
            exact k _ _ (by unfold f_closed; rw [if_pos (by omega), if_pos (by omega), if_neg (by omega), if_pos (by omega)]; exact e65) (mp_mk hn hA hg hV)
        · have hlt := shl_lt (v := a) (R := rk n g) ⟨by omega, by omega⟩ (by omega) (by omega)
          have lt1 := hlt.1
          have lt2 : blw n g a := hlt.2
          refine aw_aload_n cx 44 dX5_closed_43 rfl rfl ?_
          refine aw_iload_n cx 45 dX5_closed_44 rfl rfl ?_
          refine aw_V1v cx 48 mX5_hull (ci := 4) dX5_closed_45 rfl okmX5_hull lkX5_92 (by first | exact mm_0 | exact mm_1 | exact mm_2 | exact mm_3 | exact mm_4 | exact mm_5 | exact mm_6 | exact mm_7 | exact mm_8 | exact mm_9) ⟨rfl, by decide⟩ (zz_rc0 mX5_closed hRm hNS rfl rfl) (Nat.le_of_ble_eq_true rfl) ?_
          refine s_X5_hull hn hA hg hP hO (by assumption) (by assumption) (fun v45 e45 => ⟨_, rfl, ?_⟩)
          have hc := hl_cl hR lt1 lt2
          have hh := (hl_p hR lt1 lt2).1
          rw [← e45] at hc hh
          refine aw_iload_n cx 49 dX5_closed_48 rfl rfl ?_
          refine aw_icmp_ne cx 52 56 dX5_closed_49 rfl (by decide) ⟨⟨by omega, by omega⟩, ⟨by omega, by omega⟩⟩ (fun c49 => ?_) (fun c49 => ?_)
          · refine aw_iconst cx 57 dX5_closed_56 rfl ?_
            refine aw_ireturn cx dX5_closed_57 ?_
            refine hRet _ _ True.intro rfl ?_
            refine k _ _ ?_ (mp_mk hn hA hg hV)
            unfold f_closed
            rw [if_pos (by omega), if_pos (by omega), if_pos (by omega)]
            first | (rw [if_pos (hc.mp (by omega))]; done) | (rw [if_neg (fun q => by have := hc.mpr q; omega)]; done)
          · refine aw_iconst cx 53 dX5_closed_52 rfl ?_
            refine aw_goto cx 57 dX5_closed_53 (by decide) ?_
            refine aw_ireturn cx dX5_closed_57 ?_
            refine hRet _ _ True.intro rfl ?_
            refine k _ _ ?_ (mp_mk hn hA hg hV)
            unfold f_closed
            rw [if_pos (by omega), if_pos (by omega), if_pos (by omega)]
            first | (rw [if_pos (hc.mp (by omega))]; done) | (rw [if_neg (fun q => by have := hc.mpr q; omega)]; done)
      · refine aw_bipush cx 38 dX5_closed_36 rfl (by decide +kernel) ?_
        refine aw_ireturn cx dX5_closed_38 ?_
        refine hRet _ _ True.intro rfl ?_
        exact k _ _ (by unfold f_closed; rw [if_pos (by omega), if_neg (by omega)]) (mp_mk hn hA hg hV)
    · refine aw_aload_n cx 20 dX5_closed_19 rfl rfl ?_
      refine aw_iload_n cx 21 dX5_closed_20 rfl rfl ?_
      refine aw_V1v cx 24 mX5_isSet (ci := 4) dX5_closed_21 rfl okmX5_isSet lkX5_89 (by first | exact mm_0 | exact mm_1 | exact mm_2 | exact mm_3 | exact mm_4 | exact mm_5 | exact mm_6 | exact mm_7 | exact mm_8 | exact mm_9) ⟨rfl, by decide⟩ (zz_rc0 mX5_closed hRm hNS rfl rfl) (Nat.le_of_ble_eq_true rfl) ?_
      refine s_X5_isSet hn hA hg (by assumption) (fun v21 e21 => ⟨_, rfl, ?_⟩)
      refine aw_if_ne cx 27 29 dX5_closed_24 rfl (by decide) ⟨by omega, by omega⟩ (fun c24 => ?_) (fun c24 => ?_)
      · refine aw_aload_n cx 30 dX5_closed_29 rfl rfl ?_
        refine aw_V0v cx 33 mX5_isEven (ci := 4) dX5_closed_30 rfl okmX5_isEven lkX5_75 (by first | exact mm_0 | exact mm_1 | exact mm_2 | exact mm_3 | exact mm_4 | exact mm_5 | exact mm_6 | exact mm_7 | exact mm_8 | exact mm_9) ⟨rfl, by decide⟩ (zz_rc0 mX5_closed hRm hNS rfl rfl) (Nat.le_of_ble_eq_true rfl) ?_
        refine s_X5_isEven hn hA hg (fun v30 A30 B30 e30 P30 => ⟨_, rfl, ?_⟩)
        refine aw_if_ne cx 36 39 dX5_closed_33 rfl (by decide) ⟨by omega, by omega⟩ (fun c33 => ?_) (fun c33 => ?_)
        · have hz : fl n g = 0 := by omega
          have hP := P30 hz
          have hO : ∀ c, 0 ≤ c → c < 5 → c < rk n g → fp n g c ≠ -1 := fun c c0 c1 c2 => (fl_z (by omega) hz).2.1 c c0 c1 c2
          refine aw_iload_n cx 40 dX5_closed_39 rfl rfl ?_
          refine aw_if_ne cx 43 58 dX5_closed_40 rfl (by decide) ⟨by omega, by omega⟩ (fun c40 => ?_) (fun c40 => ?_)
          · refine aw_iload_n cx 59 dX5_closed_58 rfl rfl ?_
            refine aw_iconst cx 60 dX5_closed_59 rfl ?_
            refine aw_icmp_ne cx 63 69 dX5_closed_60 rfl (by decide) ⟨⟨by omega, by omega⟩, ⟨by omega, by omega⟩⟩ (fun c60 => ?_) (fun c60 => ?_)
            · refine aw_iconst cx 70 dX5_closed_69 rfl ?_
              refine aw_istore_n cx 71 3 dX5_closed_70 rfl rfl ⟨Nat.le_of_ble_eq_true rfl, Nat.le_of_ble_eq_true rfl⟩ rfl ?_
              dsimp only [List.set]
              refine aw_iconst cx 72 dX5_closed_71 rfl ?_
              refine aw_istore cx 74 dX5_closed_72 rfl ⟨Nat.le_of_ble_eq_true rfl, Nat.le_of_ble_eq_true rfl⟩ rfl ?_
              dsimp only [List.set]
              have lp74 : ∀ (kf : Nat) (x s : Int), (33 - x < (kf : Int)) → (0 ≤ x ∧ x ≤ zz_shl 1 (rk n g)) → s = cs n g x → AW X 74 [some (vR 20), some (vI (a)), some (vI (b)), some (vI (s)), some (vI (x))] [] (hmd h n tr C K V A30 B30 L D T U) := by
                intro kf
                induction kf with
                | zero =>
                  intro x s hk hx hxs
                  exfalso
                  omega
                | succ kf ih74 =>
                  intro x s hk hx hxs
                  refine aw_iload cx 76 dX5_closed_74 rfl rfl ?_
                  refine aw_iconst cx 77 dX5_closed_76 rfl ?_
                  refine aw_aload_n cx 78 dX5_closed_77 rfl rfl ?_
                  refine aw_V0v cx 81 mX5_rank (ci := 4) dX5_closed_78 rfl okmX5_rank lkX5_61 (by first | exact mm_0 | exact mm_1 | exact mm_2 | exact mm_3 | exact mm_4 | exact mm_5 | exact mm_6 | exact mm_7 | exact mm_8 | exact mm_9) ⟨rfl, by decide⟩ (zz_rc0 mX5_closed hRm hNS rfl rfl) (Nat.le_of_ble_eq_true rfl) ?_
                  refine s_X5_rank hn hA hg (fun v78 e78 => ⟨_, rfl, ?_⟩)
                  subst e78
                  refine aw_ishl cx 82 dX5_closed_81 rfl ?_
                  refine aw_icmp_ge cx 85 110 dX5_closed_82 rfl (by decide) ⟨⟨by omega, by omega⟩, ⟨by omega, by omega⟩⟩ (fun c82 => ?_) (fun c82 => ?_)
                  · refine aw_iload_n cx 111 dX5_closed_110 rfl rfl ?_
                    refine aw_ireturn cx dX5_closed_111 ?_
                    refine hRet _ _ True.intro rfl ?_
                    exact k _ _ (by unfold f_closed; rw [if_pos (by omega), if_pos (by omega), if_neg (by omega), if_neg (by omega), hxs, show x = zz_shl 1 (rk n g) by omega]) (mp_mk hn hA hg hV)
                  · have hlt := shl_lt (v := x) (R := rk n g) ⟨by omega, by omega⟩ (by omega) (by omega)
                    have lt1 := hlt.1
                    have lt2 : blw n g x := hlt.2
                    refine aw_iload_n cx 86 dX5_closed_85 rfl rfl ?_
                    refine aw_aload_n cx 87 dX5_closed_86 rfl rfl ?_
                    refine aw_iload cx 89 dX5_closed_87 rfl rfl ?_
                    refine aw_V1v cx 92 mX5_hull (ci := 4) dX5_closed_89 rfl okmX5_hull lkX5_92 (by first | exact mm_0 | exact mm_1 | exact mm_2 | exact mm_3 | exact mm_4 | exact mm_5 | exact mm_6 | exact mm_7 | exact mm_8 | exact mm_9) ⟨rfl, by decide⟩ (zz_rc0 mX5_closed hRm hNS rfl rfl) (Nat.le_of_ble_eq_true rfl) ?_
                    refine s_X5_hull hn hA hg hP hO (by assumption) (by assumption) (fun v89 e89 => ⟨_, rfl, ?_⟩)
                    have hc := hl_cl hR lt1 lt2
                    have hh := (hl_p hR lt1 lt2).1
                    rw [← e89] at hc hh
                    refine aw_iload cx 94 dX5_closed_92 rfl rfl ?_
                    refine aw_icmp_ne cx 97 101 dX5_closed_94 rfl (by decide) ⟨⟨by omega, by omega⟩, ⟨by omega, by omega⟩⟩ (fun c94 => ?_) (fun c94 => ?_)
                    · refine aw_iconst cx 102 dX5_closed_101 rfl ?_
                      refine aw_iadd cx 103 dX5_closed_102 rfl ?_
                      refine aw_istore_n cx 104 3 dX5_closed_103 rfl rfl ⟨Nat.le_of_ble_eq_true rfl, Nat.le_of_ble_eq_true rfl⟩ rfl ?_
                      dsimp only [List.set]
                      refine aw_iinc cx 107 dX5_closed_104 rfl rfl (Nat.le_of_ble_eq_true rfl) rfl ?_
                      dsimp only [List.set]
                      refine aw_goto cx 74 dX5_closed_107 (by decide) ?_
                      exact ih74 (x + 1) _ (by omega) ⟨by omega, by omega⟩ (by rw [cs_s hx.1]; first | (rw [if_pos (hc.mp (by omega))]; omega) | (rw [if_neg (fun q => by have := hc.mpr q; omega)]; omega))
                    · refine aw_iconst cx 98 dX5_closed_97 rfl ?_
                      refine aw_goto cx 102 dX5_closed_98 (by decide) ?_
                      refine aw_iadd cx 103 dX5_closed_102 rfl ?_
                      refine aw_istore_n cx 104 3 dX5_closed_103 rfl rfl ⟨Nat.le_of_ble_eq_true rfl, Nat.le_of_ble_eq_true rfl⟩ rfl ?_
                      dsimp only [List.set]
                      refine aw_iinc cx 107 dX5_closed_104 rfl rfl (Nat.le_of_ble_eq_true rfl) rfl ?_
                      dsimp only [List.set]
                      refine aw_goto cx 74 dX5_closed_107 (by decide) ?_
                      exact ih74 (x + 1) _ (by omega) ⟨by omega, by omega⟩ (by rw [cs_s hx.1]; first | (rw [if_pos (hc.mp (by omega))]; omega) | (rw [if_neg (fun q => by have := hc.mpr q; omega)]; omega))
              exact lp74 34 0 0 (by omega) ⟨by omega, by omega⟩ rfl
            · have hlt := shl_lt (v := a) (R := rk n g) ⟨by omega, by omega⟩ (by omega) (by omega)
              have lt1 := hlt.1
              have lt2 : blw n g a := hlt.2
              refine aw_aload_n cx 64 dX5_closed_63 rfl rfl ?_
              refine aw_iload_n cx 65 dX5_closed_64 rfl rfl ?_
              refine aw_V1v cx 68 mX5_hull (ci := 4) dX5_closed_65 rfl okmX5_hull lkX5_92 (by first | exact mm_0 | exact mm_1 | exact mm_2 | exact mm_3 | exact mm_4 | exact mm_5 | exact mm_6 | exact mm_7 | exact mm_8 | exact mm_9) ⟨rfl, by decide⟩ (zz_rc0 mX5_closed hRm hNS rfl rfl) (Nat.le_of_ble_eq_true rfl) ?_
              refine s_X5_hull hn hA hg hP hO (by assumption) (by assumption) (fun v65 e65 => ⟨_, rfl, ?_⟩)
              refine aw_ireturn cx dX5_closed_68 ?_
              refine hRet _ _ True.intro rfl ?_
              exact k _ _ (by unfold f_closed; rw [if_pos (by omega), if_pos (by omega), if_neg (by omega), if_pos (by omega)]; exact e65) (mp_mk hn hA hg hV)
          · have hlt := shl_lt (v := a) (R := rk n g) ⟨by omega, by omega⟩ (by omega) (by omega)
            have lt1 := hlt.1
            have lt2 : blw n g a := hlt.2
            refine aw_aload_n cx 44 dX5_closed_43 rfl rfl ?_
            refine aw_iload_n cx 45 dX5_closed_44 rfl rfl ?_
            refine aw_V1v cx 48 mX5_hull (ci := 4) dX5_closed_45 rfl okmX5_hull lkX5_92 (by first | exact mm_0 | exact mm_1 | exact mm_2 | exact mm_3 | exact mm_4 | exact mm_5 | exact mm_6 | exact mm_7 | exact mm_8 | exact mm_9) ⟨rfl, by decide⟩ (zz_rc0 mX5_closed hRm hNS rfl rfl) (Nat.le_of_ble_eq_true rfl) ?_
            refine s_X5_hull hn hA hg hP hO (by assumption) (by assumption) (fun v45 e45 => ⟨_, rfl, ?_⟩)
            have hc := hl_cl hR lt1 lt2
            have hh := (hl_p hR lt1 lt2).1
            rw [← e45] at hc hh
            refine aw_iload_n cx 49 dX5_closed_48 rfl rfl ?_
            refine aw_icmp_ne cx 52 56 dX5_closed_49 rfl (by decide) ⟨⟨by omega, by omega⟩, ⟨by omega, by omega⟩⟩ (fun c49 => ?_) (fun c49 => ?_)
            · refine aw_iconst cx 57 dX5_closed_56 rfl ?_
              refine aw_ireturn cx dX5_closed_57 ?_
              refine hRet _ _ True.intro rfl ?_
              refine k _ _ ?_ (mp_mk hn hA hg hV)
              unfold f_closed
              rw [if_pos (by omega), if_pos (by omega), if_pos (by omega)]
              first | (rw [if_pos (hc.mp (by omega))]; done) | (rw [if_neg (fun q => by have := hc.mpr q; omega)]; done)
            · refine aw_iconst cx 53 dX5_closed_52 rfl ?_
              refine aw_goto cx 57 dX5_closed_53 (by decide) ?_
              refine aw_ireturn cx dX5_closed_57 ?_
              refine hRet _ _ True.intro rfl ?_
              refine k _ _ ?_ (mp_mk hn hA hg hV)
              unfold f_closed
              rw [if_pos (by omega), if_pos (by omega), if_pos (by omega)]
              first | (rw [if_pos (hc.mp (by omega))]; done) | (rw [if_neg (fun q => by have := hc.mpr q; omega)]; done)
        · refine aw_bipush cx 38 dX5_closed_36 rfl (by decide +kernel) ?_
          refine aw_ireturn cx dX5_closed_38 ?_
          refine hRet _ _ True.intro rfl ?_
          exact k _ _ (by unfold f_closed; rw [if_pos (by omega), if_neg (by omega)]) (mp_mk hn hA hg hV)
      · refine aw_iconst cx 28 dX5_closed_27 rfl ?_
        refine aw_ireturn cx dX5_closed_28 ?_
        refine hRet _ _ True.intro rfl ?_
        exact k _ _ (by unfold f_closed; rw [if_neg (by omega)]) (mp_mk hn hA hg hV)
set_option maxRecDepth 100000 in
set_option maxHeartbeats 4000000 in
theorem s_X5_worth {h : AH} {Q : Option AV → AH → Prop} {n tr : Int} {g : Gr} {V : Int → Int} (hX : MI h n g V tr) {a b : Int} (ha : R32 a) (hb : R32 b) (k : ∀ v h', v = f_worth n g a b → MP h h' (n) (g) (V) (t_worth n g a b tr) → Q (some (vI v)) h') : MC mX5_worth [vR 20, vI a, vI b] h Q := by
  obtain ⟨C, K, A, B, L, D, T, U, ⟨m0, m1, m2, m3, m4, m5, m6, m7, m8, m9⟩, hn, hA, hg, hV⟩ := hX
  rw [mm_in m0 m1 m2 m3 m4 m5 m6 m7 m8 m9]
  have hR := rk_b (n := n) (g := g) (by omega) hg
  refine mc_start mX5_worth RX5 "worth" ⟨rfl, rfl, by decide +kernel⟩ [some (vR 20), some (vI a), some (vI b), none] ⟨1, rfl⟩ rfl (fun X cx hRm hNS hRet => ?_)
  refine aw_aload_n cx 1 dX5_worth_0 rfl rfl ?_
  refine aw_iconst cx 2 dX5_worth_1 rfl ?_
  refine aw_putfield cx 5 dX5_worth_2 rfl fdX5_42 (by first | exact mm_0 | exact mm_1 | exact mm_2 | exact mm_3 | exact mm_4 | exact mm_5 | exact mm_6 | exact mm_7 | exact mm_8 | exact mm_9) (by exact Nat.le_of_ble_eq_true rfl) rfl ?_
  dsimp only [List.set]
  first | rw [my_0] | rw [my_1] | rw [my_2] | rw [my_3] | rw [my_4] | rw [my_5] | rw [my_6] | rw [my_7] | rw [my_8] | rw [my_9]
  refine aw_iload_n cx 6 dX5_worth_5 rfl rfl ?_
  refine aw_iconst cx 7 dX5_worth_6 rfl ?_
  refine aw_iconst cx 8 dX5_worth_7 rfl ?_
  refine aw_S3v cx 11 mX5_in dX5_worth_8 rfl okmX5_in lkX5_45 (zz_rc0 mX5_worth hRm hNS rfl rfl) (Nat.le_of_ble_eq_true rfl) ?_
  refine s_X5_in (by first | assumption | exact ⟨by omega, by omega⟩) (by first | assumption | exact ⟨by omega, by omega⟩) (by first | assumption | exact ⟨by omega, by omega⟩) (fun v8 e8 => ⟨_, rfl, ?_⟩)
  have z8 : v8 = 0 ∨ v8 = 1 := by omega
  have y8 : v8 = 1 ∨ v8 = 0 := by omega
  refine aw_if_eq cx 14 22 dX5_worth_11 rfl (by decide) ⟨by omega, by omega⟩ (fun c11 => ?_) (fun c11 => ?_)
  · refine aw_iconst cx 23 dX5_worth_22 rfl ?_
    refine aw_ireturn cx dX5_worth_23 ?_
    refine hRet _ _ True.intro rfl ?_
    refine k _ _ (by unfold f_worth; rw [if_neg (by unfold ok_worth okc; omega)]) ?_
    unfold t_worth
    rw [if_neg (by unfold ok_worth okc; omega)]
    exact (mp_mk hn hA hg hV)
  · refine aw_aload_n cx 15 dX5_worth_14 rfl rfl ?_
    refine aw_iload_n cx 16 dX5_worth_15 rfl rfl ?_
    refine aw_V1v cx 19 mX5_isColour (ci := 4) dX5_worth_16 rfl okmX5_isColour lkX5_72 (by first | exact mm_0 | exact mm_1 | exact mm_2 | exact mm_3 | exact mm_4 | exact mm_5 | exact mm_6 | exact mm_7 | exact mm_8 | exact mm_9) ⟨rfl, by decide⟩ (zz_rc0 mX5_worth hRm hNS rfl rfl) (Nat.le_of_ble_eq_true rfl) ?_
    refine s_X5_isColour hn hA hg (by assumption) (fun v16 e16 => ⟨_, rfl, ?_⟩)
    refine aw_if_ne cx 22 24 dX5_worth_19 rfl (by decide) ⟨by omega, by omega⟩ (fun c19 => ?_) (fun c19 => ?_)
    · refine aw_aload_n cx 25 dX5_worth_24 rfl rfl ?_
      refine aw_V0v cx 28 mX5_isEven (ci := 4) dX5_worth_25 rfl okmX5_isEven lkX5_75 (by first | exact mm_0 | exact mm_1 | exact mm_2 | exact mm_3 | exact mm_4 | exact mm_5 | exact mm_6 | exact mm_7 | exact mm_8 | exact mm_9) ⟨rfl, by decide⟩ (zz_rc0 mX5_worth hRm hNS rfl rfl) (Nat.le_of_ble_eq_true rfl) ?_
      refine s_X5_isEven hn hA hg (fun v25 A25 B25 e25 P25 => ⟨_, rfl, ?_⟩)
      refine aw_if_ne cx 31 34 dX5_worth_28 rfl (by decide) ⟨by omega, by omega⟩ (fun c28 => ?_) (fun c28 => ?_)
      · have hz : fl n g = 0 := by omega
        have hP := P25 hz
        have hO : ∀ c, 0 ≤ c → c < 5 → c < rk n g → fp n g c ≠ -1 := fun c c0 c1 c2 => (fl_z (by omega) hz).2.1 c c0 c1 c2
        have si := shl_b (k := b) ⟨by omega, by omega⟩
        have sb : blw n g (zz_shl 1 b) := fun j j0 j1 j2 q9 => by
          have := (bm_shl (k := b) (i := j) ⟨by omega, by omega⟩ ⟨j0, j1⟩).mp q9
          omega
        refine aw_aload_n cx 35 dX5_worth_34 rfl rfl ?_
        refine aw_dup cx 36 dX5_worth_35 rfl rfl ?_
        refine aw_getfield cx 39 dX5_worth_36 rfl fdX5_98 (by first | exact mm_0 | exact mm_1 | exact mm_2 | exact mm_3 | exact mm_4 | exact mm_5 | exact mm_6 | exact mm_7 | exact mm_8 | exact mm_9) (by rfl) ?_
        refine aw_iload_n cx 40 dX5_worth_39 rfl rfl ?_
        refine aw_if_ne cx 43 47 dX5_worth_40 rfl (by decide) ⟨by omega, by omega⟩ (fun c40 => ?_) (fun c40 => ?_)
        · first
          | (exfalso; omega)
          | (refine aw_iload_n cx 48 dX5_worth_47 rfl rfl ?_
             refine aw_iconst cx 49 dX5_worth_48 rfl ?_
             refine aw_icmp_ne cx 52 58 dX5_worth_49 rfl (by decide) ⟨⟨by omega, by omega⟩, ⟨by omega, by omega⟩⟩ (fun c49 => ?_) (fun c49 => ?_)
             · first
               | (exfalso; omega)
               | (refine aw_ldc2 cx 61 (111) dX5_worth_58 rfl klX5_104 (by decide +kernel) ?_
                  refine aw_ladd cx 62 dX5_worth_61 rfl ?_
                  refine aw_putfield cx 65 dX5_worth_62 rfl fdX5_98 (by first | exact mm_0 | exact mm_1 | exact mm_2 | exact mm_3 | exact mm_4 | exact mm_5 | exact mm_6 | exact mm_7 | exact mm_8 | exact mm_9) (by exact Nat.le_of_ble_eq_true rfl) rfl ?_
                  dsimp only [List.set]
                  first | rw [my_0] | rw [my_1] | rw [my_2] | rw [my_3] | rw [my_4] | rw [my_5] | rw [my_6] | rw [my_7] | rw [my_8] | rw [my_9]
                  refine aw_aload_n cx 66 dX5_worth_65 rfl rfl ?_
                  refine aw_iload_n cx 67 dX5_worth_66 rfl rfl ?_
                  refine aw_V1v cx 70 mX5_degree (ci := 4) dX5_worth_67 rfl okmX5_degree lkX5_82 (by first | exact mm_0 | exact mm_1 | exact mm_2 | exact mm_3 | exact mm_4 | exact mm_5 | exact mm_6 | exact mm_7 | exact mm_8 | exact mm_9) ⟨rfl, by decide⟩ (zz_rc0 mX5_worth hRm hNS rfl rfl) (Nat.le_of_ble_eq_true rfl) ?_
                  refine s_X5_degree hn hA hg ⟨by omega, by omega⟩ (fun v67 e67 => ⟨_, rfl, ?_⟩)
                  refine aw_istore_n cx 71 3 dX5_worth_70 rfl rfl ⟨Nat.le_of_ble_eq_true rfl, Nat.le_of_ble_eq_true rfl⟩ rfl ?_
                  dsimp only [List.set]
                  refine aw_iload_n cx 72 dX5_worth_71 rfl rfl ?_
                  refine aw_iload_n cx 73 dX5_worth_72 rfl rfl ?_
                  refine aw_if_le cx 76 90 dX5_worth_73 rfl (by decide) ⟨by omega, by omega⟩ (fun c73 => ?_) (fun c73 => ?_)
                  · first
                    | (exfalso; omega)
                    | (refine aw_iconst cx 91 dX5_worth_90 rfl ?_
                       refine aw_imul cx 92 dX5_worth_91 rfl ?_
                       refine aw_istore_n cx 93 3 dX5_worth_92 rfl rfl ⟨Nat.le_of_ble_eq_true rfl, Nat.le_of_ble_eq_true rfl⟩ rfl ?_
                       dsimp only [List.set]
                       refine aw_iload_n cx 94 dX5_worth_93 rfl rfl ?_
                       refine aw_iconst cx 95 dX5_worth_94 rfl ?_
                       refine aw_icmp_ne cx 98 110 dX5_worth_95 rfl (by decide) ⟨⟨by omega, by omega⟩, ⟨by omega, by omega⟩⟩ (fun c95 => ?_) (fun c95 => ?_)
                       · first
                         | (exfalso; omega)
                         | (refine aw_iload_n cx 111 dX5_worth_110 rfl rfl ?_
                            refine aw_ireturn cx dX5_worth_111 ?_
                            refine hRet _ _ True.intro rfl ?_
                            first
                            | (refine k _ _ (by unfold f_worth; rw [if_pos (by unfold ok_worth okc; omega), if_pos hz, if_pos (by omega), e67, Int.mul_one]) ?_
                               unfold t_worth
                               rw [if_pos (by unfold ok_worth okc; omega), if_pos hz, if_pos (by omega)]
                               exact mp_mk hn hA hg hV)
                            | (refine k _ _ (by unfold f_worth; rw [if_pos (by unfold ok_worth okc; omega), if_pos hz, if_neg (by omega), if_pos (by omega), e67, e84, e81]) ?_
                               unfold t_worth
                               rw [if_pos (by unfold ok_worth okc; omega), if_pos hz, if_neg (by omega), if_pos (by omega)]
                               exact mp_mk hn hA hg hV)
                            | (refine k _ _ (by unfold f_worth; rw [if_pos (by unfold ok_worth okc; omega), if_pos hz, if_neg (by omega), if_neg (by omega), e67, e84, e81, e103]) ?_
                               unfold t_worth
                               rw [if_pos (by unfold ok_worth okc; omega), if_pos hz, if_neg (by omega), if_neg (by omega)]
                               exact mp_mk hn hA hg hV))
                       · first
                         | (exfalso; omega)
                         | (refine aw_iload_n cx 99 dX5_worth_98 rfl rfl ?_
                            refine aw_aload_n cx 100 dX5_worth_99 rfl rfl ?_
                            refine aw_iload_n cx 101 dX5_worth_100 rfl rfl ?_
                            refine aw_iload_n cx 102 dX5_worth_101 rfl rfl ?_
                            refine aw_iload_n cx 103 dX5_worth_102 rfl rfl ?_
                            refine aw_V3v cx 106 mX5_numberOf (ci := 4) dX5_worth_103 rfl okmX5_numberOf lkX5_78 (by first | exact mm_0 | exact mm_1 | exact mm_2 | exact mm_3 | exact mm_4 | exact mm_5 | exact mm_6 | exact mm_7 | exact mm_8 | exact mm_9) ⟨rfl, by decide⟩ (zz_rc0 mX5_worth hRm hNS rfl rfl) (Nat.le_of_ble_eq_true rfl) ?_
                            refine s_X5_numberOf hn hA hg hP ⟨by omega, by omega⟩ ⟨by omega, by omega⟩ ⟨by omega, by omega⟩ (hO _ (by omega) (by omega) (by omega)) (fun v103 e103 => ⟨_, rfl, ?_⟩)
                            have b103 := nu_b (n := n) (g := g) (by omega)
                            refine aw_iadd cx 107 dX5_worth_106 rfl ?_
                            refine aw_goto cx 111 dX5_worth_107 (by decide) ?_
                            refine aw_ireturn cx dX5_worth_111 ?_
                            refine hRet _ _ True.intro rfl ?_
                            first
                            | (refine k _ _ (by unfold f_worth; rw [if_pos (by unfold ok_worth okc; omega), if_pos hz, if_pos (by omega), e67, Int.mul_one]) ?_
                               unfold t_worth
                               rw [if_pos (by unfold ok_worth okc; omega), if_pos hz, if_pos (by omega)]
                               exact mp_mk hn hA hg hV)
                            | (refine k _ _ (by unfold f_worth; rw [if_pos (by unfold ok_worth okc; omega), if_pos hz, if_neg (by omega), if_pos (by omega), e67, e84, e81]) ?_
                               unfold t_worth
                               rw [if_pos (by unfold ok_worth okc; omega), if_pos hz, if_neg (by omega), if_pos (by omega)]
                               exact mp_mk hn hA hg hV)
                            | (refine k _ _ (by unfold f_worth; rw [if_pos (by unfold ok_worth okc; omega), if_pos hz, if_neg (by omega), if_neg (by omega), e67, e84, e81, e103]) ?_
                               unfold t_worth
                               rw [if_pos (by unfold ok_worth okc; omega), if_pos hz, if_neg (by omega), if_neg (by omega)]
                               exact mp_mk hn hA hg hV)))
                  · first
                    | (exfalso; omega)
                    | (refine aw_aload_n cx 77 dX5_worth_76 rfl rfl ?_
                       refine aw_aload_n cx 78 dX5_worth_77 rfl rfl ?_
                       refine aw_iconst cx 79 dX5_worth_78 rfl ?_
                       refine aw_iload_n cx 80 dX5_worth_79 rfl rfl ?_
                       refine aw_ishl cx 81 dX5_worth_80 rfl ?_
                       refine aw_V1v cx 84 mX5_hull (ci := 4) dX5_worth_81 rfl okmX5_hull lkX5_92 (by first | exact mm_0 | exact mm_1 | exact mm_2 | exact mm_3 | exact mm_4 | exact mm_5 | exact mm_6 | exact mm_7 | exact mm_8 | exact mm_9) ⟨rfl, by decide⟩ (zz_rc0 mX5_worth hRm hNS rfl rfl) (Nat.le_of_ble_eq_true rfl) ?_
                       refine s_X5_hull hn hA hg hP hO (by assumption) (by assumption) (fun v81 e81 => ⟨_, rfl, ?_⟩)
                       refine aw_V1v cx 87 mX5_orderOf (ci := 4) dX5_worth_84 rfl okmX5_orderOf lkX5_95 (by first | exact mm_0 | exact mm_1 | exact mm_2 | exact mm_3 | exact mm_4 | exact mm_5 | exact mm_6 | exact mm_7 | exact mm_8 | exact mm_9) ⟨rfl, by decide⟩ (zz_rc0 mX5_worth hRm hNS rfl rfl) (Nat.le_of_ble_eq_true rfl) ?_
                       refine s_X5_orderOf hn hA hg (fun v84 e84 => ⟨_, rfl, ?_⟩)
                       refine aw_goto cx 91 dX5_worth_87 (by decide) ?_
                       refine aw_imul cx 92 dX5_worth_91 rfl ?_
                       refine aw_istore_n cx 93 3 dX5_worth_92 rfl rfl ⟨Nat.le_of_ble_eq_true rfl, Nat.le_of_ble_eq_true rfl⟩ rfl ?_
                       dsimp only [List.set]
                       refine aw_iload_n cx 94 dX5_worth_93 rfl rfl ?_
                       refine aw_iconst cx 95 dX5_worth_94 rfl ?_
                       refine aw_icmp_ne cx 98 110 dX5_worth_95 rfl (by decide) ⟨⟨by omega, by omega⟩, ⟨by omega, by omega⟩⟩ (fun c95 => ?_) (fun c95 => ?_)
                       · first
                         | (exfalso; omega)
                         | (refine aw_iload_n cx 111 dX5_worth_110 rfl rfl ?_
                            refine aw_ireturn cx dX5_worth_111 ?_
                            refine hRet _ _ True.intro rfl ?_
                            first
                            | (refine k _ _ (by unfold f_worth; rw [if_pos (by unfold ok_worth okc; omega), if_pos hz, if_pos (by omega), e67, Int.mul_one]) ?_
                               unfold t_worth
                               rw [if_pos (by unfold ok_worth okc; omega), if_pos hz, if_pos (by omega)]
                               exact mp_mk hn hA hg hV)
                            | (refine k _ _ (by unfold f_worth; rw [if_pos (by unfold ok_worth okc; omega), if_pos hz, if_neg (by omega), if_pos (by omega), e67, e84, e81]) ?_
                               unfold t_worth
                               rw [if_pos (by unfold ok_worth okc; omega), if_pos hz, if_neg (by omega), if_pos (by omega)]
                               exact mp_mk hn hA hg hV)
                            | (refine k _ _ (by unfold f_worth; rw [if_pos (by unfold ok_worth okc; omega), if_pos hz, if_neg (by omega), if_neg (by omega), e67, e84, e81, e103]) ?_
                               unfold t_worth
                               rw [if_pos (by unfold ok_worth okc; omega), if_pos hz, if_neg (by omega), if_neg (by omega)]
                               exact mp_mk hn hA hg hV))
                       · first
                         | (exfalso; omega)
                         | (refine aw_iload_n cx 99 dX5_worth_98 rfl rfl ?_
                            refine aw_aload_n cx 100 dX5_worth_99 rfl rfl ?_
                            refine aw_iload_n cx 101 dX5_worth_100 rfl rfl ?_
                            refine aw_iload_n cx 102 dX5_worth_101 rfl rfl ?_
                            refine aw_iload_n cx 103 dX5_worth_102 rfl rfl ?_
                            refine aw_V3v cx 106 mX5_numberOf (ci := 4) dX5_worth_103 rfl okmX5_numberOf lkX5_78 (by first | exact mm_0 | exact mm_1 | exact mm_2 | exact mm_3 | exact mm_4 | exact mm_5 | exact mm_6 | exact mm_7 | exact mm_8 | exact mm_9) ⟨rfl, by decide⟩ (zz_rc0 mX5_worth hRm hNS rfl rfl) (Nat.le_of_ble_eq_true rfl) ?_
                            refine s_X5_numberOf hn hA hg hP ⟨by omega, by omega⟩ ⟨by omega, by omega⟩ ⟨by omega, by omega⟩ (hO _ (by omega) (by omega) (by omega)) (fun v103 e103 => ⟨_, rfl, ?_⟩)
                            have b103 := nu_b (n := n) (g := g) (by omega)
                            refine aw_iadd cx 107 dX5_worth_106 rfl ?_
                            refine aw_goto cx 111 dX5_worth_107 (by decide) ?_
                            refine aw_ireturn cx dX5_worth_111 ?_
                            refine hRet _ _ True.intro rfl ?_
                            first
                            | (refine k _ _ (by unfold f_worth; rw [if_pos (by unfold ok_worth okc; omega), if_pos hz, if_pos (by omega), e67, Int.mul_one]) ?_
                               unfold t_worth
                               rw [if_pos (by unfold ok_worth okc; omega), if_pos hz, if_pos (by omega)]
                               exact mp_mk hn hA hg hV)
                            | (refine k _ _ (by unfold f_worth; rw [if_pos (by unfold ok_worth okc; omega), if_pos hz, if_neg (by omega), if_pos (by omega), e67, e84, e81]) ?_
                               unfold t_worth
                               rw [if_pos (by unfold ok_worth okc; omega), if_pos hz, if_neg (by omega), if_pos (by omega)]
                               exact mp_mk hn hA hg hV)
                            | (refine k _ _ (by unfold f_worth; rw [if_pos (by unfold ok_worth okc; omega), if_pos hz, if_neg (by omega), if_neg (by omega), e67, e84, e81, e103]) ?_
                               unfold t_worth
                               rw [if_pos (by unfold ok_worth okc; omega), if_pos hz, if_neg (by omega), if_neg (by omega)]
                               exact mp_mk hn hA hg hV))))
             · first
               | (exfalso; omega)
               | (refine aw_ldc2 cx 55 (11) dX5_worth_52 rfl klX5_102 (by decide +kernel) ?_
                  refine aw_goto cx 61 dX5_worth_55 (by decide) ?_
                  refine aw_ladd cx 62 dX5_worth_61 rfl ?_
                  refine aw_putfield cx 65 dX5_worth_62 rfl fdX5_98 (by first | exact mm_0 | exact mm_1 | exact mm_2 | exact mm_3 | exact mm_4 | exact mm_5 | exact mm_6 | exact mm_7 | exact mm_8 | exact mm_9) (by exact Nat.le_of_ble_eq_true rfl) rfl ?_
                  dsimp only [List.set]
                  first | rw [my_0] | rw [my_1] | rw [my_2] | rw [my_3] | rw [my_4] | rw [my_5] | rw [my_6] | rw [my_7] | rw [my_8] | rw [my_9]
                  refine aw_aload_n cx 66 dX5_worth_65 rfl rfl ?_
                  refine aw_iload_n cx 67 dX5_worth_66 rfl rfl ?_
                  refine aw_V1v cx 70 mX5_degree (ci := 4) dX5_worth_67 rfl okmX5_degree lkX5_82 (by first | exact mm_0 | exact mm_1 | exact mm_2 | exact mm_3 | exact mm_4 | exact mm_5 | exact mm_6 | exact mm_7 | exact mm_8 | exact mm_9) ⟨rfl, by decide⟩ (zz_rc0 mX5_worth hRm hNS rfl rfl) (Nat.le_of_ble_eq_true rfl) ?_
                  refine s_X5_degree hn hA hg ⟨by omega, by omega⟩ (fun v67 e67 => ⟨_, rfl, ?_⟩)
                  refine aw_istore_n cx 71 3 dX5_worth_70 rfl rfl ⟨Nat.le_of_ble_eq_true rfl, Nat.le_of_ble_eq_true rfl⟩ rfl ?_
                  dsimp only [List.set]
                  refine aw_iload_n cx 72 dX5_worth_71 rfl rfl ?_
                  refine aw_iload_n cx 73 dX5_worth_72 rfl rfl ?_
                  refine aw_if_le cx 76 90 dX5_worth_73 rfl (by decide) ⟨by omega, by omega⟩ (fun c73 => ?_) (fun c73 => ?_)
                  · first
                    | (exfalso; omega)
                    | (refine aw_iconst cx 91 dX5_worth_90 rfl ?_
                       refine aw_imul cx 92 dX5_worth_91 rfl ?_
                       refine aw_istore_n cx 93 3 dX5_worth_92 rfl rfl ⟨Nat.le_of_ble_eq_true rfl, Nat.le_of_ble_eq_true rfl⟩ rfl ?_
                       dsimp only [List.set]
                       refine aw_iload_n cx 94 dX5_worth_93 rfl rfl ?_
                       refine aw_iconst cx 95 dX5_worth_94 rfl ?_
                       refine aw_icmp_ne cx 98 110 dX5_worth_95 rfl (by decide) ⟨⟨by omega, by omega⟩, ⟨by omega, by omega⟩⟩ (fun c95 => ?_) (fun c95 => ?_)
                       · first
                         | (exfalso; omega)
                         | (refine aw_iload_n cx 111 dX5_worth_110 rfl rfl ?_
                            refine aw_ireturn cx dX5_worth_111 ?_
                            refine hRet _ _ True.intro rfl ?_
                            first
                            | (refine k _ _ (by unfold f_worth; rw [if_pos (by unfold ok_worth okc; omega), if_pos hz, if_pos (by omega), e67, Int.mul_one]) ?_
                               unfold t_worth
                               rw [if_pos (by unfold ok_worth okc; omega), if_pos hz, if_pos (by omega)]
                               exact mp_mk hn hA hg hV)
                            | (refine k _ _ (by unfold f_worth; rw [if_pos (by unfold ok_worth okc; omega), if_pos hz, if_neg (by omega), if_pos (by omega), e67, e84, e81]) ?_
                               unfold t_worth
                               rw [if_pos (by unfold ok_worth okc; omega), if_pos hz, if_neg (by omega), if_pos (by omega)]
                               exact mp_mk hn hA hg hV)
                            | (refine k _ _ (by unfold f_worth; rw [if_pos (by unfold ok_worth okc; omega), if_pos hz, if_neg (by omega), if_neg (by omega), e67, e84, e81, e103]) ?_
                               unfold t_worth
                               rw [if_pos (by unfold ok_worth okc; omega), if_pos hz, if_neg (by omega), if_neg (by omega)]
                               exact mp_mk hn hA hg hV))
                       · first
                         | (exfalso; omega)
                         | (refine aw_iload_n cx 99 dX5_worth_98 rfl rfl ?_
                            refine aw_aload_n cx 100 dX5_worth_99 rfl rfl ?_
                            refine aw_iload_n cx 101 dX5_worth_100 rfl rfl ?_
                            refine aw_iload_n cx 102 dX5_worth_101 rfl rfl ?_
                            refine aw_iload_n cx 103 dX5_worth_102 rfl rfl ?_
                            refine aw_V3v cx 106 mX5_numberOf (ci := 4) dX5_worth_103 rfl okmX5_numberOf lkX5_78 (by first | exact mm_0 | exact mm_1 | exact mm_2 | exact mm_3 | exact mm_4 | exact mm_5 | exact mm_6 | exact mm_7 | exact mm_8 | exact mm_9) ⟨rfl, by decide⟩ (zz_rc0 mX5_worth hRm hNS rfl rfl) (Nat.le_of_ble_eq_true rfl) ?_
                            refine s_X5_numberOf hn hA hg hP ⟨by omega, by omega⟩ ⟨by omega, by omega⟩ ⟨by omega, by omega⟩ (hO _ (by omega) (by omega) (by omega)) (fun v103 e103 => ⟨_, rfl, ?_⟩)
                            have b103 := nu_b (n := n) (g := g) (by omega)
                            refine aw_iadd cx 107 dX5_worth_106 rfl ?_
                            refine aw_goto cx 111 dX5_worth_107 (by decide) ?_
                            refine aw_ireturn cx dX5_worth_111 ?_
                            refine hRet _ _ True.intro rfl ?_
                            first
                            | (refine k _ _ (by unfold f_worth; rw [if_pos (by unfold ok_worth okc; omega), if_pos hz, if_pos (by omega), e67, Int.mul_one]) ?_
                               unfold t_worth
                               rw [if_pos (by unfold ok_worth okc; omega), if_pos hz, if_pos (by omega)]
                               exact mp_mk hn hA hg hV)
                            | (refine k _ _ (by unfold f_worth; rw [if_pos (by unfold ok_worth okc; omega), if_pos hz, if_neg (by omega), if_pos (by omega), e67, e84, e81]) ?_
                               unfold t_worth
                               rw [if_pos (by unfold ok_worth okc; omega), if_pos hz, if_neg (by omega), if_pos (by omega)]
                               exact mp_mk hn hA hg hV)
                            | (refine k _ _ (by unfold f_worth; rw [if_pos (by unfold ok_worth okc; omega), if_pos hz, if_neg (by omega), if_neg (by omega), e67, e84, e81, e103]) ?_
                               unfold t_worth
                               rw [if_pos (by unfold ok_worth okc; omega), if_pos hz, if_neg (by omega), if_neg (by omega)]
                               exact mp_mk hn hA hg hV)))
                  · first
                    | (exfalso; omega)
                    | (refine aw_aload_n cx 77 dX5_worth_76 rfl rfl ?_
                       refine aw_aload_n cx 78 dX5_worth_77 rfl rfl ?_
                       refine aw_iconst cx 79 dX5_worth_78 rfl ?_
                       refine aw_iload_n cx 80 dX5_worth_79 rfl rfl ?_
                       refine aw_ishl cx 81 dX5_worth_80 rfl ?_
                       refine aw_V1v cx 84 mX5_hull (ci := 4) dX5_worth_81 rfl okmX5_hull lkX5_92 (by first | exact mm_0 | exact mm_1 | exact mm_2 | exact mm_3 | exact mm_4 | exact mm_5 | exact mm_6 | exact mm_7 | exact mm_8 | exact mm_9) ⟨rfl, by decide⟩ (zz_rc0 mX5_worth hRm hNS rfl rfl) (Nat.le_of_ble_eq_true rfl) ?_
                       refine s_X5_hull hn hA hg hP hO (by assumption) (by assumption) (fun v81 e81 => ⟨_, rfl, ?_⟩)
                       refine aw_V1v cx 87 mX5_orderOf (ci := 4) dX5_worth_84 rfl okmX5_orderOf lkX5_95 (by first | exact mm_0 | exact mm_1 | exact mm_2 | exact mm_3 | exact mm_4 | exact mm_5 | exact mm_6 | exact mm_7 | exact mm_8 | exact mm_9) ⟨rfl, by decide⟩ (zz_rc0 mX5_worth hRm hNS rfl rfl) (Nat.le_of_ble_eq_true rfl) ?_
                       refine s_X5_orderOf hn hA hg (fun v84 e84 => ⟨_, rfl, ?_⟩)
                       refine aw_goto cx 91 dX5_worth_87 (by decide) ?_
                       refine aw_imul cx 92 dX5_worth_91 rfl ?_
                       refine aw_istore_n cx 93 3 dX5_worth_92 rfl rfl ⟨Nat.le_of_ble_eq_true rfl, Nat.le_of_ble_eq_true rfl⟩ rfl ?_
                       dsimp only [List.set]
                       refine aw_iload_n cx 94 dX5_worth_93 rfl rfl ?_
                       refine aw_iconst cx 95 dX5_worth_94 rfl ?_
                       refine aw_icmp_ne cx 98 110 dX5_worth_95 rfl (by decide) ⟨⟨by omega, by omega⟩, ⟨by omega, by omega⟩⟩ (fun c95 => ?_) (fun c95 => ?_)
                       · first
                         | (exfalso; omega)
                         | (refine aw_iload_n cx 111 dX5_worth_110 rfl rfl ?_
                            refine aw_ireturn cx dX5_worth_111 ?_
                            refine hRet _ _ True.intro rfl ?_
                            first
                            | (refine k _ _ (by unfold f_worth; rw [if_pos (by unfold ok_worth okc; omega), if_pos hz, if_pos (by omega), e67, Int.mul_one]) ?_
                               unfold t_worth
                               rw [if_pos (by unfold ok_worth okc; omega), if_pos hz, if_pos (by omega)]
                               exact mp_mk hn hA hg hV)
                            | (refine k _ _ (by unfold f_worth; rw [if_pos (by unfold ok_worth okc; omega), if_pos hz, if_neg (by omega), if_pos (by omega), e67, e84, e81]) ?_
                               unfold t_worth
                               rw [if_pos (by unfold ok_worth okc; omega), if_pos hz, if_neg (by omega), if_pos (by omega)]
                               exact mp_mk hn hA hg hV)
                            | (refine k _ _ (by unfold f_worth; rw [if_pos (by unfold ok_worth okc; omega), if_pos hz, if_neg (by omega), if_neg (by omega), e67, e84, e81, e103]) ?_
                               unfold t_worth
                               rw [if_pos (by unfold ok_worth okc; omega), if_pos hz, if_neg (by omega), if_neg (by omega)]
                               exact mp_mk hn hA hg hV))
                       · first
                         | (exfalso; omega)
                         | (refine aw_iload_n cx 99 dX5_worth_98 rfl rfl ?_
                            refine aw_aload_n cx 100 dX5_worth_99 rfl rfl ?_
                            refine aw_iload_n cx 101 dX5_worth_100 rfl rfl ?_
                            refine aw_iload_n cx 102 dX5_worth_101 rfl rfl ?_
                            refine aw_iload_n cx 103 dX5_worth_102 rfl rfl ?_
                            refine aw_V3v cx 106 mX5_numberOf (ci := 4) dX5_worth_103 rfl okmX5_numberOf lkX5_78 (by first | exact mm_0 | exact mm_1 | exact mm_2 | exact mm_3 | exact mm_4 | exact mm_5 | exact mm_6 | exact mm_7 | exact mm_8 | exact mm_9) ⟨rfl, by decide⟩ (zz_rc0 mX5_worth hRm hNS rfl rfl) (Nat.le_of_ble_eq_true rfl) ?_
                            refine s_X5_numberOf hn hA hg hP ⟨by omega, by omega⟩ ⟨by omega, by omega⟩ ⟨by omega, by omega⟩ (hO _ (by omega) (by omega) (by omega)) (fun v103 e103 => ⟨_, rfl, ?_⟩)
                            have b103 := nu_b (n := n) (g := g) (by omega)
                            refine aw_iadd cx 107 dX5_worth_106 rfl ?_
                            refine aw_goto cx 111 dX5_worth_107 (by decide) ?_
                            refine aw_ireturn cx dX5_worth_111 ?_
                            refine hRet _ _ True.intro rfl ?_
                            first
                            | (refine k _ _ (by unfold f_worth; rw [if_pos (by unfold ok_worth okc; omega), if_pos hz, if_pos (by omega), e67, Int.mul_one]) ?_
                               unfold t_worth
                               rw [if_pos (by unfold ok_worth okc; omega), if_pos hz, if_pos (by omega)]
                               exact mp_mk hn hA hg hV)
                            | (refine k _ _ (by unfold f_worth; rw [if_pos (by unfold ok_worth okc; omega), if_pos hz, if_neg (by omega), if_pos (by omega), e67, e84, e81]) ?_
                               unfold t_worth
                               rw [if_pos (by unfold ok_worth okc; omega), if_pos hz, if_neg (by omega), if_pos (by omega)]
                               exact mp_mk hn hA hg hV)
                            | (refine k _ _ (by unfold f_worth; rw [if_pos (by unfold ok_worth okc; omega), if_pos hz, if_neg (by omega), if_neg (by omega), e67, e84, e81, e103]) ?_
                               unfold t_worth
                               rw [if_pos (by unfold ok_worth okc; omega), if_pos hz, if_neg (by omega), if_neg (by omega)]
                               exact mp_mk hn hA hg hV)))))
        · first
          | (exfalso; omega)
          | (refine aw_lconst cx 44 1 dX5_worth_43 rfl (by decide +kernel) ?_
             refine aw_goto cx 61 dX5_worth_44 (by decide) ?_
             refine aw_ladd cx 62 dX5_worth_61 rfl ?_
             refine aw_putfield cx 65 dX5_worth_62 rfl fdX5_98 (by first | exact mm_0 | exact mm_1 | exact mm_2 | exact mm_3 | exact mm_4 | exact mm_5 | exact mm_6 | exact mm_7 | exact mm_8 | exact mm_9) (by exact Nat.le_of_ble_eq_true rfl) rfl ?_
             dsimp only [List.set]
             first | rw [my_0] | rw [my_1] | rw [my_2] | rw [my_3] | rw [my_4] | rw [my_5] | rw [my_6] | rw [my_7] | rw [my_8] | rw [my_9]
             refine aw_aload_n cx 66 dX5_worth_65 rfl rfl ?_
             refine aw_iload_n cx 67 dX5_worth_66 rfl rfl ?_
             refine aw_V1v cx 70 mX5_degree (ci := 4) dX5_worth_67 rfl okmX5_degree lkX5_82 (by first | exact mm_0 | exact mm_1 | exact mm_2 | exact mm_3 | exact mm_4 | exact mm_5 | exact mm_6 | exact mm_7 | exact mm_8 | exact mm_9) ⟨rfl, by decide⟩ (zz_rc0 mX5_worth hRm hNS rfl rfl) (Nat.le_of_ble_eq_true rfl) ?_
             refine s_X5_degree hn hA hg ⟨by omega, by omega⟩ (fun v67 e67 => ⟨_, rfl, ?_⟩)
             refine aw_istore_n cx 71 3 dX5_worth_70 rfl rfl ⟨Nat.le_of_ble_eq_true rfl, Nat.le_of_ble_eq_true rfl⟩ rfl ?_
             dsimp only [List.set]
             refine aw_iload_n cx 72 dX5_worth_71 rfl rfl ?_
             refine aw_iload_n cx 73 dX5_worth_72 rfl rfl ?_
             refine aw_if_le cx 76 90 dX5_worth_73 rfl (by decide) ⟨by omega, by omega⟩ (fun c73 => ?_) (fun c73 => ?_)
             · first
               | (exfalso; omega)
               | (refine aw_iconst cx 91 dX5_worth_90 rfl ?_
                  refine aw_imul cx 92 dX5_worth_91 rfl ?_
                  refine aw_istore_n cx 93 3 dX5_worth_92 rfl rfl ⟨Nat.le_of_ble_eq_true rfl, Nat.le_of_ble_eq_true rfl⟩ rfl ?_
                  dsimp only [List.set]
                  refine aw_iload_n cx 94 dX5_worth_93 rfl rfl ?_
                  refine aw_iconst cx 95 dX5_worth_94 rfl ?_
                  refine aw_icmp_ne cx 98 110 dX5_worth_95 rfl (by decide) ⟨⟨by omega, by omega⟩, ⟨by omega, by omega⟩⟩ (fun c95 => ?_) (fun c95 => ?_)
                  · first
                    | (exfalso; omega)
                    | (refine aw_iload_n cx 111 dX5_worth_110 rfl rfl ?_
                       refine aw_ireturn cx dX5_worth_111 ?_
                       refine hRet _ _ True.intro rfl ?_
                       first
                       | (refine k _ _ (by unfold f_worth; rw [if_pos (by unfold ok_worth okc; omega), if_pos hz, if_pos (by omega), e67, Int.mul_one]) ?_
                          unfold t_worth
                          rw [if_pos (by unfold ok_worth okc; omega), if_pos hz, if_pos (by omega)]
                          exact mp_mk hn hA hg hV)
                       | (refine k _ _ (by unfold f_worth; rw [if_pos (by unfold ok_worth okc; omega), if_pos hz, if_neg (by omega), if_pos (by omega), e67, e84, e81]) ?_
                          unfold t_worth
                          rw [if_pos (by unfold ok_worth okc; omega), if_pos hz, if_neg (by omega), if_pos (by omega)]
                          exact mp_mk hn hA hg hV)
                       | (refine k _ _ (by unfold f_worth; rw [if_pos (by unfold ok_worth okc; omega), if_pos hz, if_neg (by omega), if_neg (by omega), e67, e84, e81, e103]) ?_
                          unfold t_worth
                          rw [if_pos (by unfold ok_worth okc; omega), if_pos hz, if_neg (by omega), if_neg (by omega)]
                          exact mp_mk hn hA hg hV))
                  · first
                    | (exfalso; omega)
                    | (refine aw_iload_n cx 99 dX5_worth_98 rfl rfl ?_
                       refine aw_aload_n cx 100 dX5_worth_99 rfl rfl ?_
                       refine aw_iload_n cx 101 dX5_worth_100 rfl rfl ?_
                       refine aw_iload_n cx 102 dX5_worth_101 rfl rfl ?_
                       refine aw_iload_n cx 103 dX5_worth_102 rfl rfl ?_
                       refine aw_V3v cx 106 mX5_numberOf (ci := 4) dX5_worth_103 rfl okmX5_numberOf lkX5_78 (by first | exact mm_0 | exact mm_1 | exact mm_2 | exact mm_3 | exact mm_4 | exact mm_5 | exact mm_6 | exact mm_7 | exact mm_8 | exact mm_9) ⟨rfl, by decide⟩ (zz_rc0 mX5_worth hRm hNS rfl rfl) (Nat.le_of_ble_eq_true rfl) ?_
                       refine s_X5_numberOf hn hA hg hP ⟨by omega, by omega⟩ ⟨by omega, by omega⟩ ⟨by omega, by omega⟩ (hO _ (by omega) (by omega) (by omega)) (fun v103 e103 => ⟨_, rfl, ?_⟩)
                       have b103 := nu_b (n := n) (g := g) (by omega)
                       refine aw_iadd cx 107 dX5_worth_106 rfl ?_
                       refine aw_goto cx 111 dX5_worth_107 (by decide) ?_
                       refine aw_ireturn cx dX5_worth_111 ?_
                       refine hRet _ _ True.intro rfl ?_
                       first
                       | (refine k _ _ (by unfold f_worth; rw [if_pos (by unfold ok_worth okc; omega), if_pos hz, if_pos (by omega), e67, Int.mul_one]) ?_
                          unfold t_worth
                          rw [if_pos (by unfold ok_worth okc; omega), if_pos hz, if_pos (by omega)]
                          exact mp_mk hn hA hg hV)
                       | (refine k _ _ (by unfold f_worth; rw [if_pos (by unfold ok_worth okc; omega), if_pos hz, if_neg (by omega), if_pos (by omega), e67, e84, e81]) ?_
                          unfold t_worth
                          rw [if_pos (by unfold ok_worth okc; omega), if_pos hz, if_neg (by omega), if_pos (by omega)]
                          exact mp_mk hn hA hg hV)
                       | (refine k _ _ (by unfold f_worth; rw [if_pos (by unfold ok_worth okc; omega), if_pos hz, if_neg (by omega), if_neg (by omega), e67, e84, e81, e103]) ?_
                          unfold t_worth
                          rw [if_pos (by unfold ok_worth okc; omega), if_pos hz, if_neg (by omega), if_neg (by omega)]
                          exact mp_mk hn hA hg hV)))
             · first
               | (exfalso; omega)
               | (refine aw_aload_n cx 77 dX5_worth_76 rfl rfl ?_
                  refine aw_aload_n cx 78 dX5_worth_77 rfl rfl ?_
                  refine aw_iconst cx 79 dX5_worth_78 rfl ?_
                  refine aw_iload_n cx 80 dX5_worth_79 rfl rfl ?_
                  refine aw_ishl cx 81 dX5_worth_80 rfl ?_
                  refine aw_V1v cx 84 mX5_hull (ci := 4) dX5_worth_81 rfl okmX5_hull lkX5_92 (by first | exact mm_0 | exact mm_1 | exact mm_2 | exact mm_3 | exact mm_4 | exact mm_5 | exact mm_6 | exact mm_7 | exact mm_8 | exact mm_9) ⟨rfl, by decide⟩ (zz_rc0 mX5_worth hRm hNS rfl rfl) (Nat.le_of_ble_eq_true rfl) ?_
                  refine s_X5_hull hn hA hg hP hO (by assumption) (by assumption) (fun v81 e81 => ⟨_, rfl, ?_⟩)
                  refine aw_V1v cx 87 mX5_orderOf (ci := 4) dX5_worth_84 rfl okmX5_orderOf lkX5_95 (by first | exact mm_0 | exact mm_1 | exact mm_2 | exact mm_3 | exact mm_4 | exact mm_5 | exact mm_6 | exact mm_7 | exact mm_8 | exact mm_9) ⟨rfl, by decide⟩ (zz_rc0 mX5_worth hRm hNS rfl rfl) (Nat.le_of_ble_eq_true rfl) ?_
                  refine s_X5_orderOf hn hA hg (fun v84 e84 => ⟨_, rfl, ?_⟩)
                  refine aw_goto cx 91 dX5_worth_87 (by decide) ?_
                  refine aw_imul cx 92 dX5_worth_91 rfl ?_
                  refine aw_istore_n cx 93 3 dX5_worth_92 rfl rfl ⟨Nat.le_of_ble_eq_true rfl, Nat.le_of_ble_eq_true rfl⟩ rfl ?_
                  dsimp only [List.set]
                  refine aw_iload_n cx 94 dX5_worth_93 rfl rfl ?_
                  refine aw_iconst cx 95 dX5_worth_94 rfl ?_
                  refine aw_icmp_ne cx 98 110 dX5_worth_95 rfl (by decide) ⟨⟨by omega, by omega⟩, ⟨by omega, by omega⟩⟩ (fun c95 => ?_) (fun c95 => ?_)
                  · first
                    | (exfalso; omega)
                    | (refine aw_iload_n cx 111 dX5_worth_110 rfl rfl ?_
                       refine aw_ireturn cx dX5_worth_111 ?_
                       refine hRet _ _ True.intro rfl ?_
                       first
                       | (refine k _ _ (by unfold f_worth; rw [if_pos (by unfold ok_worth okc; omega), if_pos hz, if_pos (by omega), e67, Int.mul_one]) ?_
                          unfold t_worth
                          rw [if_pos (by unfold ok_worth okc; omega), if_pos hz, if_pos (by omega)]
                          exact mp_mk hn hA hg hV)
                       | (refine k _ _ (by unfold f_worth; rw [if_pos (by unfold ok_worth okc; omega), if_pos hz, if_neg (by omega), if_pos (by omega), e67, e84, e81]) ?_
                          unfold t_worth
                          rw [if_pos (by unfold ok_worth okc; omega), if_pos hz, if_neg (by omega), if_pos (by omega)]
                          exact mp_mk hn hA hg hV)
                       | (refine k _ _ (by unfold f_worth; rw [if_pos (by unfold ok_worth okc; omega), if_pos hz, if_neg (by omega), if_neg (by omega), e67, e84, e81, e103]) ?_
                          unfold t_worth
                          rw [if_pos (by unfold ok_worth okc; omega), if_pos hz, if_neg (by omega), if_neg (by omega)]
                          exact mp_mk hn hA hg hV))
                  · first
                    | (exfalso; omega)
                    | (refine aw_iload_n cx 99 dX5_worth_98 rfl rfl ?_
                       refine aw_aload_n cx 100 dX5_worth_99 rfl rfl ?_
                       refine aw_iload_n cx 101 dX5_worth_100 rfl rfl ?_
                       refine aw_iload_n cx 102 dX5_worth_101 rfl rfl ?_
                       refine aw_iload_n cx 103 dX5_worth_102 rfl rfl ?_
                       refine aw_V3v cx 106 mX5_numberOf (ci := 4) dX5_worth_103 rfl okmX5_numberOf lkX5_78 (by first | exact mm_0 | exact mm_1 | exact mm_2 | exact mm_3 | exact mm_4 | exact mm_5 | exact mm_6 | exact mm_7 | exact mm_8 | exact mm_9) ⟨rfl, by decide⟩ (zz_rc0 mX5_worth hRm hNS rfl rfl) (Nat.le_of_ble_eq_true rfl) ?_
                       refine s_X5_numberOf hn hA hg hP ⟨by omega, by omega⟩ ⟨by omega, by omega⟩ ⟨by omega, by omega⟩ (hO _ (by omega) (by omega) (by omega)) (fun v103 e103 => ⟨_, rfl, ?_⟩)
                       have b103 := nu_b (n := n) (g := g) (by omega)
                       refine aw_iadd cx 107 dX5_worth_106 rfl ?_
                       refine aw_goto cx 111 dX5_worth_107 (by decide) ?_
                       refine aw_ireturn cx dX5_worth_111 ?_
                       refine hRet _ _ True.intro rfl ?_
                       first
                       | (refine k _ _ (by unfold f_worth; rw [if_pos (by unfold ok_worth okc; omega), if_pos hz, if_pos (by omega), e67, Int.mul_one]) ?_
                          unfold t_worth
                          rw [if_pos (by unfold ok_worth okc; omega), if_pos hz, if_pos (by omega)]
                          exact mp_mk hn hA hg hV)
                       | (refine k _ _ (by unfold f_worth; rw [if_pos (by unfold ok_worth okc; omega), if_pos hz, if_neg (by omega), if_pos (by omega), e67, e84, e81]) ?_
                          unfold t_worth
                          rw [if_pos (by unfold ok_worth okc; omega), if_pos hz, if_neg (by omega), if_pos (by omega)]
                          exact mp_mk hn hA hg hV)
                       | (refine k _ _ (by unfold f_worth; rw [if_pos (by unfold ok_worth okc; omega), if_pos hz, if_neg (by omega), if_neg (by omega), e67, e84, e81, e103]) ?_
                          unfold t_worth
                          rw [if_pos (by unfold ok_worth okc; omega), if_pos hz, if_neg (by omega), if_neg (by omega)]
                          exact mp_mk hn hA hg hV))))
      · refine aw_bipush cx 33 dX5_worth_31 rfl (by decide +kernel) ?_
        refine aw_ireturn cx dX5_worth_33 ?_
        refine hRet _ _ True.intro rfl ?_
        refine k _ _ (by unfold f_worth; rw [if_pos (by unfold ok_worth okc; omega), if_neg (by omega)]) ?_
        unfold t_worth
        rw [if_pos (by unfold ok_worth okc; omega), if_neg (by omega)]
        exact (mp_mk hn hA hg hV)
    · refine aw_iconst cx 23 dX5_worth_22 rfl ?_
      refine aw_ireturn cx dX5_worth_23 ?_
      refine hRet _ _ True.intro rfl ?_
      refine k _ _ (by unfold f_worth; rw [if_neg (by unfold ok_worth okc; omega)]) ?_
      unfold t_worth
      rw [if_neg (by unfold ok_worth okc; omega)]
      exact (mp_mk hn hA hg hV)
