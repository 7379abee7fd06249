theorem em_n {n s : Int} (hn : 0 < n) (hs : 0 ≤ s ∧ s < 2 * n) : (s < n ∧ s % n = s) ∨ (n ≤ s ∧ s % n = s - n) := by
  by_cases h : s < n
  · exact Or.inl ⟨h, Int.emod_eq_of_lt hs.1 h⟩
  · refine Or.inr ⟨by omega, ?_⟩
    rw [show s = (s - n) + n by omega, Int.add_emod_right, Int.emod_eq_of_lt (by omega) (by omega)]
    omega
theorem kR_c (n u v : Int) : (u ≤ v ∧ kR n u v = v - u) ∨ (v < u ∧ kR n u v = v - u + n) := by
  by_cases h : u ≤ v
  · exact Or.inl ⟨h, if_pos h⟩
  · exact Or.inr ⟨by omega, if_neg h⟩
theorem gR_w {n a x y d r w : Int} (hd : 0 ≤ d ∧ d < n) (hx : 0 ≤ x ∧ x < n) (hy : (x + d < n ∧ y = x + d) ∨ (n ≤ x + d ∧ y = x + d - n)) (hr : (d = 0 ∧ r = a) ∨ (1 ≤ d ∧ r = dq a (d - 1))) (hw : (d = 0 ∧ w = 0) ∨ (d ≠ 0 ∧ w = r % 5)) : gR n a x y = w ∧ kR n x y = d := by
  have k := kR_c n x y
  generalize hk : kR n x y = q at k
  have e : q = d := by omega
  refine ⟨?_, e⟩
  unfold gR
  by_cases f : x = y
  · rw [if_pos f]
    omega
  · rw [if_neg f, hk, e]
    rcases hr with hr | hr
    · omega
    · rw [← hr.2]
      omega
theorem kR_u {n x y v d : Int} (hx : 0 ≤ x ∧ x < n) (hv : 0 ≤ v ∧ v < n) (hy : (x + d < n ∧ y = x + d) ∨ (n ≤ x + d ∧ y = x + d - n)) (h : kR n x v = d) : v = y := by
  have k := kR_c n x v
  rw [h] at k
  omega
set_option maxRecDepth 100000 in
set_option maxHeartbeats 4000000 in
theorem s_X5_ring {h : AH} {Q : Option AV → AH → Prop} {n tr : Int} {g : Gr} {V : Int → Int} (hX : MI h n g V tr) {a : Int} (ha : R32 a) (k : ∀ v h', v = f_ring n a → MP h h' (n) (g_ring n g a) (V) (tr) → Q (some (vI v)) h') : MC mX5_ring [vR 20, vI a] h Q := by
  obtain ⟨C, K, A, B, L, D, T, U, ⟨m0, m1, m2, m3, m4, m5, m6, m7, m8, m9⟩, hn, hA, hg, hV⟩ := hX
  rw [mm_in m0 m1 m2 m3 m4 m5 m6 m7 m8 m9]
  have hR := rk_b (n := n) (g := g) (by omega) hg
  refine mc_start mX5_ring RX5 "ring" ⟨rfl, rfl, by decide +kernel⟩ [some (vR 20), some (vI a), none, none, none, none] ⟨4, rfl⟩ rfl (fun X cx hRm hNS hRet => ?_)
  refine aw_aload_n cx 1 dX5_ring_0 rfl rfl ?_
  refine aw_iconst cx 2 dX5_ring_1 rfl ?_
  refine aw_putfield cx 5 dX5_ring_2 rfl fdX5_42 (by first | exact mm_0 | exact mm_1 | exact mm_2 | exact mm_3 | exact mm_4 | exact mm_5 | exact mm_6 | exact mm_7 | exact mm_8 | exact mm_9) (by exact Nat.le_of_ble_eq_true rfl) rfl ?_
  dsimp only [List.set]
  first | rw [my_0] | rw [my_1] | rw [my_2] | rw [my_3] | rw [my_4] | rw [my_5] | rw [my_6] | rw [my_7] | rw [my_8] | rw [my_9]
  refine aw_iconst cx 6 dX5_ring_5 rfl ?_
  refine aw_istore_n cx 7 2 dX5_ring_6 rfl rfl ⟨Nat.le_of_ble_eq_true rfl, Nat.le_of_ble_eq_true rfl⟩ rfl ?_
  dsimp only [List.set]
  refine aw_iconst cx 8 dX5_ring_7 rfl ?_
  refine aw_istore_n cx 9 3 dX5_ring_8 rfl rfl ⟨Nat.le_of_ble_eq_true rfl, Nat.le_of_ble_eq_true rfl⟩ rfl ?_
  dsimp only [List.set]
  have lp9 : ∀ (kf : Nat) (s b : Int), (n - s < (kf : Int)) → (1 ≤ s ∧ s ≤ n) → b = p5 (s - 1) → AW X 9 [some (vR 20), some (vI (a)), some (vI (b)), some (vI (s)), none, none] [] (hmd h n tr C K V A B L D T U) := by
    intro kf
    induction kf with
    | zero =>
      intro s b hk hs hb
      exfalso
      omega
    | succ kf ih9 =>
      intro s b hk hs hb
      refine aw_iload_n cx 10 dX5_ring_9 rfl rfl ?_
      refine aw_aload_n cx 11 dX5_ring_10 rfl rfl ?_
      refine aw_getfield cx 14 dX5_ring_11 rfl fdX5_7 (by first | exact mm_0 | exact mm_1 | exact mm_2 | exact mm_3 | exact mm_4 | exact mm_5 | exact mm_6 | exact mm_7 | exact mm_8 | exact mm_9) (by rfl) ?_
      refine aw_icmp_ge cx 17 27 dX5_ring_14 rfl (by decide) ⟨⟨by omega, by omega⟩, ⟨by omega, by omega⟩⟩ (fun c14 => ?_) (fun c14 => ?_)
      · have hb2 : b = p5 (n - 1) := by rw [hb, show s = n by omega]
        have hb3 := p5_b (n := n - 1) ⟨by omega, by omega⟩
        refine aw_iload_n cx 28 dX5_ring_27 rfl rfl ?_
        refine aw_iconst cx 29 dX5_ring_28 rfl ?_
        refine aw_iload_n cx 30 dX5_ring_29 rfl rfl ?_
        refine aw_iconst cx 31 dX5_ring_30 rfl ?_
        refine aw_isub cx 32 dX5_ring_31 rfl ?_
        refine aw_S3v cx 35 mX5_in dX5_ring_32 rfl okmX5_in lkX5_45 (zz_rc0 mX5_ring hRm hNS rfl rfl) (Nat.le_of_ble_eq_true rfl) ?_
        refine s_X5_in (by first | assumption | exact ⟨by omega, by omega⟩) (by first | assumption | exact ⟨by omega, by omega⟩) (by first | assumption | exact ⟨by omega, by omega⟩) (fun v32 e32 => ⟨_, rfl, ?_⟩)
        have z32 : v32 = 0 ∨ v32 = 1 := by omega
        have y32 : v32 = 1 ∨ v32 = 0 := by omega
        refine aw_if_ne cx 38 40 dX5_ring_35 rfl (by decide) ⟨by omega, by omega⟩ (fun c35 => ?_) (fun c35 => ?_)
        · refine aw_iload_n cx 41 dX5_ring_40 rfl rfl ?_
          refine aw_istore_n cx 42 3 dX5_ring_41 rfl rfl ⟨Nat.le_of_ble_eq_true rfl, Nat.le_of_ble_eq_true rfl⟩ rfl ?_
          dsimp only [List.set]
          refine aw_iconst cx 43 dX5_ring_42 rfl ?_
          refine aw_istore cx 45 dX5_ring_43 rfl ⟨Nat.le_of_ble_eq_true rfl, Nat.le_of_ble_eq_true rfl⟩ rfl ?_
          dsimp only [List.set]
          have lp45 : ∀ (kf : Nat) (d r : Int) (C1 : Int → Int), (n - d < (kf : Int)) → (0 ≤ d ∧ d ≤ n) → ((d = 0 ∧ r = a) ∨ (1 ≤ d ∧ r = dq a (d - 1))) → (0 ≤ r ∧ r ≤ a) → (∀ u v, 0 ≤ u → u < n → 0 ≤ v → v < n → kR n u v < d → C1 (8 * u + v) = gR n a u v) → AW X 45 [some (vR 20), some (vI (a)), some (vI (b)), some (vI (r)), some (vI (d)), none] [] (hmd h n tr C1 K V A B L D T U) := by
            intro kf
            induction kf with
            | zero =>
              intro d r C1 hk hd hr hr2 hC1
              exfalso
              omega
            | succ kf ih45 =>
              intro d r C1 hk hd hr hr2 hC1
              refine aw_iload cx 47 dX5_ring_45 rfl rfl ?_
              refine aw_aload_n cx 48 dX5_ring_47 rfl rfl ?_
              refine aw_getfield cx 51 dX5_ring_48 rfl fdX5_7 (by first | exact mm_0 | exact mm_1 | exact mm_2 | exact mm_3 | exact mm_4 | exact mm_5 | exact mm_6 | exact mm_7 | exact mm_8 | exact mm_9) (by rfl) ?_
              refine aw_icmp_ge cx 54 124 dX5_ring_51 rfl (by decide) ⟨⟨by omega, by omega⟩, ⟨by omega, by omega⟩⟩ (fun c51 => ?_) (fun c51 => ?_)
              · have hA2 : ag n C1 (gR n a) := fun u v u0 u1 v0 v1 => hC1 u v u0 u1 v0 v1 (by have := kR_c n u v; omega)
                refine aw_aload_n cx 125 dX5_ring_124 rfl rfl ?_
                refine aw_V0v cx 128 mX5_failsBy (ci := 4) dX5_ring_125 rfl okmX5_failsBy lkX5_57 (by first | exact mm_0 | exact mm_1 | exact mm_2 | exact mm_3 | exact mm_4 | exact mm_5 | exact mm_6 | exact mm_7 | exact mm_8 | exact mm_9) ⟨rfl, by decide⟩ (zz_rc0 mX5_ring hRm hNS rfl rfl) (Nat.le_of_ble_eq_true rfl) ?_
                refine s_X5_failsBy hn hA2 (gR_r (n := n) (d := a)) (fun v125 A125 B125 e125 P125 => ⟨_, rfl, ?_⟩)
                have b125 := fl_b (n := n) (g := gR n a) hn
                rw [← e125] at b125
                refine aw_if_ne cx 131 135 dX5_ring_128 rfl (by decide) ⟨by omega, by omega⟩ (fun c128 => ?_) (fun c128 => ?_)
                · refine aw_iconst cx 136 dX5_ring_135 rfl ?_
                  refine aw_ireturn cx dX5_ring_136 ?_
                  refine hRet _ _ True.intro rfl ?_
                  refine k _ _ (by unfold f_ring; rw [if_pos (by omega)]; first | (rw [if_pos (by omega)]; done) | (rw [if_neg (by omega)]; done)) ?_
                  unfold g_ring
                  rw [if_pos (by omega)]
                  exact mp_mk hn hA2 gR_r hV
                · refine aw_iconst cx 132 dX5_ring_131 rfl ?_
                  refine aw_goto cx 136 dX5_ring_132 (by decide) ?_
                  refine aw_ireturn cx dX5_ring_136 ?_
                  refine hRet _ _ True.intro rfl ?_
                  refine k _ _ (by unfold f_ring; rw [if_pos (by omega)]; first | (rw [if_pos (by omega)]; done) | (rw [if_neg (by omega)]; done)) ?_
                  unfold g_ring
                  rw [if_pos (by omega)]
                  exact mp_mk hn hA2 gR_r hV
              · refine aw_iconst cx 55 dX5_ring_54 rfl ?_
                refine aw_istore cx 57 dX5_ring_55 rfl ⟨Nat.le_of_ble_eq_true rfl, Nat.le_of_ble_eq_true rfl⟩ rfl ?_
                dsimp only [List.set]
                have lp57 : ∀ (kf : Nat) (x : Int) (C2 : Int → Int), (n - x < (kf : Int)) → (0 ≤ x ∧ x ≤ n) → (∀ u v, 0 ≤ u → u < n → 0 ≤ v → v < n → (kR n u v < d ∨ (kR n u v = d ∧ u < x)) → C2 (8 * u + v) = gR n a u v) → AW X 57 [some (vR 20), some (vI (a)), some (vI (b)), some (vI (r)), some (vI (d)), some (vI (x))] [] (hmd h n tr C2 K V A B L D T U) := by
                  intro kf
                  induction kf with
                  | zero =>
                    intro x C2 hk hx hC2
                    exfalso
                    omega
                  | succ kf ih57 =>
                    intro x C2 hk hx hC2
                    refine aw_iload cx 59 dX5_ring_57 rfl rfl ?_
                    refine aw_aload_n cx 60 dX5_ring_59 rfl rfl ?_
                    refine aw_getfield cx 63 dX5_ring_60 rfl fdX5_7 (by first | exact mm_0 | exact mm_1 | exact mm_2 | exact mm_3 | exact mm_4 | exact mm_5 | exact mm_6 | exact mm_7 | exact mm_8 | exact mm_9) (by rfl) ?_
                    refine aw_icmp_ge cx 66 105 dX5_ring_63 rfl (by decide) ⟨⟨by omega, by omega⟩, ⟨by omega, by omega⟩⟩ (fun c63 => ?_) (fun c63 => ?_)
                    · refine aw_iload_n cx 106 dX5_ring_105 rfl rfl ?_
                      refine aw_iload cx 108 dX5_ring_106 rfl rfl ?_
                      refine aw_if_ne cx 111 115 dX5_ring_108 rfl (by decide) ⟨by omega, by omega⟩ (fun c108 => ?_) (fun c108 => ?_)
                      · refine aw_iconst cx 116 dX5_ring_115 rfl ?_
                        refine aw_idivN cx 117 dX5_ring_116 rfl ⟨by omega, by omega, by omega, by omega⟩ ?_
                        refine aw_istore_n cx 118 3 dX5_ring_117 rfl rfl ⟨Nat.le_of_ble_eq_true rfl, Nat.le_of_ble_eq_true rfl⟩ rfl ?_
                        dsimp only [List.set]
                        refine aw_iinc cx 121 dX5_ring_118 rfl rfl (Nat.le_of_ble_eq_true rfl) rfl ?_
                        dsimp only [List.set]
                        refine aw_goto cx 45 dX5_ring_121 (by decide) ?_
                        first
                        | exact aw_weak (ih45 (d + 1) (r / 1) C2 (by omega) ⟨by omega, by omega⟩ (Or.inr ⟨by omega, by rw [show d + 1 - 1 = 0 by omega]; show r / 1 = a; omega⟩) (by omega) (fun u v u0 u1 v0 v1 l => hC2 u v u0 u1 v0 v1 (by omega))) (by simp [zz_le])
                        | exact aw_weak (ih45 (d + 1) (r / 5) C2 (by omega) ⟨by omega, by omega⟩ (Or.inr ⟨by omega, by rw [show d + 1 - 1 = d - 1 + 1 by omega, dq_s (by omega)]; omega⟩) (by omega) (fun u v u0 u1 v0 v1 l => hC2 u v u0 u1 v0 v1 (by omega))) (by simp [zz_le])
                      · refine aw_iconst cx 112 dX5_ring_111 rfl ?_
                        refine aw_goto cx 116 dX5_ring_112 (by decide) ?_
                        refine aw_idivN cx 117 dX5_ring_116 rfl ⟨by omega, by omega, by omega, by omega⟩ ?_
                        refine aw_istore_n cx 118 3 dX5_ring_117 rfl rfl ⟨Nat.le_of_ble_eq_true rfl, Nat.le_of_ble_eq_true rfl⟩ rfl ?_
                        dsimp only [List.set]
                        refine aw_iinc cx 121 dX5_ring_118 rfl rfl (Nat.le_of_ble_eq_true rfl) rfl ?_
                        dsimp only [List.set]
                        refine aw_goto cx 45 dX5_ring_121 (by decide) ?_
                        first
                        | exact aw_weak (ih45 (d + 1) (r / 1) C2 (by omega) ⟨by omega, by omega⟩ (Or.inr ⟨by omega, by rw [show d + 1 - 1 = 0 by omega]; show r / 1 = a; omega⟩) (by omega) (fun u v u0 u1 v0 v1 l => hC2 u v u0 u1 v0 v1 (by omega))) (by simp [zz_le])
                        | exact aw_weak (ih45 (d + 1) (r / 5) C2 (by omega) ⟨by omega, by omega⟩ (Or.inr ⟨by omega, by rw [show d + 1 - 1 = d - 1 + 1 by omega, dq_s (by omega)]; omega⟩) (by omega) (fun u v u0 u1 v0 v1 l => hC2 u v u0 u1 v0 v1 (by omega))) (by simp [zz_le])
                    · refine aw_aload_n cx 67 dX5_ring_66 rfl rfl ?_
                      refine aw_getfield cx 70 dX5_ring_67 rfl fdX5_13 (by first | exact mm_0 | exact mm_1 | exact mm_2 | exact mm_3 | exact mm_4 | exact mm_5 | exact mm_6 | exact mm_7 | exact mm_8 | exact mm_9) (by rfl) ?_
                      refine aw_bipush cx 72 dX5_ring_70 rfl (by decide +kernel) ?_
                      refine aw_iload cx 74 dX5_ring_72 rfl rfl ?_
                      refine aw_imul cx 75 dX5_ring_74 rfl ?_
                      refine aw_iload cx 77 dX5_ring_75 rfl rfl ?_
                      refine aw_iload cx 79 dX5_ring_77 rfl rfl ?_
                      refine aw_iadd cx 80 dX5_ring_79 rfl ?_
                      refine aw_aload_n cx 81 dX5_ring_80 rfl rfl ?_
                      refine aw_getfield cx 84 dX5_ring_81 rfl fdX5_7 (by first | exact mm_0 | exact mm_1 | exact mm_2 | exact mm_3 | exact mm_4 | exact mm_5 | exact mm_6 | exact mm_7 | exact mm_8 | exact mm_9) (by rfl) ?_
                      refine aw_iremN cx 85 dX5_ring_84 rfl ⟨by omega, by omega, by omega, by omega⟩ ?_
                      obtain ⟨y, ey, hy⟩ : ∃ y, y = (x + d) % n ∧ ((x + d < n ∧ y = x + d) ∨ (n ≤ x + d ∧ y = x + d - n)) := ⟨_, rfl, em_n (by omega) ⟨by omega, by omega⟩⟩
                      rw [← ey]
                      refine aw_iadd cx 86 dX5_ring_85 rfl ?_
                      refine aw_iload cx 88 dX5_ring_86 rfl rfl ?_
                      refine aw_if_ne cx 91 95 dX5_ring_88 rfl (by decide) ⟨by omega, by omega⟩ (fun c88 => ?_) (fun c88 => ?_)
                      · refine aw_iload_n cx 96 dX5_ring_95 rfl rfl ?_
                        refine aw_iconst cx 97 dX5_ring_96 rfl ?_
                        refine aw_iremN cx 98 dX5_ring_97 rfl ⟨by omega, by omega, by omega, by omega⟩ ?_
                        refine aw_iastore cx 99 dX5_ring_98 rfl (by first | exact mm_0 | exact mm_1 | exact mm_2 | exact mm_3 | exact mm_4 | exact mm_5 | exact mm_6 | exact mm_7 | exact mm_8 | exact mm_9) ⟨by omega, by omega⟩ (by decide) ?_
                        first | rw [my_0] | rw [my_1] | rw [my_2] | rw [my_3] | rw [my_4] | rw [my_5] | rw [my_6] | rw [my_7] | rw [my_8] | rw [my_9]
                        refine aw_iinc cx 102 dX5_ring_99 rfl rfl (Nat.le_of_ble_eq_true rfl) rfl ?_
                        dsimp only [List.set]
                        refine aw_goto cx 57 dX5_ring_102 (by decide) ?_
                        exact ih57 (x + 1) _ (by omega) ⟨by omega, by omega⟩ (fun u v u0 u1 v0 v1 l => by
                          have gw2 := gR_w (w := _) ⟨by omega, by omega⟩ ⟨by omega, by omega⟩ hy hr (by first | exact Or.inl ⟨by omega, rfl⟩ | exact Or.inr ⟨by omega, rfl⟩)
                          rw [up_at ⟨by omega, by omega⟩ ⟨by omega, by omega⟩]
                          by_cases e : u = x ∧ v = y
                          · rw [if_pos e, e.1, e.2, gw2.1]
                          · rw [if_neg e]
                            refine hC2 u v u0 u1 v0 v1 ?_
                            rcases l with l | ⟨l, l2⟩
                            · exact Or.inl l
                            · refine Or.inr ⟨l, ?_⟩
                              have q : ¬ u = x := fun q => e ⟨q, kR_u ⟨by omega, by omega⟩ ⟨v0, v1⟩ hy (by rw [← q]; exact l)⟩
                              omega)
                      · refine aw_iconst cx 92 dX5_ring_91 rfl ?_
                        refine aw_goto cx 98 dX5_ring_92 (by decide) ?_
                        refine aw_iastore cx 99 dX5_ring_98 rfl (by first | exact mm_0 | exact mm_1 | exact mm_2 | exact mm_3 | exact mm_4 | exact mm_5 | exact mm_6 | exact mm_7 | exact mm_8 | exact mm_9) ⟨by omega, by omega⟩ (by decide) ?_
                        first | rw [my_0] | rw [my_1] | rw [my_2] | rw [my_3] | rw [my_4] | rw [my_5] | rw [my_6] | rw [my_7] | rw [my_8] | rw [my_9]
                        refine aw_iinc cx 102 dX5_ring_99 rfl rfl (Nat.le_of_ble_eq_true rfl) rfl ?_
                        dsimp only [List.set]
                        refine aw_goto cx 57 dX5_ring_102 (by decide) ?_
                        exact ih57 (x + 1) _ (by omega) ⟨by omega, by omega⟩ (fun u v u0 u1 v0 v1 l => by
                          have gw2 := gR_w (w := _) ⟨by omega, by omega⟩ ⟨by omega, by omega⟩ hy hr (by first | exact Or.inl ⟨by omega, rfl⟩ | exact Or.inr ⟨by omega, rfl⟩)
                          rw [up_at ⟨by omega, by omega⟩ ⟨by omega, by omega⟩]
                          by_cases e : u = x ∧ v = y
                          · rw [if_pos e, e.1, e.2, gw2.1]
                          · rw [if_neg e]
                            refine hC2 u v u0 u1 v0 v1 ?_
                            rcases l with l | ⟨l, l2⟩
                            · exact Or.inl l
                            · refine Or.inr ⟨l, ?_⟩
                              have q : ¬ u = x := fun q => e ⟨q, kR_u ⟨by omega, by omega⟩ ⟨v0, v1⟩ hy (by rw [← q]; exact l)⟩
                              omega)
                exact lp57 (n.toNat + 1) 0 C1 (by omega) ⟨by omega, by omega⟩ (fun u v u0 u1 v0 v1 l => hC1 u v u0 u1 v0 v1 (by omega))
          exact aw_weak (lp45 (n.toNat + 1) 0 a C (by omega) ⟨by omega, by omega⟩ (Or.inl ⟨rfl, rfl⟩) ⟨by omega, by omega⟩ (fun u v u0 u1 v0 v1 l => by exfalso; have := kR_c n u v; omega)) (by simp [zz_le])
        · refine aw_iconst cx 39 dX5_ring_38 rfl ?_
          refine aw_ireturn cx dX5_ring_39 ?_
          refine hRet _ _ True.intro rfl ?_
          refine k _ _ (by unfold f_ring; rw [if_neg (by omega)]) ?_
          unfold g_ring
          rw [if_neg (by omega)]
          exact (mp_mk hn hA hg hV)
      · refine aw_iload_n cx 18 dX5_ring_17 rfl rfl ?_
        refine aw_iconst cx 19 dX5_ring_18 rfl ?_
        refine aw_imul cx 20 dX5_ring_19 rfl ?_
        refine aw_istore_n cx 21 2 dX5_ring_20 rfl rfl ⟨Nat.le_of_ble_eq_true rfl, Nat.le_of_ble_eq_true rfl⟩ rfl ?_
        dsimp only [List.set]
        refine aw_iinc cx 24 dX5_ring_21 rfl rfl (Nat.le_of_ble_eq_true rfl) rfl ?_
        dsimp only [List.set]
        refine aw_goto cx 9 dX5_ring_24 (by decide) ?_
        exact ih9 (s + 1) _ (by omega) ⟨by omega, by omega⟩ (by rw [hb, ← p5_s (by omega), show s - 1 + 1 = s + 1 - 1 by omega])
  exact lp9 9 1 1 (by omega) ⟨by omega, by omega⟩ rfl
