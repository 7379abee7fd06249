set_option maxRecDepth 100000 in
set_option maxHeartbeats 4000000 in
theorem s_X5_grown {h : AH} {Q : Option AV → AH → Prop} {n tr : Int} {C K V A B L D T U : Int → Int} {g : Gr} (hn : 1 ≤ n ∧ n ≤ 8) (hA : ag n C g) (hg : rgn n g) (hP : FP n g A B) (hO : ∀ c, 0 ≤ c → c < 5 → c < rk n g → fp n g c ≠ -1) {s : Int} (hs : 0 ≤ s ∧ s < 32) (k : ∀ v, v = gw n g s → Q (some (vI v)) (hmd h n tr C K V A B L D T U)) : MC mX5_grown [vR 20, vI s] (hmd h n tr C K V A B L D T U) Q := by
  refine mc_start mX5_grown RX5 "grown" ⟨rfl, rfl, by decide +kernel⟩ [some (vR 20), some (vI s), none, none, none, none, none, none] ⟨6, rfl⟩ rfl (fun X cx hRm hNS hRet => ?_)
  refine aw_aload_n cx 1 dX5_grown_0 rfl rfl ?_
  refine aw_V0v cx 4 mX5_rank (ci := 4) dX5_grown_1 rfl okmX5_rank lkX5_61 (by first | exact mm_0 | exact mm_1 | exact mm_2 | exact mm_3 | exact mm_4 | exact mm_5 | exact mm_6 | exact mm_7 | exact mm_8 | exact mm_9) ⟨rfl, by decide⟩ (zz_rc0 mX5_grown hRm hNS rfl rfl) (Nat.le_of_ble_eq_true rfl) ?_
  refine s_X5_rank hn hA hg (fun v1 e1 => ⟨_, rfl, ?_⟩)
  have hR := rk_b (n := n) (g := g) (by omega) hg
  refine aw_istore_n cx 5 2 dX5_grown_4 rfl rfl ⟨Nat.le_of_ble_eq_true rfl, Nat.le_of_ble_eq_true rfl⟩ rfl ?_
  dsimp only [List.set]
  subst e1
  refine aw_iload_n cx 6 dX5_grown_5 rfl rfl ?_
  refine aw_iconst cx 7 dX5_grown_6 rfl ?_
  refine aw_ior cx 8 dX5_grown_7 rfl ?_
  refine aw_istore_n cx 9 3 dX5_grown_8 rfl rfl ⟨Nat.le_of_ble_eq_true rfl, Nat.le_of_ble_eq_true rfl⟩ rfl ?_
  dsimp only [List.set]
  refine aw_iconst cx 10 dX5_grown_9 rfl ?_
  refine aw_istore cx 12 dX5_grown_10 rfl ⟨Nat.le_of_ble_eq_true rfl, Nat.le_of_ble_eq_true rfl⟩ rfl ?_
  dsimp only [List.set]
  have lp12 : ∀ (kf : Nat) (i v : Int), (rk n g - i < (kf : Int)) → (0 ≤ i ∧ i ≤ rk n g) → (0 ≤ v ∧ v < 32) → v = gwi n g s (rk n g) i (zz_or s 1) → AW X 12 [some (vR 20), some (vI (s)), some (vI (rk n g)), some (vI (v)), some (vI (i)), none, none, none] [] (hmd h n tr C K V A B L D T U) := by
    intro kf
    induction kf with
    | zero =>
      intro i v hk hi hv he
      exfalso
      omega
    | succ kf ih12 =>
      intro i v hk hi hv he
      refine aw_iload cx 14 dX5_grown_12 rfl rfl ?_
      refine aw_iload_n cx 15 dX5_grown_14 rfl rfl ?_
      refine aw_icmp_ge cx 18 110 dX5_grown_15 rfl (by decide) ⟨⟨by omega, by omega⟩, ⟨by omega, by omega⟩⟩ (fun c15 => ?_) (fun c15 => ?_)
      · refine aw_iload_n cx 111 dX5_grown_110 rfl rfl ?_
        refine aw_ireturn cx dX5_grown_111 ?_
        refine hRet _ _ True.intro rfl ?_
        exact k _ (by rw [he, show i = rk n g by omega]; rfl)
      · refine aw_iconst cx 19 dX5_grown_18 rfl ?_
        refine aw_istore cx 21 dX5_grown_19 rfl ⟨Nat.le_of_ble_eq_true rfl, Nat.le_of_ble_eq_true rfl⟩ rfl ?_
        dsimp only [List.set]
        have lp21 : ∀ (kf : Nat) (j v1 : Int), (rk n g - j < (kf : Int)) → (0 ≤ j ∧ j ≤ rk n g) → (0 ≤ v1 ∧ v1 < 32) → v1 = gwj n g s i (rk n g) j v → AW X 21 [some (vR 20), some (vI (s)), some (vI (rk n g)), some (vI (v1)), some (vI (i)), some (vI (j)), none, none] [] (hmd h n tr C K V A B L D T U) := by
          intro kf
          induction kf with
          | zero =>
            intro j v1 hk hj hv1 he1
            exfalso
            omega
          | succ kf ih21 =>
            intro j v1 hk hj hv1 he1
            refine aw_iload cx 23 dX5_grown_21 rfl rfl ?_
            refine aw_iload_n cx 24 dX5_grown_23 rfl rfl ?_
            refine aw_icmp_ge cx 27 104 dX5_grown_24 rfl (by decide) ⟨⟨by omega, by omega⟩, ⟨by omega, by omega⟩⟩ (fun c24 => ?_) (fun c24 => ?_)
            · refine aw_iinc cx 107 dX5_grown_104 rfl rfl (Nat.le_of_ble_eq_true rfl) rfl ?_
              dsimp only [List.set]
              refine aw_goto cx 12 dX5_grown_107 (by decide) ?_
              exact aw_weak (ih12 (i + 1) v1 (by omega) ⟨by omega, by omega⟩ hv1 (by rw [gwi_s hi.1, ← he, he1, show j = rk n g by omega])) (by simp [zz_le])
            · refine aw_iconst cx 28 dX5_grown_27 rfl ?_
              refine aw_istore cx 30 dX5_grown_28 rfl ⟨Nat.le_of_ble_eq_true rfl, Nat.le_of_ble_eq_true rfl⟩ rfl ?_
              dsimp only [List.set]
              have lp30 : ∀ (kf : Nat) (k1 v2 : Int), (rk n g - k1 < (kf : Int)) → (0 ≤ k1 ∧ k1 ≤ rk n g) → (0 ≤ v2 ∧ v2 < 32) → v2 = gwk n g s i j k1 v1 → AW X 30 [some (vR 20), some (vI (s)), some (vI (rk n g)), some (vI (v2)), some (vI (i)), some (vI (j)), some (vI (k1)), none] [] (hmd h n tr C K V A B L D T U) := by
                intro kf
                induction kf with
                | zero =>
                  intro k1 v2 hk hk1 hv2 he2
                  exfalso
                  omega
                | succ kf ih30 =>
                  intro k1 v2 hk hk1 hv2 he2
                  refine aw_iload cx 32 dX5_grown_30 rfl rfl ?_
                  refine aw_iload_n cx 33 dX5_grown_32 rfl rfl ?_
                  refine aw_icmp_ge cx 36 98 dX5_grown_33 rfl (by decide) ⟨⟨by omega, by omega⟩, ⟨by omega, by omega⟩⟩ (fun c33 => ?_) (fun c33 => ?_)
                  · refine aw_iinc cx 101 dX5_grown_98 rfl rfl (Nat.le_of_ble_eq_true rfl) rfl ?_
                    dsimp only [List.set]
                    refine aw_goto cx 21 dX5_grown_101 (by decide) ?_
                    exact aw_weak (ih21 (j + 1) v2 (by omega) ⟨by omega, by omega⟩ hv2 (by rw [gwj_s hj.1, ← he1, he2, show k1 = rk n g by omega])) (by simp [zz_le])
                  · refine aw_iload_n cx 37 dX5_grown_36 rfl rfl ?_
                    refine aw_iload cx 39 dX5_grown_37 rfl rfl ?_
                    refine aw_ishr cx 40 dX5_grown_39 rfl ?_
                    refine aw_iconst cx 41 dX5_grown_40 rfl ?_
                    refine aw_iand cx 42 dX5_grown_41 rfl ?_
                    refine aw_iconst cx 43 dX5_grown_42 rfl ?_
                    refine aw_icmp_ne cx 46 73 dX5_grown_43 rfl (by decide) ⟨and_r _ _, by omega, by omega⟩ (fun c43 => ?_) (fun c43 => ?_)
                    · refine aw_iconst cx 74 dX5_grown_73 rfl ?_
                      refine aw_istore cx 76 dX5_grown_74 rfl ⟨Nat.le_of_ble_eq_true rfl, Nat.le_of_ble_eq_true rfl⟩ rfl ?_
                      dsimp only [List.set]
                      refine aw_iload_n cx 77 dX5_grown_76 rfl rfl ?_
                      refine aw_iload cx 79 dX5_grown_77 rfl rfl ?_
                      refine aw_if_eq cx 82 89 dX5_grown_79 rfl (by decide) ⟨by omega, by omega⟩ (fun c79 => ?_) (fun c79 => ?_)
                      · first
                        | (exfalso; omega)
                        | (refine aw_iconst cx 90 dX5_grown_89 rfl ?_
                           refine aw_ior cx 91 dX5_grown_90 rfl ?_
                           refine aw_istore_n cx 92 3 dX5_grown_91 rfl rfl ⟨Nat.le_of_ble_eq_true rfl, Nat.le_of_ble_eq_true rfl⟩ rfl ?_
                           dsimp only [List.set]
                           refine aw_iinc cx 95 dX5_grown_92 rfl rfl (Nat.le_of_ble_eq_true rfl) rfl ?_
                           dsimp only [List.set]
                           refine aw_goto cx 30 dX5_grown_95 (by decide) ?_
                           first
                           | exact aw_weak (ih30 (k1 + 1) (zz_or v2 (zz_shl 1 k1)) (by omega) ⟨by omega, by omega⟩ (or_b hv2 (shl_b ⟨by omega, by omega⟩)) (by rw [gwk_s hk1.1, ← he2, if_pos (show bm s i ∧ bm s j ∧ 0 < nu n g i j k1 from ⟨c43, c53, by omega⟩)])) (by simp [zz_le])
                           | (rw [or_0 hv2]
                              exact aw_weak (ih30 (k1 + 1) v2 (by omega) ⟨by omega, by omega⟩ hv2 (by rw [gwk_s hk1.1, ← he2, if_neg (fun q => by first | (have q1 := q.1; contradiction) | (have q1 := q.2.1; contradiction) | (have q1 := q.2.2; omega))])) (by simp [zz_le])))
                      · first
                        | (exfalso; omega)
                        | (refine aw_iconst cx 83 dX5_grown_82 rfl ?_
                           refine aw_iload cx 85 dX5_grown_83 rfl rfl ?_
                           refine aw_ishl cx 86 dX5_grown_85 rfl ?_
                           refine aw_goto cx 90 dX5_grown_86 (by decide) ?_
                           refine aw_ior cx 91 dX5_grown_90 rfl ?_
                           refine aw_istore_n cx 92 3 dX5_grown_91 rfl rfl ⟨Nat.le_of_ble_eq_true rfl, Nat.le_of_ble_eq_true rfl⟩ rfl ?_
                           dsimp only [List.set]
                           refine aw_iinc cx 95 dX5_grown_92 rfl rfl (Nat.le_of_ble_eq_true rfl) rfl ?_
                           dsimp only [List.set]
                           refine aw_goto cx 30 dX5_grown_95 (by decide) ?_
                           first
                           | exact aw_weak (ih30 (k1 + 1) (zz_or v2 (zz_shl 1 k1)) (by omega) ⟨by omega, by omega⟩ (or_b hv2 (shl_b ⟨by omega, by omega⟩)) (by rw [gwk_s hk1.1, ← he2, if_pos (show bm s i ∧ bm s j ∧ 0 < nu n g i j k1 from ⟨c43, c53, by omega⟩)])) (by simp [zz_le])
                           | (rw [or_0 hv2]
                              exact aw_weak (ih30 (k1 + 1) v2 (by omega) ⟨by omega, by omega⟩ hv2 (by rw [gwk_s hk1.1, ← he2, if_neg (fun q => by first | (have q1 := q.1; contradiction) | (have q1 := q.2.1; contradiction) | (have q1 := q.2.2; omega))])) (by simp [zz_le])))
                    · refine aw_iload_n cx 47 dX5_grown_46 rfl rfl ?_
                      refine aw_iload cx 49 dX5_grown_47 rfl rfl ?_
                      refine aw_ishr cx 50 dX5_grown_49 rfl ?_
                      refine aw_iconst cx 51 dX5_grown_50 rfl ?_
                      refine aw_iand cx 52 dX5_grown_51 rfl ?_
                      refine aw_iconst cx 53 dX5_grown_52 rfl ?_
                      refine aw_icmp_ne cx 56 73 dX5_grown_53 rfl (by decide) ⟨and_r _ _, by omega, by omega⟩ (fun c53 => ?_) (fun c53 => ?_)
                      · refine aw_iconst cx 74 dX5_grown_73 rfl ?_
                        refine aw_istore cx 76 dX5_grown_74 rfl ⟨Nat.le_of_ble_eq_true rfl, Nat.le_of_ble_eq_true rfl⟩ rfl ?_
                        dsimp only [List.set]
                        refine aw_iload_n cx 77 dX5_grown_76 rfl rfl ?_
                        refine aw_iload cx 79 dX5_grown_77 rfl rfl ?_
                        refine aw_if_eq cx 82 89 dX5_grown_79 rfl (by decide) ⟨by omega, by omega⟩ (fun c79 => ?_) (fun c79 => ?_)
                        · first
                          | (exfalso; omega)
                          | (refine aw_iconst cx 90 dX5_grown_89 rfl ?_
                             refine aw_ior cx 91 dX5_grown_90 rfl ?_
                             refine aw_istore_n cx 92 3 dX5_grown_91 rfl rfl ⟨Nat.le_of_ble_eq_true rfl, Nat.le_of_ble_eq_true rfl⟩ rfl ?_
                             dsimp only [List.set]
                             refine aw_iinc cx 95 dX5_grown_92 rfl rfl (Nat.le_of_ble_eq_true rfl) rfl ?_
                             dsimp only [List.set]
                             refine aw_goto cx 30 dX5_grown_95 (by decide) ?_
                             first
                             | exact aw_weak (ih30 (k1 + 1) (zz_or v2 (zz_shl 1 k1)) (by omega) ⟨by omega, by omega⟩ (or_b hv2 (shl_b ⟨by omega, by omega⟩)) (by rw [gwk_s hk1.1, ← he2, if_pos (show bm s i ∧ bm s j ∧ 0 < nu n g i j k1 from ⟨c43, c53, by omega⟩)])) (by simp [zz_le])
                             | (rw [or_0 hv2]
                                exact aw_weak (ih30 (k1 + 1) v2 (by omega) ⟨by omega, by omega⟩ hv2 (by rw [gwk_s hk1.1, ← he2, if_neg (fun q => by first | (have q1 := q.1; contradiction) | (have q1 := q.2.1; contradiction) | (have q1 := q.2.2; omega))])) (by simp [zz_le])))
                        · first
                          | (exfalso; omega)
                          | (refine aw_iconst cx 83 dX5_grown_82 rfl ?_
                             refine aw_iload cx 85 dX5_grown_83 rfl rfl ?_
                             refine aw_ishl cx 86 dX5_grown_85 rfl ?_
                             refine aw_goto cx 90 dX5_grown_86 (by decide) ?_
                             refine aw_ior cx 91 dX5_grown_90 rfl ?_
                             refine aw_istore_n cx 92 3 dX5_grown_91 rfl rfl ⟨Nat.le_of_ble_eq_true rfl, Nat.le_of_ble_eq_true rfl⟩ rfl ?_
                             dsimp only [List.set]
                             refine aw_iinc cx 95 dX5_grown_92 rfl rfl (Nat.le_of_ble_eq_true rfl) rfl ?_
                             dsimp only [List.set]
                             refine aw_goto cx 30 dX5_grown_95 (by decide) ?_
                             first
                             | exact aw_weak (ih30 (k1 + 1) (zz_or v2 (zz_shl 1 k1)) (by omega) ⟨by omega, by omega⟩ (or_b hv2 (shl_b ⟨by omega, by omega⟩)) (by rw [gwk_s hk1.1, ← he2, if_pos (show bm s i ∧ bm s j ∧ 0 < nu n g i j k1 from ⟨c43, c53, by omega⟩)])) (by simp [zz_le])
                             | (rw [or_0 hv2]
                                exact aw_weak (ih30 (k1 + 1) v2 (by omega) ⟨by omega, by omega⟩ hv2 (by rw [gwk_s hk1.1, ← he2, if_neg (fun q => by first | (have q1 := q.1; contradiction) | (have q1 := q.2.1; contradiction) | (have q1 := q.2.2; omega))])) (by simp [zz_le])))
                      · refine aw_aload_n cx 57 dX5_grown_56 rfl rfl ?_
                        refine aw_iload cx 59 dX5_grown_57 rfl rfl ?_
                        refine aw_iload cx 61 dX5_grown_59 rfl rfl ?_
                        refine aw_iload cx 63 dX5_grown_61 rfl rfl ?_
                        refine aw_V3v cx 66 mX5_numberOf (ci := 4) dX5_grown_63 rfl okmX5_numberOf lkX5_78 (by first | exact mm_0 | exact mm_1 | exact mm_2 | exact mm_3 | exact mm_4 | exact mm_5 | exact mm_6 | exact mm_7 | exact mm_8 | exact mm_9) ⟨rfl, by decide⟩ (zz_rc0 mX5_grown hRm hNS rfl rfl) (Nat.le_of_ble_eq_true rfl) ?_
                        refine s_X5_numberOf hn hA hg hP ⟨by omega, by omega⟩ ⟨by omega, by omega⟩ ⟨by omega, by omega⟩ (hO _ (by omega) (by omega) (by omega)) (fun v63 e63 => ⟨_, rfl, ?_⟩)
                        have b63 := nu_b (n := n) (g := g) (by omega)
                        have n63 := b63 i j k1
                        refine aw_if_le cx 69 73 dX5_grown_66 rfl (by decide) ⟨by omega, by omega⟩ (fun c66 => ?_) (fun c66 => ?_)
                        · refine aw_iconst cx 74 dX5_grown_73 rfl ?_
                          refine aw_istore cx 76 dX5_grown_74 rfl ⟨Nat.le_of_ble_eq_true rfl, Nat.le_of_ble_eq_true rfl⟩ rfl ?_
                          dsimp only [List.set]
                          refine aw_iload_n cx 77 dX5_grown_76 rfl rfl ?_
                          refine aw_iload cx 79 dX5_grown_77 rfl rfl ?_
                          refine aw_if_eq cx 82 89 dX5_grown_79 rfl (by decide) ⟨by omega, by omega⟩ (fun c79 => ?_) (fun c79 => ?_)
                          · first
                            | (exfalso; omega)
                            | (refine aw_iconst cx 90 dX5_grown_89 rfl ?_
                               refine aw_ior cx 91 dX5_grown_90 rfl ?_
                               refine aw_istore_n cx 92 3 dX5_grown_91 rfl rfl ⟨Nat.le_of_ble_eq_true rfl, Nat.le_of_ble_eq_true rfl⟩ rfl ?_
                               dsimp only [List.set]
                               refine aw_iinc cx 95 dX5_grown_92 rfl rfl (Nat.le_of_ble_eq_true rfl) rfl ?_
                               dsimp only [List.set]
                               refine aw_goto cx 30 dX5_grown_95 (by decide) ?_
                               first
                               | exact aw_weak (ih30 (k1 + 1) (zz_or v2 (zz_shl 1 k1)) (by omega) ⟨by omega, by omega⟩ (or_b hv2 (shl_b ⟨by omega, by omega⟩)) (by rw [gwk_s hk1.1, ← he2, if_pos (show bm s i ∧ bm s j ∧ 0 < nu n g i j k1 from ⟨c43, c53, by omega⟩)])) (by simp [zz_le])
                               | (rw [or_0 hv2]
                                  exact aw_weak (ih30 (k1 + 1) v2 (by omega) ⟨by omega, by omega⟩ hv2 (by rw [gwk_s hk1.1, ← he2, if_neg (fun q => by first | (have q1 := q.1; contradiction) | (have q1 := q.2.1; contradiction) | (have q1 := q.2.2; omega))])) (by simp [zz_le])))
                          · first
                            | (exfalso; omega)
                            | (refine aw_iconst cx 83 dX5_grown_82 rfl ?_
                               refine aw_iload cx 85 dX5_grown_83 rfl rfl ?_
                               refine aw_ishl cx 86 dX5_grown_85 rfl ?_
                               refine aw_goto cx 90 dX5_grown_86 (by decide) ?_
                               refine aw_ior cx 91 dX5_grown_90 rfl ?_
                               refine aw_istore_n cx 92 3 dX5_grown_91 rfl rfl ⟨Nat.le_of_ble_eq_true rfl, Nat.le_of_ble_eq_true rfl⟩ rfl ?_
                               dsimp only [List.set]
                               refine aw_iinc cx 95 dX5_grown_92 rfl rfl (Nat.le_of_ble_eq_true rfl) rfl ?_
                               dsimp only [List.set]
                               refine aw_goto cx 30 dX5_grown_95 (by decide) ?_
                               first
                               | exact aw_weak (ih30 (k1 + 1) (zz_or v2 (zz_shl 1 k1)) (by omega) ⟨by omega, by omega⟩ (or_b hv2 (shl_b ⟨by omega, by omega⟩)) (by rw [gwk_s hk1.1, ← he2, if_pos (show bm s i ∧ bm s j ∧ 0 < nu n g i j k1 from ⟨c43, c53, by omega⟩)])) (by simp [zz_le])
                               | (rw [or_0 hv2]
                                  exact aw_weak (ih30 (k1 + 1) v2 (by omega) ⟨by omega, by omega⟩ hv2 (by rw [gwk_s hk1.1, ← he2, if_neg (fun q => by first | (have q1 := q.1; contradiction) | (have q1 := q.2.1; contradiction) | (have q1 := q.2.2; omega))])) (by simp [zz_le])))
                        · refine aw_iconst cx 70 dX5_grown_69 rfl ?_
                          refine aw_goto cx 74 dX5_grown_70 (by decide) ?_
                          refine aw_istore cx 76 dX5_grown_74 rfl ⟨Nat.le_of_ble_eq_true rfl, Nat.le_of_ble_eq_true rfl⟩ rfl ?_
                          dsimp only [List.set]
                          refine aw_iload_n cx 77 dX5_grown_76 rfl rfl ?_
                          refine aw_iload cx 79 dX5_grown_77 rfl rfl ?_
                          refine aw_if_eq cx 82 89 dX5_grown_79 rfl (by decide) ⟨by omega, by omega⟩ (fun c79 => ?_) (fun c79 => ?_)
                          · first
                            | (exfalso; omega)
                            | (refine aw_iconst cx 90 dX5_grown_89 rfl ?_
                               refine aw_ior cx 91 dX5_grown_90 rfl ?_
                               refine aw_istore_n cx 92 3 dX5_grown_91 rfl rfl ⟨Nat.le_of_ble_eq_true rfl, Nat.le_of_ble_eq_true rfl⟩ rfl ?_
                               dsimp only [List.set]
                               refine aw_iinc cx 95 dX5_grown_92 rfl rfl (Nat.le_of_ble_eq_true rfl) rfl ?_
                               dsimp only [List.set]
                               refine aw_goto cx 30 dX5_grown_95 (by decide) ?_
                               first
                               | exact aw_weak (ih30 (k1 + 1) (zz_or v2 (zz_shl 1 k1)) (by omega) ⟨by omega, by omega⟩ (or_b hv2 (shl_b ⟨by omega, by omega⟩)) (by rw [gwk_s hk1.1, ← he2, if_pos (show bm s i ∧ bm s j ∧ 0 < nu n g i j k1 from ⟨c43, c53, by omega⟩)])) (by simp [zz_le])
                               | (rw [or_0 hv2]
                                  exact aw_weak (ih30 (k1 + 1) v2 (by omega) ⟨by omega, by omega⟩ hv2 (by rw [gwk_s hk1.1, ← he2, if_neg (fun q => by first | (have q1 := q.1; contradiction) | (have q1 := q.2.1; contradiction) | (have q1 := q.2.2; omega))])) (by simp [zz_le])))
                          · first
                            | (exfalso; omega)
                            | (refine aw_iconst cx 83 dX5_grown_82 rfl ?_
                               refine aw_iload cx 85 dX5_grown_83 rfl rfl ?_
                               refine aw_ishl cx 86 dX5_grown_85 rfl ?_
                               refine aw_goto cx 90 dX5_grown_86 (by decide) ?_
                               refine aw_ior cx 91 dX5_grown_90 rfl ?_
                               refine aw_istore_n cx 92 3 dX5_grown_91 rfl rfl ⟨Nat.le_of_ble_eq_true rfl, Nat.le_of_ble_eq_true rfl⟩ rfl ?_
                               dsimp only [List.set]
                               refine aw_iinc cx 95 dX5_grown_92 rfl rfl (Nat.le_of_ble_eq_true rfl) rfl ?_
                               dsimp only [List.set]
                               refine aw_goto cx 30 dX5_grown_95 (by decide) ?_
                               first
                               | exact aw_weak (ih30 (k1 + 1) (zz_or v2 (zz_shl 1 k1)) (by omega) ⟨by omega, by omega⟩ (or_b hv2 (shl_b ⟨by omega, by omega⟩)) (by rw [gwk_s hk1.1, ← he2, if_pos (show bm s i ∧ bm s j ∧ 0 < nu n g i j k1 from ⟨c43, c53, by omega⟩)])) (by simp [zz_le])
                               | (rw [or_0 hv2]
                                  exact aw_weak (ih30 (k1 + 1) v2 (by omega) ⟨by omega, by omega⟩ hv2 (by rw [gwk_s hk1.1, ← he2, if_neg (fun q => by first | (have q1 := q.1; contradiction) | (have q1 := q.2.1; contradiction) | (have q1 := q.2.2; omega))])) (by simp [zz_le])))
              exact aw_weak (lp30 6 0 v1 (by omega) ⟨by omega, by omega⟩ hv1 rfl) (by simp [zz_le])
        exact aw_weak (lp21 6 0 v (by omega) ⟨by omega, by omega⟩ hv rfl) (by simp [zz_le])
  exact aw_weak (lp12 6 0 _ (by omega) ⟨by omega, by omega⟩ (or_b hs (by decide)) rfl) (by simp [zz_le])
set_option maxRecDepth 100000 in
set_option maxHeartbeats 4000000 in
theorem s_X5_hull {h : AH} {Q : Option AV → AH → Prop} {n tr : Int} {C K V A B L D T U : Int → Int} {g : Gr} (hn : 1 ≤ n ∧ n ≤ 8) (hA : ag n C g) (hg : rgn n g) (hP : FP n g A B) (hO : ∀ c, 0 ≤ c → c < 5 → c < rk n g → fp n g c ≠ -1) {s : Int} (hs : 0 ≤ s ∧ s < 32) (hb : blw n g s) (k : ∀ v, v = hl n g s → Q (some (vI v)) (hmd h n tr C K V A B L D T U)) : MC mX5_hull [vR 20, vI s] (hmd h n tr C K V A B L D T U) Q := by
  refine mc_start mX5_hull RX5 "hull" ⟨rfl, rfl, by decide +kernel⟩ [some (vR 20), some (vI s), none] ⟨1, rfl⟩ rfl (fun X cx hRm hNS hRet => ?_)
  have hR := rk_b (n := n) (g := g) (by omega) hg
  refine aw_iload_n cx 1 dX5_hull_0 rfl rfl ?_
  refine aw_iconst cx 2 dX5_hull_1 rfl ?_
  refine aw_ior cx 3 dX5_hull_2 rfl ?_
  refine aw_istore_n cx 4 2 dX5_hull_3 rfl rfl ⟨Nat.le_of_ble_eq_true rfl, Nat.le_of_ble_eq_true rfl⟩ rfl ?_
  dsimp only [List.set]
  have lp4 : ∀ (kf : Nat) (v m : Int), (6 - m < (kf : Int)) → (0 ≤ m ∧ m ≤ 5) → v = it n g s m → AW X 4 [some (vR 20), some (vI (s)), some (vI (v))] [] (hmd h n tr C K V A B L D T U) := by
    intro kf
    induction kf with
    | zero =>
      intro v m hk hm he
      exfalso
      omega
    | succ kf ih4 =>
      intro v m hk hm he
      obtain ⟨i1, i2, i3, i4⟩ := it_p (m := m) hR hs hb hm.1
      rw [← he] at i1 i2 i3 i4
      have g6 := gw_b (n := n) (g := g) (v := v) hR i1
      have p6 := pc_le (v := v) (R := rk n g) i1 ⟨by omega, by omega⟩ i2
      refine aw_aload_n cx 5 dX5_hull_4 rfl rfl ?_
      refine aw_iload_n cx 6 dX5_hull_5 rfl rfl ?_
      refine aw_V1v cx 9 mX5_grown (ci := 4) dX5_hull_6 rfl okmX5_grown lkX5_86 (by first | exact mm_0 | exact mm_1 | exact mm_2 | exact mm_3 | exact mm_4 | exact mm_5 | exact mm_6 | exact mm_7 | exact mm_8 | exact mm_9) ⟨rfl, by decide⟩ (zz_rc0 mX5_hull hRm hNS rfl rfl) (Nat.le_of_ble_eq_true rfl) ?_
      refine s_X5_grown hn hA hg hP hO (by omega) (fun v6 e6 => ⟨_, rfl, ?_⟩)
      refine aw_iload_n cx 10 dX5_hull_9 rfl rfl ?_
      refine aw_icmp_eq cx 13 22 dX5_hull_10 rfl (by decide) ⟨by have := g6.1; omega, by omega⟩ (fun c10 => ?_) (fun c10 => ?_)
      · refine aw_iload_n cx 23 dX5_hull_22 rfl rfl ?_
        refine aw_ireturn cx dX5_hull_23 ?_
        refine hRet _ _ True.intro rfl ?_
        exact k _ (by rw [he]; exact hl_it hm (by rw [← he]; omega))
      · refine aw_aload_n cx 14 dX5_hull_13 rfl rfl ?_
        refine aw_iload_n cx 15 dX5_hull_14 rfl rfl ?_
        refine aw_V1v cx 18 mX5_grown (ci := 4) dX5_hull_15 rfl okmX5_grown lkX5_86 (by first | exact mm_0 | exact mm_1 | exact mm_2 | exact mm_3 | exact mm_4 | exact mm_5 | exact mm_6 | exact mm_7 | exact mm_8 | exact mm_9) ⟨rfl, by decide⟩ (zz_rc0 mX5_hull hRm hNS rfl rfl) (Nat.le_of_ble_eq_true rfl) ?_
        refine s_X5_grown hn hA hg hP hO (by omega) (fun v15 e15 => ⟨_, rfl, ?_⟩)
        refine aw_istore_n cx 19 2 dX5_hull_18 rfl rfl ⟨Nat.le_of_ble_eq_true rfl, Nat.le_of_ble_eq_true rfl⟩ rfl ?_
        dsimp only [List.set]
        refine aw_goto cx 4 dX5_hull_19 (by decide) ?_
        exact ih4 _ (m + 1) (by omega) ⟨by omega, by omega⟩ (by rw [it_s hm.1, ← he, e15])
  exact lp4 7 _ 0 (by omega) ⟨by omega, by omega⟩ rfl
set_option maxRecDepth 100000 in
set_option maxHeartbeats 4000000 in
theorem s_X5_orderOf {h : AH} {Q : Option AV → AH → Prop} {n tr : Int} {C K V A B L D T U : Int → Int} {g : Gr} (hn : 1 ≤ n ∧ n ≤ 8) (hA : ag n C g) (hg : rgn n g) {s : Int} (k : ∀ v, v = od n g s 5 → Q (some (vI v)) (hmd h n tr C K V A B L D T U)) : MC mX5_orderOf [vR 20, vI s] (hmd h n tr C K V A B L D T U) Q := by
  refine mc_start mX5_orderOf RX5 "orderOf" ⟨rfl, rfl, by decide +kernel⟩ [some (vR 20), some (vI s), none, none] ⟨2, rfl⟩ rfl (fun X cx hRm hNS hRet => ?_)
  refine aw_iconst cx 1 dX5_orderOf_0 rfl ?_
  refine aw_istore_n cx 2 2 dX5_orderOf_1 rfl rfl ⟨Nat.le_of_ble_eq_true rfl, Nat.le_of_ble_eq_true rfl⟩ rfl ?_
  dsimp only [List.set]
  refine aw_iconst cx 3 dX5_orderOf_2 rfl ?_
  refine aw_istore_n cx 4 3 dX5_orderOf_3 rfl rfl ⟨Nat.le_of_ble_eq_true rfl, Nat.le_of_ble_eq_true rfl⟩ rfl ?_
  dsimp only [List.set]
  have lp4 : ∀ (kf : Nat) (i v : Int), (5 - i < (kf : Int)) → (0 ≤ i ∧ i ≤ 5) → v = od n g s i → AW X 4 [some (vR 20), some (vI (s)), some (vI (v)), some (vI (i))] [] (hmd h n tr C K V A B L D T U) := by
    intro kf
    induction kf with
    | zero =>
      intro i v hk hi he
      exfalso
      omega
    | succ kf ih4 =>
      intro i v hk hi he
      refine aw_iload_n cx 5 dX5_orderOf_4 rfl rfl ?_
      refine aw_iconst cx 6 dX5_orderOf_5 rfl ?_
      refine aw_icmp_ge cx 9 36 dX5_orderOf_6 rfl (by decide) ⟨⟨by omega, by omega⟩, ⟨by omega, by omega⟩⟩ (fun c6 => ?_) (fun c6 => ?_)
      · refine aw_iload_n cx 37 dX5_orderOf_36 rfl rfl ?_
        refine aw_ireturn cx dX5_orderOf_37 ?_
        refine hRet _ _ True.intro rfl ?_
        exact k _ (by rw [he, show i = 5 by omega])
      · refine aw_iload_n cx 10 dX5_orderOf_9 rfl rfl ?_
        refine aw_iload_n cx 11 dX5_orderOf_10 rfl rfl ?_
        refine aw_iload_n cx 12 dX5_orderOf_11 rfl rfl ?_
        refine aw_ishr cx 13 dX5_orderOf_12 rfl ?_
        refine aw_iconst cx 14 dX5_orderOf_13 rfl ?_
        refine aw_iand cx 15 dX5_orderOf_14 rfl ?_
        refine aw_iconst cx 16 dX5_orderOf_15 rfl ?_
        refine aw_icmp_ne cx 19 27 dX5_orderOf_16 rfl (by decide) ⟨and_r _ _, by omega, by omega⟩ (fun c16 => ?_) (fun c16 => ?_)
        · refine aw_iconst cx 28 dX5_orderOf_27 rfl ?_
          refine aw_iadd cx 29 dX5_orderOf_28 rfl ?_
          refine aw_istore_n cx 30 2 dX5_orderOf_29 rfl rfl ⟨Nat.le_of_ble_eq_true rfl, Nat.le_of_ble_eq_true rfl⟩ rfl ?_
          dsimp only [List.set]
          refine aw_iinc cx 33 dX5_orderOf_30 rfl rfl (Nat.le_of_ble_eq_true rfl) rfl ?_
          dsimp only [List.set]
          refine aw_goto cx 4 dX5_orderOf_33 (by decide) ?_
          exact ih4 (i + 1) _ (by omega) ⟨by omega, by omega⟩ (by rw [od_s hi.1]; first | (rw [if_pos (by assumption)]; omega) | (rw [if_neg (by assumption)]; omega))
        · refine aw_aload_n cx 20 dX5_orderOf_19 rfl rfl ?_
          refine aw_iload_n cx 21 dX5_orderOf_20 rfl rfl ?_
          refine aw_V1v cx 24 mX5_degree (ci := 4) dX5_orderOf_21 rfl okmX5_degree lkX5_82 (by first | exact mm_0 | exact mm_1 | exact mm_2 | exact mm_3 | exact mm_4 | exact mm_5 | exact mm_6 | exact mm_7 | exact mm_8 | exact mm_9) ⟨rfl, by decide⟩ (zz_rc0 mX5_orderOf hRm hNS rfl rfl) (Nat.le_of_ble_eq_true rfl) ?_
          refine s_X5_degree hn hA hg ⟨by omega, by omega⟩ (fun v21 e21 => ⟨_, rfl, ?_⟩)
          refine aw_goto cx 28 dX5_orderOf_24 (by decide) ?_
          refine aw_iadd cx 29 dX5_orderOf_28 rfl ?_
          refine aw_istore_n cx 30 2 dX5_orderOf_29 rfl rfl ⟨Nat.le_of_ble_eq_true rfl, Nat.le_of_ble_eq_true rfl⟩ rfl ?_
          dsimp only [List.set]
          refine aw_iinc cx 33 dX5_orderOf_30 rfl rfl (Nat.le_of_ble_eq_true rfl) rfl ?_
          dsimp only [List.set]
          refine aw_goto cx 4 dX5_orderOf_33 (by decide) ?_
          exact ih4 (i + 1) _ (by omega) ⟨by omega, by omega⟩ (by rw [od_s hi.1]; first | (rw [if_pos (by assumption)]; omega) | (rw [if_neg (by assumption)]; omega))
  exact lp4 6 0 0 (by omega) ⟨by omega, by omega⟩ rfl
