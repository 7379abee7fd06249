theorem fz_d {mp c : Int} (h : 1 ≤ c) : fz mp c = dv mp c % 5 := by
  unfold fz
  rw [if_neg (by omega)]
theorem dv_1 (mp : Int) : dv mp 1 = mp := by
  unfold dv
  rw [if_pos rfl]
theorem fz_nx {n a i r : Int} {g : Gr} {D1 : Int → Int} (hi : 1 ≤ i) (fi : fz a i = r % 5) (hD : ∀ y, 1 ≤ y → y < i → D1 y = fz a y ∧ (y < rk n g → fz a y ≠ 0)) (h : i < rk n g → r % 5 ≠ 0) : ∀ y, 1 ≤ y → y < i + 1 → zz_up D1 i (r % 5) y = fz a y ∧ (y < rk n g → fz a y ≠ 0) := fun y y0 y1 => by
  by_cases e : y = i
  · rw [e, zz_up_s, fi]
    exact ⟨rfl, h⟩
  · rw [zz_up_n _ _ e]
    exact hD y y0 (by omega)
theorem of_n {n a i : Int} {g : Gr} (hi : 1 ≤ i ∧ i < rk n g) (h : fz a i = 0) : ¬ ok_fuse n g a := fun q => q.2 i hi.1 hi.2 h
set_option maxRecDepth 100000 in
set_option maxHeartbeats 4000000 in
theorem s_X5_fuse {h : AH} {Q : Option AV → AH → Prop} {n tr : Int} {g : Gr} {V : Int → Int} (hX : MI h n g V tr) {a : Int} (ha : R32 a) (k : ∀ v h', v = f_fuse n g a → MP h h' (n) (g_fuse n g a) (V) (tr) → Q (some (vI v)) h') : MC mX5_fuse [vR 20, vI a] h Q := by
  obtain ⟨C, K, A, B, L, D, T, U, ⟨m0, m1, m2, m3, m4, m5, m6, m7, m8, m9⟩, hn, hA, hg, hV⟩ := hX
  rw [mm_in m0 m1 m2 m3 m4 m5 m6 m7 m8 m9]
  have hR := rk_b (n := n) (g := g) (by omega) hg
  refine mc_start mX5_fuse RX5 "fuse" ⟨rfl, rfl, by decide +kernel⟩ [some (vR 20), some (vI a), none, none, none, none, none] ⟨5, rfl⟩ rfl (fun X cx hRm hNS hRet => ?_)
  refine aw_aload_n cx 1 dX5_fuse_0 rfl rfl ?_
  refine aw_iconst cx 2 dX5_fuse_1 rfl ?_
  refine aw_putfield cx 5 dX5_fuse_2 rfl fdX5_42 (by first | with_reducible exact mm_0 | with_reducible exact mm_1 | with_reducible exact mm_2 | with_reducible exact mm_3 | with_reducible exact mm_4 | with_reducible exact mm_5 | with_reducible exact mm_6 | with_reducible exact mm_7 | with_reducible exact mm_8 | with_reducible exact mm_9) (by exact Nat.le_of_ble_eq_true rfl) rfl ?_
  dsimp only [List.set]
  first | rw [my_0] | rw [my_1] | rw [my_2] | rw [my_3] | rw [my_4] | rw [my_5] | rw [my_6] | rw [my_7] | rw [my_8] | rw [my_9]
  refine aw_aload_n cx 6 dX5_fuse_5 rfl rfl ?_
  refine aw_V0v cx 9 mX5_rank (ci := 4) dX5_fuse_6 rfl okmX5_rank lkX5_61 (by first | with_reducible exact mm_0 | with_reducible exact mm_1 | with_reducible exact mm_2 | with_reducible exact mm_3 | with_reducible exact mm_4 | with_reducible exact mm_5 | with_reducible exact mm_6 | with_reducible exact mm_7 | with_reducible exact mm_8 | with_reducible exact mm_9) ⟨rfl, by decide⟩ (zz_rc0 mX5_fuse hRm hNS rfl rfl) (Nat.le_of_ble_eq_true rfl) ?_
  refine s_X5_rank hn hA hg (fun v6 e6 => ⟨_, rfl, ?_⟩)
  subst e6
  refine aw_istore_n cx 10 2 dX5_fuse_9 rfl rfl ⟨Nat.le_of_ble_eq_true rfl, Nat.le_of_ble_eq_true rfl⟩ rfl ?_
  dsimp only [List.set]
  refine aw_iload_n cx 11 dX5_fuse_10 rfl rfl ?_
  refine aw_iconst cx 12 dX5_fuse_11 rfl ?_
  refine aw_sipush cx 15 dX5_fuse_12 rfl (by decide +kernel) ?_
  refine aw_S3v cx 18 mX5_in dX5_fuse_15 rfl okmX5_in lkX5_45 (zz_rc0 mX5_fuse hRm hNS rfl rfl) (Nat.le_of_ble_eq_true rfl) ?_
  refine s_X5_in (by first | assumption | exact ⟨by omega, by omega⟩) (by first | assumption | exact ⟨by omega, by omega⟩) (by first | assumption | exact ⟨by omega, by omega⟩) (fun v15 e15 => ⟨_, rfl, ?_⟩)
  have z15 : v15 = 0 ∨ v15 = 1 := by omega
  have y15 : v15 = 1 ∨ v15 = 0 := by omega
  refine aw_istore_n cx 19 3 dX5_fuse_18 rfl rfl ⟨Nat.le_of_ble_eq_true rfl, Nat.le_of_ble_eq_true rfl⟩ rfl ?_
  dsimp only [List.set]
  refine aw_iload_n cx 20 dX5_fuse_19 rfl rfl ?_
  refine aw_istore cx 22 dX5_fuse_20 rfl ⟨Nat.le_of_ble_eq_true rfl, Nat.le_of_ble_eq_true rfl⟩ rfl ?_
  dsimp only [List.set]
  refine aw_iconst cx 23 dX5_fuse_22 rfl ?_
  refine aw_istore cx 25 dX5_fuse_23 rfl ⟨Nat.le_of_ble_eq_true rfl, Nat.le_of_ble_eq_true rfl⟩ rfl ?_
  dsimp only [List.set]
  have lp25 : ∀ (kf : Nat) (i w r : Int) (D1 : Int → Int), (5 - i < (kf : Int)) → (1 ≤ i ∧ i ≤ 5) → (w = 0 ∨ w = 1) → (w = 1 → (0 ≤ a ∧ a < 625) ∧ (i ≤ 4 → r = dv a i) ∧ (∀ y, 1 ≤ y → y < i → D1 y = fz a y ∧ (y < rk n g → fz a y ≠ 0))) → (w = 0 → ¬ ok_fuse n g a) → AW X 25 [some (vR 20), some (vI (a)), some (vI (rk n g)), some (vI (w)), some (vI (r)), some (vI (i)), none] [] (hmd h n tr C K V A B L D1 T U) := by
    intro kf
    induction kf with
    | zero =>
      intro i w r D1 hk hi hw hw1 hw0
      exfalso
      omega
    | succ kf ih25 =>
      intro i w r D1 hk hi hw hw1 hw0
      refine aw_iload cx 27 dX5_fuse_25 rfl rfl ?_
      refine aw_iconst cx 28 dX5_fuse_27 rfl ?_
      refine aw_icmp_ge cx 31 80 dX5_fuse_28 rfl (by decide) ⟨⟨by omega, by omega⟩, ⟨by omega, by omega⟩⟩ (fun c28 => ?_) (fun c28 => ?_)
      · refine aw_iload_n cx 81 dX5_fuse_80 rfl rfl ?_
        refine aw_if_ne cx 84 86 dX5_fuse_81 rfl (by decide) ⟨by omega, by omega⟩ (fun c81 => ?_) (fun c81 => ?_)
        · first
          | (exfalso; omega)
          | (obtain ⟨a0, -, hD1⟩ := hw1 (by omega)
             have ok : ok_fuse n g a := ⟨a0, fun c c0 c1 => (hD1 c c0 (by omega)).2 c1⟩
             have hD : ∀ c, 0 ≤ c → c < 5 → (zz_up D1 0 0) c = fz a c := fun c c0 c1 => by
               by_cases e : c = 0
               · rw [e, zz_up_s]
                 unfold fz
                 rw [if_pos rfl]
               · rw [zz_up_n _ _ e]
                 exact (hD1 c (by omega) (by omega)).1
             refine aw_aload_n cx 87 dX5_fuse_86 rfl rfl ?_
             clear hw1 hw0 hw e15 z15 y15
             refine aw_V0v cx 90 mX5_isEven (ci := 4) dX5_fuse_87 rfl okmX5_isEven lkX5_75 (by first | with_reducible exact mm_0 | with_reducible exact mm_1 | with_reducible exact mm_2 | with_reducible exact mm_3 | with_reducible exact mm_4 | with_reducible exact mm_5 | with_reducible exact mm_6 | with_reducible exact mm_7 | with_reducible exact mm_8 | with_reducible exact mm_9) ⟨rfl, by decide⟩ (zz_rc0 mX5_fuse hRm hNS rfl rfl) (Nat.le_of_ble_eq_true rfl) ?_
             refine s_X5_isEven hn hA hg (fun v87 A87 B87 e87 P87 => ⟨_, rfl, ?_⟩)
             refine aw_if_ne cx 93 96 dX5_fuse_90 rfl (by decide) ⟨by omega, by omega⟩ (fun c90 => ?_) (fun c90 => ?_)
             · refine aw_aload_n cx 97 dX5_fuse_96 rfl rfl ?_
               refine aw_getfield cx 100 dX5_fuse_97 rfl fdX5_32 (by first | with_reducible exact mm_0 | with_reducible exact mm_1 | with_reducible exact mm_2 | with_reducible exact mm_3 | with_reducible exact mm_4 | with_reducible exact mm_5 | with_reducible exact mm_6 | with_reducible exact mm_7 | with_reducible exact mm_8 | with_reducible exact mm_9) (by rfl) ?_
               refine aw_iconst cx 101 dX5_fuse_100 rfl ?_
               refine aw_iconst cx 102 dX5_fuse_101 rfl ?_
               refine aw_iastore cx 103 dX5_fuse_102 rfl (by first | with_reducible exact mm_0 | with_reducible exact mm_1 | with_reducible exact mm_2 | with_reducible exact mm_3 | with_reducible exact mm_4 | with_reducible exact mm_5 | with_reducible exact mm_6 | with_reducible exact mm_7 | with_reducible exact mm_8 | with_reducible exact mm_9) ⟨by omega, by omega⟩ (by decide) ?_
               first | rw [my_0] | rw [my_1] | rw [my_2] | rw [my_3] | rw [my_4] | rw [my_5] | rw [my_6] | rw [my_7] | rw [my_8] | rw [my_9]
               have hz : fl n g = 0 := by omega
               clear e87
               generalize zz_up D1 0 0 = D2 at hD ⊢
               refine aw_iconst cx 104 dX5_fuse_103 rfl ?_
               refine aw_istore cx 106 dX5_fuse_104 rfl ⟨Nat.le_of_ble_eq_true rfl, Nat.le_of_ble_eq_true rfl⟩ rfl ?_
               dsimp only [List.set]
               have lp106 : ∀ (kf : Nat) (p : Int) (K1 : Int → Int), (64 - p < (kf : Int)) → (0 ≤ p ∧ p ≤ 64) → (∀ y, 0 ≤ y → y < p → K1 y = C y) → AW X 106 [some (vR 20), some (vI (a)), some (vI (rk n g)), some (vI (w)), some (vI (r)), some (vI (p)), none] [] (hmd h n tr C K1 V A87 B87 L D2 T U) := by
                 intro kf
                 induction kf with
                 | zero =>
                   intro p K1 hk hp hK
                   exfalso
                   omega
                 | succ kf ih106 =>
                   intro p K1 hk hp hK
                   refine aw_iload cx 108 dX5_fuse_106 rfl rfl ?_
                   refine aw_bipush cx 110 dX5_fuse_108 rfl (by decide +kernel) ?_
                   refine aw_icmp_ge cx 113 133 dX5_fuse_110 rfl (by decide) ⟨⟨by omega, by omega⟩, ⟨by omega, by omega⟩⟩ (fun c110 => ?_) (fun c110 => ?_)
                   · refine aw_iconst cx 134 dX5_fuse_133 rfl ?_
                     refine aw_istore cx 136 dX5_fuse_134 rfl ⟨Nat.le_of_ble_eq_true rfl, Nat.le_of_ble_eq_true rfl⟩ rfl ?_
                     dsimp only [List.set]
                     have lp136 : ∀ (kf : Nat) (x : Int) (C1 : Int → Int), (n - x < (kf : Int)) → (0 ≤ x ∧ x ≤ n) → (∀ u v, 0 ≤ u → u < n → 0 ≤ v → v < n → (lx u v x 0 → C1 (8 * u + v) = fz a (g u v)) ∧ (¬ lx u v x 0 → C1 (8 * u + v) = g u v)) → AW X 136 [some (vR 20), some (vI (a)), some (vI (rk n g)), some (vI (w)), some (vI (r)), some (vI (x)), none] [] (hmd h n tr C1 K1 V A87 B87 L D2 T U) := by
                       intro kf
                       induction kf with
                       | zero =>
                         intro x C1 hk hx hC1
                         exfalso
                         omega
                       | succ kf ih136 =>
                         intro x C1 hk hx hC1
                         refine aw_iload cx 138 dX5_fuse_136 rfl rfl ?_
                         refine aw_aload_n cx 139 dX5_fuse_138 rfl rfl ?_
                         refine aw_getfield cx 142 dX5_fuse_139 rfl fdX5_7 (by first | with_reducible exact mm_0 | with_reducible exact mm_1 | with_reducible exact mm_2 | with_reducible exact mm_3 | with_reducible exact mm_4 | with_reducible exact mm_5 | with_reducible exact mm_6 | with_reducible exact mm_7 | with_reducible exact mm_8 | with_reducible exact mm_9) (by rfl) ?_
                         refine aw_icmp_ge cx 145 195 dX5_fuse_142 rfl (by decide) ⟨⟨by omega, by omega⟩, ⟨by omega, by omega⟩⟩ (fun c142 => ?_) (fun c142 => ?_)
                         · have hA3 : ag n C1 (gF a g) := fun u v u0 u1 v0 v1 => (hC1 u v u0 u1 v0 v1).1 (by omega)
                           have hg3 : rgn n (gF a g) := gF_r a0.1
                           refine aw_aload_n cx 196 dX5_fuse_195 rfl rfl ?_
                           refine aw_V0v cx 199 mX5_isEven (ci := 4) dX5_fuse_196 rfl okmX5_isEven lkX5_75 (by first | with_reducible exact mm_0 | with_reducible exact mm_1 | with_reducible exact mm_2 | with_reducible exact mm_3 | with_reducible exact mm_4 | with_reducible exact mm_5 | with_reducible exact mm_6 | with_reducible exact mm_7 | with_reducible exact mm_8 | with_reducible exact mm_9) ⟨rfl, by decide⟩ (zz_rc0 mX5_fuse hRm hNS rfl rfl) (Nat.le_of_ble_eq_true rfl) ?_
                           refine s_X5_isEven hn hA3 hg3 (fun v196 A196 B196 e196 P196 => ⟨_, rfl, ?_⟩)
                           refine aw_if_eq cx 202 204 dX5_fuse_199 rfl (by decide) ⟨by omega, by omega⟩ (fun c199 => ?_) (fun c199 => ?_)
                           · refine aw_iconst cx 205 dX5_fuse_204 rfl ?_
                             refine aw_istore cx 207 dX5_fuse_205 rfl ⟨Nat.le_of_ble_eq_true rfl, Nat.le_of_ble_eq_true rfl⟩ rfl ?_
                             dsimp only [List.set]
                             have lp207 : ∀ (kf : Nat) (p2 : Int) (C4 : Int → Int), (64 - p2 < (kf : Int)) → (0 ≤ p2 ∧ p2 ≤ 64) → (∀ y, 0 ≤ y → y < p2 → C4 y = C y) → AW X 207 [some (vR 20), some (vI (a)), some (vI (rk n g)), some (vI (w)), some (vI (r)), some (vI (p2)), none] [] (hmd h n tr C4 K1 V A196 B196 L D2 T U) := by
                               intro kf
                               induction kf with
                               | zero =>
                                 intro p2 C4 hk hp2 hC4
                                 exfalso
                                 omega
                               | succ kf ih207 =>
                                 intro p2 C4 hk hp2 hC4
                                 refine aw_iload cx 209 dX5_fuse_207 rfl rfl ?_
                                 refine aw_bipush cx 211 dX5_fuse_209 rfl (by decide +kernel) ?_
                                 refine aw_icmp_ge cx 214 234 dX5_fuse_211 rfl (by decide) ⟨⟨by omega, by omega⟩, ⟨by omega, by omega⟩⟩ (fun c211 => ?_) (fun c211 => ?_)
                                 · refine aw_iconst cx 235 dX5_fuse_234 rfl ?_
                                   refine aw_ireturn cx dX5_fuse_235 ?_
                                   refine hRet _ _ True.intro rfl ?_
                                   refine k _ _ (by unfold f_fuse; rw [if_pos ok, if_pos hz, if_neg (by omega)]) ?_
                                   unfold g_fuse
                                   rw [if_neg (fun q9 => by have := q9.2.2; omega)]
                                   exact mp_mk hn (fun u v u0 u1 v0 v1 => (hC4 _ (by omega) (by omega)).trans (hA u v u0 u1 v0 v1)) hg hV
                                 · refine aw_aload_n cx 215 dX5_fuse_214 rfl rfl ?_
                                   refine aw_getfield cx 218 dX5_fuse_215 rfl fdX5_13 (by first | with_reducible exact mm_0 | with_reducible exact mm_1 | with_reducible exact mm_2 | with_reducible exact mm_3 | with_reducible exact mm_4 | with_reducible exact mm_5 | with_reducible exact mm_6 | with_reducible exact mm_7 | with_reducible exact mm_8 | with_reducible exact mm_9) (by rfl) ?_
                                   refine aw_iload cx 220 dX5_fuse_218 rfl rfl ?_
                                   refine aw_aload_n cx 221 dX5_fuse_220 rfl rfl ?_
                                   refine aw_getfield cx 224 dX5_fuse_221 rfl fdX5_17 (by first | with_reducible exact mm_0 | with_reducible exact mm_1 | with_reducible exact mm_2 | with_reducible exact mm_3 | with_reducible exact mm_4 | with_reducible exact mm_5 | with_reducible exact mm_6 | with_reducible exact mm_7 | with_reducible exact mm_8 | with_reducible exact mm_9) (by rfl) ?_
                                   refine aw_iload cx 226 dX5_fuse_224 rfl rfl ?_
                                   refine aw_iaload cx 227 dX5_fuse_226 rfl (by first | with_reducible exact mm_0 | with_reducible exact mm_1 | with_reducible exact mm_2 | with_reducible exact mm_3 | with_reducible exact mm_4 | with_reducible exact mm_5 | with_reducible exact mm_6 | with_reducible exact mm_7 | with_reducible exact mm_8 | with_reducible exact mm_9) ⟨by omega, by omega⟩ (by decide) ?_
                                   refine aw_iastore cx 228 dX5_fuse_227 rfl (by first | with_reducible exact mm_0 | with_reducible exact mm_1 | with_reducible exact mm_2 | with_reducible exact mm_3 | with_reducible exact mm_4 | with_reducible exact mm_5 | with_reducible exact mm_6 | with_reducible exact mm_7 | with_reducible exact mm_8 | with_reducible exact mm_9) ⟨by omega, by omega⟩ (by decide) ?_
                                   first | rw [my_0] | rw [my_1] | rw [my_2] | rw [my_3] | rw [my_4] | rw [my_5] | rw [my_6] | rw [my_7] | rw [my_8] | rw [my_9]
                                   refine aw_iinc cx 231 dX5_fuse_228 rfl rfl (Nat.le_of_ble_eq_true rfl) rfl ?_
                                   dsimp only [List.set]
                                   refine aw_goto cx 207 dX5_fuse_231 (by decide) ?_
                                   exact ih207 (p2 + 1) _ (by omega) ⟨by omega, by omega⟩ (fun y y0 y1 => by
                                     unfold zz_up
                                     by_cases e : y = p2
                                     · rw [if_pos e, e]
                                       exact hK p2 (by omega) (by omega)
                                     · rw [if_neg e]
                                       exact hC4 y y0 (by omega))
                             exact aw_weak (lp207 65 0 C1 (by omega) ⟨by omega, by omega⟩ (fun y y0 y1 => by omega)) (by simp [zz_le])
                           · refine aw_iconst cx 203 dX5_fuse_202 rfl ?_
                             refine aw_ireturn cx dX5_fuse_203 ?_
                             refine hRet _ _ True.intro rfl ?_
                             refine k _ _ (by unfold f_fuse; rw [if_pos ok, if_pos hz, if_pos (by omega)]) ?_
                             unfold g_fuse
                             rw [if_pos ⟨ok, hz, by omega⟩]
                             exact mp_mk hn hA3 hg3 hV
                         · refine aw_iconst cx 146 dX5_fuse_145 rfl ?_
                           refine aw_istore cx 148 dX5_fuse_146 rfl ⟨Nat.le_of_ble_eq_true rfl, Nat.le_of_ble_eq_true rfl⟩ rfl ?_
                           dsimp only [List.set]
                           have lp148 : ∀ (kf : Nat) (y : Int) (C2 : Int → Int), (n - y < (kf : Int)) → (0 ≤ y ∧ y ≤ n) → (∀ u v, 0 ≤ u → u < n → 0 ≤ v → v < n → (lx u v x y → C2 (8 * u + v) = fz a (g u v)) ∧ (¬ lx u v x y → C2 (8 * u + v) = g u v)) → AW X 148 [some (vR 20), some (vI (a)), some (vI (rk n g)), some (vI (w)), some (vI (r)), some (vI (x)), some (vI (y))] [] (hmd h n tr C2 K1 V A87 B87 L D2 T U) := by
                             intro kf
                             induction kf with
                             | zero =>
                               intro y C2 hk hy hC2
                               exfalso
                               omega
                             | succ kf ih148 =>
                               intro y C2 hk hy hC2
                               refine aw_iload cx 150 dX5_fuse_148 rfl rfl ?_
                               refine aw_aload_n cx 151 dX5_fuse_150 rfl rfl ?_
                               refine aw_getfield cx 154 dX5_fuse_151 rfl fdX5_7 (by first | with_reducible exact mm_0 | with_reducible exact mm_1 | with_reducible exact mm_2 | with_reducible exact mm_3 | with_reducible exact mm_4 | with_reducible exact mm_5 | with_reducible exact mm_6 | with_reducible exact mm_7 | with_reducible exact mm_8 | with_reducible exact mm_9) (by rfl) ?_
                               refine aw_icmp_ge cx 157 189 dX5_fuse_154 rfl (by decide) ⟨⟨by omega, by omega⟩, ⟨by omega, by omega⟩⟩ (fun c154 => ?_) (fun c154 => ?_)
                               · refine aw_iinc cx 192 dX5_fuse_189 rfl rfl (Nat.le_of_ble_eq_true rfl) rfl ?_
                                 dsimp only [List.set]
                                 refine aw_goto cx 136 dX5_fuse_192 (by decide) ?_
                                 exact aw_weak (ih136 (x + 1) C2 (by omega) ⟨by omega, by omega⟩ (fun u v u0 u1 v0 v1 => ⟨fun l => (hC2 u v u0 u1 v0 v1).1 (by omega), fun l => (hC2 u v u0 u1 v0 v1).2 (by omega)⟩)) (by simp [zz_le])
                               · refine aw_aload_n cx 158 dX5_fuse_157 rfl rfl ?_
                                 refine aw_getfield cx 161 dX5_fuse_158 rfl fdX5_13 (by first | with_reducible exact mm_0 | with_reducible exact mm_1 | with_reducible exact mm_2 | with_reducible exact mm_3 | with_reducible exact mm_4 | with_reducible exact mm_5 | with_reducible exact mm_6 | with_reducible exact mm_7 | with_reducible exact mm_8 | with_reducible exact mm_9) (by rfl) ?_
                                 refine aw_bipush cx 163 dX5_fuse_161 rfl (by decide +kernel) ?_
                                 refine aw_iload cx 165 dX5_fuse_163 rfl rfl ?_
                                 refine aw_imul cx 166 dX5_fuse_165 rfl ?_
                                 refine aw_iload cx 168 dX5_fuse_166 rfl rfl ?_
                                 refine aw_iadd cx 169 dX5_fuse_168 rfl ?_
                                 refine aw_aload_n cx 170 dX5_fuse_169 rfl rfl ?_
                                 refine aw_getfield cx 173 dX5_fuse_170 rfl fdX5_32 (by first | with_reducible exact mm_0 | with_reducible exact mm_1 | with_reducible exact mm_2 | with_reducible exact mm_3 | with_reducible exact mm_4 | with_reducible exact mm_5 | with_reducible exact mm_6 | with_reducible exact mm_7 | with_reducible exact mm_8 | with_reducible exact mm_9) (by rfl) ?_
                                 refine aw_aload_n cx 174 dX5_fuse_173 rfl rfl ?_
                                 refine aw_iload cx 176 dX5_fuse_174 rfl rfl ?_
                                 refine aw_iload cx 178 dX5_fuse_176 rfl rfl ?_
                                 refine aw_V2v cx 181 mX5_hue (ci := 4) dX5_fuse_178 rfl okmX5_hue lkX5_53 (by first | with_reducible exact mm_0 | with_reducible exact mm_1 | with_reducible exact mm_2 | with_reducible exact mm_3 | with_reducible exact mm_4 | with_reducible exact mm_5 | with_reducible exact mm_6 | with_reducible exact mm_7 | with_reducible exact mm_8 | with_reducible exact mm_9) ⟨rfl, by decide⟩ (zz_rc0 mX5_fuse hRm hNS rfl rfl) (Nat.le_of_ble_eq_true rfl) ?_
                                 refine s_X5_hue ⟨by omega, by omega⟩ ⟨by omega, by omega⟩ (fun v178 e178 => ⟨_, rfl, ?_⟩)
                                 have q178 := (hC2 x y (by omega) (by omega) (by omega) (by omega)).2 (by omega)
                                 have w178 := hg x y (by omega) (by omega) (by omega) (by omega)
                                 refine aw_iaload cx 182 dX5_fuse_181 rfl (by first | with_reducible exact mm_0 | with_reducible exact mm_1 | with_reducible exact mm_2 | with_reducible exact mm_3 | with_reducible exact mm_4 | with_reducible exact mm_5 | with_reducible exact mm_6 | with_reducible exact mm_7 | with_reducible exact mm_8 | with_reducible exact mm_9) ⟨by omega, by omega⟩ (by decide) ?_
                                 refine aw_iastore cx 183 dX5_fuse_182 rfl (by first | with_reducible exact mm_0 | with_reducible exact mm_1 | with_reducible exact mm_2 | with_reducible exact mm_3 | with_reducible exact mm_4 | with_reducible exact mm_5 | with_reducible exact mm_6 | with_reducible exact mm_7 | with_reducible exact mm_8 | with_reducible exact mm_9) ⟨by omega, by omega⟩ (by decide) ?_
                                 first | rw [my_0] | rw [my_1] | rw [my_2] | rw [my_3] | rw [my_4] | rw [my_5] | rw [my_6] | rw [my_7] | rw [my_8] | rw [my_9]
                                 refine aw_iinc cx 186 dX5_fuse_183 rfl rfl (Nat.le_of_ble_eq_true rfl) rfl ?_
                                 dsimp only [List.set]
                                 refine aw_goto cx 148 dX5_fuse_186 (by decide) ?_
                                 exact ih148 (y + 1) _ (by omega) ⟨by omega, by omega⟩ (fun u v u0 u1 v0 v1 => by
                                   rw [up_at ⟨by omega, by omega⟩ ⟨by omega, by omega⟩]
                                   by_cases e : u = x ∧ v = y
                                   · rw [if_pos e, e.1, e.2, e178, q178, hD _ (by omega) (by omega)]
                                     exact ⟨fun _ => rfl, fun l => by exfalso; omega⟩
                                   · rw [if_neg e]
                                     exact ⟨fun l => (hC2 u v u0 u1 v0 v1).1 (by omega), fun l => (hC2 u v u0 u1 v0 v1).2 (by omega)⟩)
                           exact lp148 (n.toNat + 1) 0 C1 (by omega) ⟨by omega, by omega⟩ hC1
                     exact aw_weak (lp136 (n.toNat + 1) 0 C (by omega) ⟨by omega, by omega⟩ (fun u v u0 u1 v0 v1 => ⟨fun l => by exfalso; omega, fun _ => hA u v u0 u1 v0 v1⟩)) (by simp [zz_le])
                   · refine aw_aload_n cx 114 dX5_fuse_113 rfl rfl ?_
                     refine aw_getfield cx 117 dX5_fuse_114 rfl fdX5_17 (by first | with_reducible exact mm_0 | with_reducible exact mm_1 | with_reducible exact mm_2 | with_reducible exact mm_3 | with_reducible exact mm_4 | with_reducible exact mm_5 | with_reducible exact mm_6 | with_reducible exact mm_7 | with_reducible exact mm_8 | with_reducible exact mm_9) (by rfl) ?_
                     refine aw_iload cx 119 dX5_fuse_117 rfl rfl ?_
                     refine aw_aload_n cx 120 dX5_fuse_119 rfl rfl ?_
                     refine aw_getfield cx 123 dX5_fuse_120 rfl fdX5_13 (by first | with_reducible exact mm_0 | with_reducible exact mm_1 | with_reducible exact mm_2 | with_reducible exact mm_3 | with_reducible exact mm_4 | with_reducible exact mm_5 | with_reducible exact mm_6 | with_reducible exact mm_7 | with_reducible exact mm_8 | with_reducible exact mm_9) (by rfl) ?_
                     refine aw_iload cx 125 dX5_fuse_123 rfl rfl ?_
                     refine aw_iaload cx 126 dX5_fuse_125 rfl (by first | with_reducible exact mm_0 | with_reducible exact mm_1 | with_reducible exact mm_2 | with_reducible exact mm_3 | with_reducible exact mm_4 | with_reducible exact mm_5 | with_reducible exact mm_6 | with_reducible exact mm_7 | with_reducible exact mm_8 | with_reducible exact mm_9) ⟨by omega, by omega⟩ (by decide) ?_
                     refine aw_iastore cx 127 dX5_fuse_126 rfl (by first | with_reducible exact mm_0 | with_reducible exact mm_1 | with_reducible exact mm_2 | with_reducible exact mm_3 | with_reducible exact mm_4 | with_reducible exact mm_5 | with_reducible exact mm_6 | with_reducible exact mm_7 | with_reducible exact mm_8 | with_reducible exact mm_9) ⟨by omega, by omega⟩ (by decide) ?_
                     first | rw [my_0] | rw [my_1] | rw [my_2] | rw [my_3] | rw [my_4] | rw [my_5] | rw [my_6] | rw [my_7] | rw [my_8] | rw [my_9]
                     refine aw_iinc cx 130 dX5_fuse_127 rfl rfl (Nat.le_of_ble_eq_true rfl) rfl ?_
                     dsimp only [List.set]
                     refine aw_goto cx 106 dX5_fuse_130 (by decide) ?_
                     exact ih106 (p + 1) _ (by omega) ⟨by omega, by omega⟩ (fun y y0 y1 => by
                       unfold zz_up
                       by_cases e : y = p
                       · rw [if_pos e, e]
                       · rw [if_neg e]
                         exact hK y y0 (by omega))
               exact aw_weak (lp106 65 0 K (by omega) ⟨by omega, by omega⟩ (fun y y0 y1 => by omega)) (by simp [zz_le])
             · refine aw_bipush cx 95 dX5_fuse_93 rfl (by decide +kernel) ?_
               refine aw_ireturn cx dX5_fuse_95 ?_
               refine hRet _ _ True.intro rfl ?_
               refine k _ _ (by unfold f_fuse; rw [if_pos ok, if_neg (by omega)]) ?_
               unfold g_fuse
               rw [if_neg (fun q9 => by have := q9.2.1; omega)]
               exact (mp_mk hn hA hg hV))
        · first
          | (exfalso; omega)
          | (refine aw_iconst cx 85 dX5_fuse_84 rfl ?_
             refine aw_ireturn cx dX5_fuse_85 ?_
             refine hRet _ _ True.intro rfl ?_
             have nf : ¬ ok_fuse n g a := hw0 (by omega)
             refine k _ _ (by unfold f_fuse; rw [if_neg nf]) ?_
             unfold g_fuse
             rw [if_neg (fun q9 => nf q9.1)]
             exact (mp_mk hn hA hg hV))
      · refine aw_iload_n cx 32 dX5_fuse_31 rfl rfl ?_
        refine aw_if_eq cx 35 80 dX5_fuse_32 rfl (by decide) ⟨by omega, by omega⟩ (fun c32 => ?_) (fun c32 => ?_)
        · refine aw_iload_n cx 81 dX5_fuse_80 rfl rfl ?_
          refine aw_if_ne cx 84 86 dX5_fuse_81 rfl (by decide) ⟨by omega, by omega⟩ (fun c81 => ?_) (fun c81 => ?_)
          · first
            | (exfalso; omega)
            | (obtain ⟨a0, -, hD1⟩ := hw1 (by omega)
               have ok : ok_fuse n g a := ⟨a0, fun c c0 c1 => (hD1 c c0 (by omega)).2 c1⟩
               have hD : ∀ c, 0 ≤ c → c < 5 → (zz_up D1 0 0) c = fz a c := fun c c0 c1 => by
                 by_cases e : c = 0
                 · rw [e, zz_up_s]
                   unfold fz
                   rw [if_pos rfl]
                 · rw [zz_up_n _ _ e]
                   exact (hD1 c (by omega) (by omega)).1
               refine aw_aload_n cx 87 dX5_fuse_86 rfl rfl ?_
               clear hw1 hw0 hw e15 z15 y15
               refine aw_V0v cx 90 mX5_isEven (ci := 4) dX5_fuse_87 rfl okmX5_isEven lkX5_75 (by first | with_reducible exact mm_0 | with_reducible exact mm_1 | with_reducible exact mm_2 | with_reducible exact mm_3 | with_reducible exact mm_4 | with_reducible exact mm_5 | with_reducible exact mm_6 | with_reducible exact mm_7 | with_reducible exact mm_8 | with_reducible exact mm_9) ⟨rfl, by decide⟩ (zz_rc0 mX5_fuse hRm hNS rfl rfl) (Nat.le_of_ble_eq_true rfl) ?_
               refine s_X5_isEven hn hA hg (fun v87 A87 B87 e87 P87 => ⟨_, rfl, ?_⟩)
               refine aw_if_ne cx 93 96 dX5_fuse_90 rfl (by decide) ⟨by omega, by omega⟩ (fun c90 => ?_) (fun c90 => ?_)
               · refine aw_aload_n cx 97 dX5_fuse_96 rfl rfl ?_
                 refine aw_getfield cx 100 dX5_fuse_97 rfl fdX5_32 (by first | with_reducible exact mm_0 | with_reducible exact mm_1 | with_reducible exact mm_2 | with_reducible exact mm_3 | with_reducible exact mm_4 | with_reducible exact mm_5 | with_reducible exact mm_6 | with_reducible exact mm_7 | with_reducible exact mm_8 | with_reducible exact mm_9) (by rfl) ?_
                 refine aw_iconst cx 101 dX5_fuse_100 rfl ?_
                 refine aw_iconst cx 102 dX5_fuse_101 rfl ?_
                 refine aw_iastore cx 103 dX5_fuse_102 rfl (by first | with_reducible exact mm_0 | with_reducible exact mm_1 | with_reducible exact mm_2 | with_reducible exact mm_3 | with_reducible exact mm_4 | with_reducible exact mm_5 | with_reducible exact mm_6 | with_reducible exact mm_7 | with_reducible exact mm_8 | with_reducible exact mm_9) ⟨by omega, by omega⟩ (by decide) ?_
                 first | rw [my_0] | rw [my_1] | rw [my_2] | rw [my_3] | rw [my_4] | rw [my_5] | rw [my_6] | rw [my_7] | rw [my_8] | rw [my_9]
                 have hz : fl n g = 0 := by omega
                 clear e87
                 generalize zz_up D1 0 0 = D2 at hD ⊢
                 refine aw_iconst cx 104 dX5_fuse_103 rfl ?_
                 refine aw_istore cx 106 dX5_fuse_104 rfl ⟨Nat.le_of_ble_eq_true rfl, Nat.le_of_ble_eq_true rfl⟩ rfl ?_
                 dsimp only [List.set]
                 have lp106 : ∀ (kf : Nat) (p : Int) (K1 : Int → Int), (64 - p < (kf : Int)) → (0 ≤ p ∧ p ≤ 64) → (∀ y, 0 ≤ y → y < p → K1 y = C y) → AW X 106 [some (vR 20), some (vI (a)), some (vI (rk n g)), some (vI (w)), some (vI (r)), some (vI (p)), none] [] (hmd h n tr C K1 V A87 B87 L D2 T U) := by
                   intro kf
                   induction kf with
                   | zero =>
                     intro p K1 hk hp hK
                     exfalso
                     omega
                   | succ kf ih106 =>
                     intro p K1 hk hp hK
                     refine aw_iload cx 108 dX5_fuse_106 rfl rfl ?_
                     refine aw_bipush cx 110 dX5_fuse_108 rfl (by decide +kernel) ?_
                     refine aw_icmp_ge cx 113 133 dX5_fuse_110 rfl (by decide) ⟨⟨by omega, by omega⟩, ⟨by omega, by omega⟩⟩ (fun c110 => ?_) (fun c110 => ?_)
                     · refine aw_iconst cx 134 dX5_fuse_133 rfl ?_
                       refine aw_istore cx 136 dX5_fuse_134 rfl ⟨Nat.le_of_ble_eq_true rfl, Nat.le_of_ble_eq_true rfl⟩ rfl ?_
                       dsimp only [List.set]
                       have lp136 : ∀ (kf : Nat) (x : Int) (C1 : Int → Int), (n - x < (kf : Int)) → (0 ≤ x ∧ x ≤ n) → (∀ u v, 0 ≤ u → u < n → 0 ≤ v → v < n → (lx u v x 0 → C1 (8 * u + v) = fz a (g u v)) ∧ (¬ lx u v x 0 → C1 (8 * u + v) = g u v)) → AW X 136 [some (vR 20), some (vI (a)), some (vI (rk n g)), some (vI (w)), some (vI (r)), some (vI (x)), none] [] (hmd h n tr C1 K1 V A87 B87 L D2 T U) := by
                         intro kf
                         induction kf with
                         | zero =>
                           intro x C1 hk hx hC1
                           exfalso
                           omega
                         | succ kf ih136 =>
                           intro x C1 hk hx hC1
                           refine aw_iload cx 138 dX5_fuse_136 rfl rfl ?_
                           refine aw_aload_n cx 139 dX5_fuse_138 rfl rfl ?_
                           refine aw_getfield cx 142 dX5_fuse_139 rfl fdX5_7 (by first | with_reducible exact mm_0 | with_reducible exact mm_1 | with_reducible exact mm_2 | with_reducible exact mm_3 | with_reducible exact mm_4 | with_reducible exact mm_5 | with_reducible exact mm_6 | with_reducible exact mm_7 | with_reducible exact mm_8 | with_reducible exact mm_9) (by rfl) ?_
                           refine aw_icmp_ge cx 145 195 dX5_fuse_142 rfl (by decide) ⟨⟨by omega, by omega⟩, ⟨by omega, by omega⟩⟩ (fun c142 => ?_) (fun c142 => ?_)
                           · have hA3 : ag n C1 (gF a g) := fun u v u0 u1 v0 v1 => (hC1 u v u0 u1 v0 v1).1 (by omega)
                             have hg3 : rgn n (gF a g) := gF_r a0.1
                             refine aw_aload_n cx 196 dX5_fuse_195 rfl rfl ?_
                             refine aw_V0v cx 199 mX5_isEven (ci := 4) dX5_fuse_196 rfl okmX5_isEven lkX5_75 (by first | with_reducible exact mm_0 | with_reducible exact mm_1 | with_reducible exact mm_2 | with_reducible exact mm_3 | with_reducible exact mm_4 | with_reducible exact mm_5 | with_reducible exact mm_6 | with_reducible exact mm_7 | with_reducible exact mm_8 | with_reducible exact mm_9) ⟨rfl, by decide⟩ (zz_rc0 mX5_fuse hRm hNS rfl rfl) (Nat.le_of_ble_eq_true rfl) ?_
                             refine s_X5_isEven hn hA3 hg3 (fun v196 A196 B196 e196 P196 => ⟨_, rfl, ?_⟩)
                             refine aw_if_eq cx 202 204 dX5_fuse_199 rfl (by decide) ⟨by omega, by omega⟩ (fun c199 => ?_) (fun c199 => ?_)
                             · refine aw_iconst cx 205 dX5_fuse_204 rfl ?_
                               refine aw_istore cx 207 dX5_fuse_205 rfl ⟨Nat.le_of_ble_eq_true rfl, Nat.le_of_ble_eq_true rfl⟩ rfl ?_
                               dsimp only [List.set]
                               have lp207 : ∀ (kf : Nat) (p2 : Int) (C4 : Int → Int), (64 - p2 < (kf : Int)) → (0 ≤ p2 ∧ p2 ≤ 64) → (∀ y, 0 ≤ y → y < p2 → C4 y = C y) → AW X 207 [some (vR 20), some (vI (a)), some (vI (rk n g)), some (vI (w)), some (vI (r)), some (vI (p2)), none] [] (hmd h n tr C4 K1 V A196 B196 L D2 T U) := by
                                 intro kf
                                 induction kf with
                                 | zero =>
                                   intro p2 C4 hk hp2 hC4
                                   exfalso
                                   omega
                                 | succ kf ih207 =>
                                   intro p2 C4 hk hp2 hC4
                                   refine aw_iload cx 209 dX5_fuse_207 rfl rfl ?_
                                   refine aw_bipush cx 211 dX5_fuse_209 rfl (by decide +kernel) ?_
                                   refine aw_icmp_ge cx 214 234 dX5_fuse_211 rfl (by decide) ⟨⟨by omega, by omega⟩, ⟨by omega, by omega⟩⟩ (fun c211 => ?_) (fun c211 => ?_)
                                   · refine aw_iconst cx 235 dX5_fuse_234 rfl ?_
                                     refine aw_ireturn cx dX5_fuse_235 ?_
                                     refine hRet _ _ True.intro rfl ?_
                                     refine k _ _ (by unfold f_fuse; rw [if_pos ok, if_pos hz, if_neg (by omega)]) ?_
                                     unfold g_fuse
                                     rw [if_neg (fun q9 => by have := q9.2.2; omega)]
                                     exact mp_mk hn (fun u v u0 u1 v0 v1 => (hC4 _ (by omega) (by omega)).trans (hA u v u0 u1 v0 v1)) hg hV
                                   · refine aw_aload_n cx 215 dX5_fuse_214 rfl rfl ?_
                                     refine aw_getfield cx 218 dX5_fuse_215 rfl fdX5_13 (by first | with_reducible exact mm_0 | with_reducible exact mm_1 | with_reducible exact mm_2 | with_reducible exact mm_3 | with_reducible exact mm_4 | with_reducible exact mm_5 | with_reducible exact mm_6 | with_reducible exact mm_7 | with_reducible exact mm_8 | with_reducible exact mm_9) (by rfl) ?_
                                     refine aw_iload cx 220 dX5_fuse_218 rfl rfl ?_
                                     refine aw_aload_n cx 221 dX5_fuse_220 rfl rfl ?_
                                     refine aw_getfield cx 224 dX5_fuse_221 rfl fdX5_17 (by first | with_reducible exact mm_0 | with_reducible exact mm_1 | with_reducible exact mm_2 | with_reducible exact mm_3 | with_reducible exact mm_4 | with_reducible exact mm_5 | with_reducible exact mm_6 | with_reducible exact mm_7 | with_reducible exact mm_8 | with_reducible exact mm_9) (by rfl) ?_
                                     refine aw_iload cx 226 dX5_fuse_224 rfl rfl ?_
                                     refine aw_iaload cx 227 dX5_fuse_226 rfl (by first | with_reducible exact mm_0 | with_reducible exact mm_1 | with_reducible exact mm_2 | with_reducible exact mm_3 | with_reducible exact mm_4 | with_reducible exact mm_5 | with_reducible exact mm_6 | with_reducible exact mm_7 | with_reducible exact mm_8 | with_reducible exact mm_9) ⟨by omega, by omega⟩ (by decide) ?_
                                     refine aw_iastore cx 228 dX5_fuse_227 rfl (by first | with_reducible exact mm_0 | with_reducible exact mm_1 | with_reducible exact mm_2 | with_reducible exact mm_3 | with_reducible exact mm_4 | with_reducible exact mm_5 | with_reducible exact mm_6 | with_reducible exact mm_7 | with_reducible exact mm_8 | with_reducible exact mm_9) ⟨by omega, by omega⟩ (by decide) ?_
                                     first | rw [my_0] | rw [my_1] | rw [my_2] | rw [my_3] | rw [my_4] | rw [my_5] | rw [my_6] | rw [my_7] | rw [my_8] | rw [my_9]
                                     refine aw_iinc cx 231 dX5_fuse_228 rfl rfl (Nat.le_of_ble_eq_true rfl) rfl ?_
                                     dsimp only [List.set]
                                     refine aw_goto cx 207 dX5_fuse_231 (by decide) ?_
                                     exact ih207 (p2 + 1) _ (by omega) ⟨by omega, by omega⟩ (fun y y0 y1 => by
                                       unfold zz_up
                                       by_cases e : y = p2
                                       · rw [if_pos e, e]
                                         exact hK p2 (by omega) (by omega)
                                       · rw [if_neg e]
                                         exact hC4 y y0 (by omega))
                               exact aw_weak (lp207 65 0 C1 (by omega) ⟨by omega, by omega⟩ (fun y y0 y1 => by omega)) (by simp [zz_le])
                             · refine aw_iconst cx 203 dX5_fuse_202 rfl ?_
                               refine aw_ireturn cx dX5_fuse_203 ?_
                               refine hRet _ _ True.intro rfl ?_
                               refine k _ _ (by unfold f_fuse; rw [if_pos ok, if_pos hz, if_pos (by omega)]) ?_
                               unfold g_fuse
                               rw [if_pos ⟨ok, hz, by omega⟩]
                               exact mp_mk hn hA3 hg3 hV
                           · refine aw_iconst cx 146 dX5_fuse_145 rfl ?_
                             refine aw_istore cx 148 dX5_fuse_146 rfl ⟨Nat.le_of_ble_eq_true rfl, Nat.le_of_ble_eq_true rfl⟩ rfl ?_
                             dsimp only [List.set]
                             have lp148 : ∀ (kf : Nat) (y : Int) (C2 : Int → Int), (n - y < (kf : Int)) → (0 ≤ y ∧ y ≤ n) → (∀ u v, 0 ≤ u → u < n → 0 ≤ v → v < n → (lx u v x y → C2 (8 * u + v) = fz a (g u v)) ∧ (¬ lx u v x y → C2 (8 * u + v) = g u v)) → AW X 148 [some (vR 20), some (vI (a)), some (vI (rk n g)), some (vI (w)), some (vI (r)), some (vI (x)), some (vI (y))] [] (hmd h n tr C2 K1 V A87 B87 L D2 T U) := by
                               intro kf
                               induction kf with
                               | zero =>
                                 intro y C2 hk hy hC2
                                 exfalso
                                 omega
                               | succ kf ih148 =>
                                 intro y C2 hk hy hC2
                                 refine aw_iload cx 150 dX5_fuse_148 rfl rfl ?_
                                 refine aw_aload_n cx 151 dX5_fuse_150 rfl rfl ?_
                                 refine aw_getfield cx 154 dX5_fuse_151 rfl fdX5_7 (by first | with_reducible exact mm_0 | with_reducible exact mm_1 | with_reducible exact mm_2 | with_reducible exact mm_3 | with_reducible exact mm_4 | with_reducible exact mm_5 | with_reducible exact mm_6 | with_reducible exact mm_7 | with_reducible exact mm_8 | with_reducible exact mm_9) (by rfl) ?_
                                 refine aw_icmp_ge cx 157 189 dX5_fuse_154 rfl (by decide) ⟨⟨by omega, by omega⟩, ⟨by omega, by omega⟩⟩ (fun c154 => ?_) (fun c154 => ?_)
                                 · refine aw_iinc cx 192 dX5_fuse_189 rfl rfl (Nat.le_of_ble_eq_true rfl) rfl ?_
                                   dsimp only [List.set]
                                   refine aw_goto cx 136 dX5_fuse_192 (by decide) ?_
                                   exact aw_weak (ih136 (x + 1) C2 (by omega) ⟨by omega, by omega⟩ (fun u v u0 u1 v0 v1 => ⟨fun l => (hC2 u v u0 u1 v0 v1).1 (by omega), fun l => (hC2 u v u0 u1 v0 v1).2 (by omega)⟩)) (by simp [zz_le])
                                 · refine aw_aload_n cx 158 dX5_fuse_157 rfl rfl ?_
                                   refine aw_getfield cx 161 dX5_fuse_158 rfl fdX5_13 (by first | with_reducible exact mm_0 | with_reducible exact mm_1 | with_reducible exact mm_2 | with_reducible exact mm_3 | with_reducible exact mm_4 | with_reducible exact mm_5 | with_reducible exact mm_6 | with_reducible exact mm_7 | with_reducible exact mm_8 | with_reducible exact mm_9) (by rfl) ?_
                                   refine aw_bipush cx 163 dX5_fuse_161 rfl (by decide +kernel) ?_
                                   refine aw_iload cx 165 dX5_fuse_163 rfl rfl ?_
                                   refine aw_imul cx 166 dX5_fuse_165 rfl ?_
                                   refine aw_iload cx 168 dX5_fuse_166 rfl rfl ?_
                                   refine aw_iadd cx 169 dX5_fuse_168 rfl ?_
                                   refine aw_aload_n cx 170 dX5_fuse_169 rfl rfl ?_
                                   refine aw_getfield cx 173 dX5_fuse_170 rfl fdX5_32 (by first | with_reducible exact mm_0 | with_reducible exact mm_1 | with_reducible exact mm_2 | with_reducible exact mm_3 | with_reducible exact mm_4 | with_reducible exact mm_5 | with_reducible exact mm_6 | with_reducible exact mm_7 | with_reducible exact mm_8 | with_reducible exact mm_9) (by rfl) ?_
                                   refine aw_aload_n cx 174 dX5_fuse_173 rfl rfl ?_
                                   refine aw_iload cx 176 dX5_fuse_174 rfl rfl ?_
                                   refine aw_iload cx 178 dX5_fuse_176 rfl rfl ?_
                                   refine aw_V2v cx 181 mX5_hue (ci := 4) dX5_fuse_178 rfl okmX5_hue lkX5_53 (by first | with_reducible exact mm_0 | with_reducible exact mm_1 | with_reducible exact mm_2 | with_reducible exact mm_3 | with_reducible exact mm_4 | with_reducible exact mm_5 | with_reducible exact mm_6 | with_reducible exact mm_7 | with_reducible exact mm_8 | with_reducible exact mm_9) ⟨rfl, by decide⟩ (zz_rc0 mX5_fuse hRm hNS rfl rfl) (Nat.le_of_ble_eq_true rfl) ?_
                                   refine s_X5_hue ⟨by omega, by omega⟩ ⟨by omega, by omega⟩ (fun v178 e178 => ⟨_, rfl, ?_⟩)
                                   have q178 := (hC2 x y (by omega) (by omega) (by omega) (by omega)).2 (by omega)
                                   have w178 := hg x y (by omega) (by omega) (by omega) (by omega)
                                   refine aw_iaload cx 182 dX5_fuse_181 rfl (by first | with_reducible exact mm_0 | with_reducible exact mm_1 | with_reducible exact mm_2 | with_reducible exact mm_3 | with_reducible exact mm_4 | with_reducible exact mm_5 | with_reducible exact mm_6 | with_reducible exact mm_7 | with_reducible exact mm_8 | with_reducible exact mm_9) ⟨by omega, by omega⟩ (by decide) ?_
                                   refine aw_iastore cx 183 dX5_fuse_182 rfl (by first | with_reducible exact mm_0 | with_reducible exact mm_1 | with_reducible exact mm_2 | with_reducible exact mm_3 | with_reducible exact mm_4 | with_reducible exact mm_5 | with_reducible exact mm_6 | with_reducible exact mm_7 | with_reducible exact mm_8 | with_reducible exact mm_9) ⟨by omega, by omega⟩ (by decide) ?_
                                   first | rw [my_0] | rw [my_1] | rw [my_2] | rw [my_3] | rw [my_4] | rw [my_5] | rw [my_6] | rw [my_7] | rw [my_8] | rw [my_9]
                                   refine aw_iinc cx 186 dX5_fuse_183 rfl rfl (Nat.le_of_ble_eq_true rfl) rfl ?_
                                   dsimp only [List.set]
                                   refine aw_goto cx 148 dX5_fuse_186 (by decide) ?_
                                   exact ih148 (y + 1) _ (by omega) ⟨by omega, by omega⟩ (fun u v u0 u1 v0 v1 => by
                                     rw [up_at ⟨by omega, by omega⟩ ⟨by omega, by omega⟩]
                                     by_cases e : u = x ∧ v = y
                                     · rw [if_pos e, e.1, e.2, e178, q178, hD _ (by omega) (by omega)]
                                       exact ⟨fun _ => rfl, fun l => by exfalso; omega⟩
                                     · rw [if_neg e]
                                       exact ⟨fun l => (hC2 u v u0 u1 v0 v1).1 (by omega), fun l => (hC2 u v u0 u1 v0 v1).2 (by omega)⟩)
                             exact lp148 (n.toNat + 1) 0 C1 (by omega) ⟨by omega, by omega⟩ hC1
                       exact aw_weak (lp136 (n.toNat + 1) 0 C (by omega) ⟨by omega, by omega⟩ (fun u v u0 u1 v0 v1 => ⟨fun l => by exfalso; omega, fun _ => hA u v u0 u1 v0 v1⟩)) (by simp [zz_le])
                     · refine aw_aload_n cx 114 dX5_fuse_113 rfl rfl ?_
                       refine aw_getfield cx 117 dX5_fuse_114 rfl fdX5_17 (by first | with_reducible exact mm_0 | with_reducible exact mm_1 | with_reducible exact mm_2 | with_reducible exact mm_3 | with_reducible exact mm_4 | with_reducible exact mm_5 | with_reducible exact mm_6 | with_reducible exact mm_7 | with_reducible exact mm_8 | with_reducible exact mm_9) (by rfl) ?_
                       refine aw_iload cx 119 dX5_fuse_117 rfl rfl ?_
                       refine aw_aload_n cx 120 dX5_fuse_119 rfl rfl ?_
                       refine aw_getfield cx 123 dX5_fuse_120 rfl fdX5_13 (by first | with_reducible exact mm_0 | with_reducible exact mm_1 | with_reducible exact mm_2 | with_reducible exact mm_3 | with_reducible exact mm_4 | with_reducible exact mm_5 | with_reducible exact mm_6 | with_reducible exact mm_7 | with_reducible exact mm_8 | with_reducible exact mm_9) (by rfl) ?_
                       refine aw_iload cx 125 dX5_fuse_123 rfl rfl ?_
                       refine aw_iaload cx 126 dX5_fuse_125 rfl (by first | with_reducible exact mm_0 | with_reducible exact mm_1 | with_reducible exact mm_2 | with_reducible exact mm_3 | with_reducible exact mm_4 | with_reducible exact mm_5 | with_reducible exact mm_6 | with_reducible exact mm_7 | with_reducible exact mm_8 | with_reducible exact mm_9) ⟨by omega, by omega⟩ (by decide) ?_
                       refine aw_iastore cx 127 dX5_fuse_126 rfl (by first | with_reducible exact mm_0 | with_reducible exact mm_1 | with_reducible exact mm_2 | with_reducible exact mm_3 | with_reducible exact mm_4 | with_reducible exact mm_5 | with_reducible exact mm_6 | with_reducible exact mm_7 | with_reducible exact mm_8 | with_reducible exact mm_9) ⟨by omega, by omega⟩ (by decide) ?_
                       first | rw [my_0] | rw [my_1] | rw [my_2] | rw [my_3] | rw [my_4] | rw [my_5] | rw [my_6] | rw [my_7] | rw [my_8] | rw [my_9]
                       refine aw_iinc cx 130 dX5_fuse_127 rfl rfl (Nat.le_of_ble_eq_true rfl) rfl ?_
                       dsimp only [List.set]
                       refine aw_goto cx 106 dX5_fuse_130 (by decide) ?_
                       exact ih106 (p + 1) _ (by omega) ⟨by omega, by omega⟩ (fun y y0 y1 => by
                         unfold zz_up
                         by_cases e : y = p
                         · rw [if_pos e, e]
                         · rw [if_neg e]
                           exact hK y y0 (by omega))
                 exact aw_weak (lp106 65 0 K (by omega) ⟨by omega, by omega⟩ (fun y y0 y1 => by omega)) (by simp [zz_le])
               · refine aw_bipush cx 95 dX5_fuse_93 rfl (by decide +kernel) ?_
                 refine aw_ireturn cx dX5_fuse_95 ?_
                 refine hRet _ _ True.intro rfl ?_
                 refine k _ _ (by unfold f_fuse; rw [if_pos ok, if_neg (by omega)]) ?_
                 unfold g_fuse
                 rw [if_neg (fun q9 => by have := q9.2.1; omega)]
                 exact (mp_mk hn hA hg hV))
          · first
            | (exfalso; omega)
            | (refine aw_iconst cx 85 dX5_fuse_84 rfl ?_
               refine aw_ireturn cx dX5_fuse_85 ?_
               refine hRet _ _ True.intro rfl ?_
               have nf : ¬ ok_fuse n g a := hw0 (by omega)
               refine k _ _ (by unfold f_fuse; rw [if_neg nf]) ?_
               unfold g_fuse
               rw [if_neg (fun q9 => nf q9.1)]
               exact (mp_mk hn hA hg hV))
        · obtain ⟨a0, hr1, hD1⟩ := hw1 (by omega)
          have ri := hr1 (by omega)
          have rb := dv_b (mp := a) (l := i) a0.1
          have fi := fz_d (mp := a) (c := i) (by omega)
          rw [← ri] at rb fi
          have fb := fz_b (mp := a) (c := i) a0.1
          refine aw_aload_n cx 36 dX5_fuse_35 rfl rfl ?_
          refine aw_getfield cx 39 dX5_fuse_36 rfl fdX5_32 (by first | with_reducible exact mm_0 | with_reducible exact mm_1 | with_reducible exact mm_2 | with_reducible exact mm_3 | with_reducible exact mm_4 | with_reducible exact mm_5 | with_reducible exact mm_6 | with_reducible exact mm_7 | with_reducible exact mm_8 | with_reducible exact mm_9) (by rfl) ?_
          refine aw_iload cx 41 dX5_fuse_39 rfl rfl ?_
          refine aw_iload cx 43 dX5_fuse_41 rfl rfl ?_
          refine aw_iconst cx 44 dX5_fuse_43 rfl ?_
          refine aw_iremN cx 45 dX5_fuse_44 rfl ⟨by omega, by omega, by omega, by omega⟩ ?_
          refine aw_iastore cx 46 dX5_fuse_45 rfl (by first | with_reducible exact mm_0 | with_reducible exact mm_1 | with_reducible exact mm_2 | with_reducible exact mm_3 | with_reducible exact mm_4 | with_reducible exact mm_5 | with_reducible exact mm_6 | with_reducible exact mm_7 | with_reducible exact mm_8 | with_reducible exact mm_9) ⟨by omega, by omega⟩ (by decide) ?_
          first | rw [my_0] | rw [my_1] | rw [my_2] | rw [my_3] | rw [my_4] | rw [my_5] | rw [my_6] | rw [my_7] | rw [my_8] | rw [my_9]
          refine aw_iload cx 48 dX5_fuse_46 rfl rfl ?_
          refine aw_iconst cx 49 dX5_fuse_48 rfl ?_
          refine aw_idivN cx 50 dX5_fuse_49 rfl ⟨by omega, by omega, by omega, by omega⟩ ?_
          refine aw_istore cx 52 dX5_fuse_50 rfl ⟨Nat.le_of_ble_eq_true rfl, Nat.le_of_ble_eq_true rfl⟩ rfl ?_
          dsimp only [List.set]
          refine aw_iload cx 54 dX5_fuse_52 rfl rfl ?_
          refine aw_iload_n cx 55 dX5_fuse_54 rfl rfl ?_
          refine aw_icmp_ge cx 58 68 dX5_fuse_55 rfl (by decide) ⟨⟨by omega, by omega⟩, ⟨by omega, by omega⟩⟩ (fun c55 => ?_) (fun c55 => ?_)
          · refine aw_iconst cx 69 dX5_fuse_68 rfl ?_
            refine aw_goto cx 73 dX5_fuse_69 (by decide) ?_
            refine aw_istore_n cx 74 3 dX5_fuse_73 rfl rfl ⟨Nat.le_of_ble_eq_true rfl, Nat.le_of_ble_eq_true rfl⟩ rfl ?_
            dsimp only [List.set]
            refine aw_iinc cx 77 dX5_fuse_74 rfl rfl (Nat.le_of_ble_eq_true rfl) rfl ?_
            dsimp only [List.set]
            refine aw_goto cx 25 dX5_fuse_77 (by decide) ?_
            first
            | exact aw_weak (ih25 (i + 1) 1 (r / 5) (zz_up D1 i (r % 5)) (by omega) ⟨by omega, by omega⟩ (Or.inr rfl) (fun _ => ⟨a0, fun i4 => by rw [dv_s a0.1 ⟨by omega, by omega⟩, ← ri], fz_nx hi.1 fi hD1 (fun q => by omega)⟩) (fun q => by omega)) (by simp [zz_le])
            | exact aw_weak (ih25 (i + 1) 0 (r / 5) (zz_up D1 i (r % 5)) (by omega) ⟨by omega, by omega⟩ (Or.inl rfl) (fun q => by omega) (fun _ => of_n (i := i) ⟨by omega, by omega⟩ (by omega))) (by simp [zz_le])
          · refine aw_aload_n cx 59 dX5_fuse_58 rfl rfl ?_
            refine aw_getfield cx 62 dX5_fuse_59 rfl fdX5_32 (by first | with_reducible exact mm_0 | with_reducible exact mm_1 | with_reducible exact mm_2 | with_reducible exact mm_3 | with_reducible exact mm_4 | with_reducible exact mm_5 | with_reducible exact mm_6 | with_reducible exact mm_7 | with_reducible exact mm_8 | with_reducible exact mm_9) (by rfl) ?_
            refine aw_iload cx 64 dX5_fuse_62 rfl rfl ?_
            refine aw_iaload cx 65 dX5_fuse_64 rfl (by first | with_reducible exact mm_0 | with_reducible exact mm_1 | with_reducible exact mm_2 | with_reducible exact mm_3 | with_reducible exact mm_4 | with_reducible exact mm_5 | with_reducible exact mm_6 | with_reducible exact mm_7 | with_reducible exact mm_8 | with_reducible exact mm_9) ⟨by omega, by omega⟩ (by decide) ?_
            rw [zz_up_s]
            refine aw_if_le cx 68 72 dX5_fuse_65 rfl (by decide) ⟨by omega, by omega⟩ (fun c65 => ?_) (fun c65 => ?_)
            · refine aw_iconst cx 73 dX5_fuse_72 rfl ?_
              refine aw_istore_n cx 74 3 dX5_fuse_73 rfl rfl ⟨Nat.le_of_ble_eq_true rfl, Nat.le_of_ble_eq_true rfl⟩ rfl ?_
              dsimp only [List.set]
              refine aw_iinc cx 77 dX5_fuse_74 rfl rfl (Nat.le_of_ble_eq_true rfl) rfl ?_
              dsimp only [List.set]
              refine aw_goto cx 25 dX5_fuse_77 (by decide) ?_
              first
              | exact aw_weak (ih25 (i + 1) 1 (r / 5) (zz_up D1 i (r % 5)) (by omega) ⟨by omega, by omega⟩ (Or.inr rfl) (fun _ => ⟨a0, fun i4 => by rw [dv_s a0.1 ⟨by omega, by omega⟩, ← ri], fz_nx hi.1 fi hD1 (fun q => by omega)⟩) (fun q => by omega)) (by simp [zz_le])
              | exact aw_weak (ih25 (i + 1) 0 (r / 5) (zz_up D1 i (r % 5)) (by omega) ⟨by omega, by omega⟩ (Or.inl rfl) (fun q => by omega) (fun _ => of_n (i := i) ⟨by omega, by omega⟩ (by omega))) (by simp [zz_le])
            · refine aw_iconst cx 69 dX5_fuse_68 rfl ?_
              refine aw_goto cx 73 dX5_fuse_69 (by decide) ?_
              refine aw_istore_n cx 74 3 dX5_fuse_73 rfl rfl ⟨Nat.le_of_ble_eq_true rfl, Nat.le_of_ble_eq_true rfl⟩ rfl ?_
              dsimp only [List.set]
              refine aw_iinc cx 77 dX5_fuse_74 rfl rfl (Nat.le_of_ble_eq_true rfl) rfl ?_
              dsimp only [List.set]
              refine aw_goto cx 25 dX5_fuse_77 (by decide) ?_
              first
              | exact aw_weak (ih25 (i + 1) 1 (r / 5) (zz_up D1 i (r % 5)) (by omega) ⟨by omega, by omega⟩ (Or.inr rfl) (fun _ => ⟨a0, fun i4 => by rw [dv_s a0.1 ⟨by omega, by omega⟩, ← ri], fz_nx hi.1 fi hD1 (fun q => by omega)⟩) (fun q => by omega)) (by simp [zz_le])
              | exact aw_weak (ih25 (i + 1) 0 (r / 5) (zz_up D1 i (r % 5)) (by omega) ⟨by omega, by omega⟩ (Or.inl rfl) (fun q => by omega) (fun _ => of_n (i := i) ⟨by omega, by omega⟩ (by omega))) (by simp [zz_le])
  exact aw_weak (lp25 6 1 v15 a D (by omega) ⟨by omega, by omega⟩ (by omega) (fun q => ⟨by omega, fun _ => (dv_1 a).symm, fun y y0 y1 => by exfalso; omega⟩) (fun q q2 => by have := q2.1; omega)) (by simp [zz_le])
