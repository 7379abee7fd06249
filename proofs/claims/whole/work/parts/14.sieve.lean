theorem zz_cmp_r (x y : Int) : R32 (zz_cmp x y) := by
  unfold zz_cmp
  split
  · decide
  · split <;> decide
theorem zz_cmp_gt {x y : Int} : 0 < zz_cmp x y ↔ y < x := by
  unfold zz_cmp
  split
  · constructor <;> intro _ <;> omega
  · split <;> constructor <;> intro _ <;> omega
theorem zz_cmp_le {x y : Int} : zz_cmp x y ≤ 0 ↔ x ≤ y := by
  unfold zz_cmp
  split
  · constructor <;> intro _ <;> omega
  · split <;> constructor <;> intro _ <;> omega
theorem zz_cmp_eq {x y : Int} : zz_cmp x y = 0 ↔ x = y := by
  unfold zz_cmp
  split
  · constructor <;> intro _ <;> omega
  · split <;> constructor <;> intro _ <;> omega
set_option maxRecDepth 100000 in
set_option maxHeartbeats 4000000 in
theorem s_X2_wholeRoot {h : AH} {Q : Option AV → AH → Prop} {d : Int} (hd : 0 ≤ d ∧ d ≤ 40000) (k : ∀ v, ((0 ≤ v ∧ v = rt d ∧ v * v = d) ∨ (v = -1 ∧ rt d * rt d ≠ d)) → Q (some (vI v)) h) : MC mX2_wholeRoot [vI d] h Q := by
  refine mc_start mX2_wholeRoot RX2 "wholeRoot" ⟨rfl, rfl, by decide +kernel⟩ [some (vI d), none] ⟨1, rfl⟩ rfl (fun X cx hRm hNS hRet => ?_)
  refine aw_iconst cx 1 dX2_wholeRoot_0 rfl ?_
  refine aw_istore_n cx 2 1 dX2_wholeRoot_1 rfl rfl ⟨Nat.le_of_ble_eq_true rfl, Nat.le_of_ble_eq_true rfl⟩ rfl ?_
  dsimp only [List.set]
  have lp2 : ∀ (kf : Nat) (q : Int), (201 - q < (kf : Int)) → (0 ≤ q ∧ q ≤ 201) → (∀ s, 0 ≤ s → s < q → s * s ≠ d) → AW X 2 [some (vI d), some (vI q)] [] (h) := by
    intro kf
    induction kf with
    | zero =>
      intro q hk hq hs
      exfalso
      omega
    | succ kf ih2 =>
      intro q hk hq hs
      have hq2 := mb (x := q) (y := q) 201 201 (by omega) (by omega)
      refine aw_iload_n cx 3 dX2_wholeRoot_2 rfl rfl ?_
      refine aw_sipush cx 6 dX2_wholeRoot_3 rfl (by decide +kernel) ?_
      refine aw_icmp_gt cx 9 24 dX2_wholeRoot_6 rfl (by decide) ⟨⟨by omega, by omega⟩, ⟨by omega, by omega⟩⟩ (fun c6 => ?_) (fun c6 => ?_)
      · refine aw_iconst cx 25 dX2_wholeRoot_24 rfl ?_
        refine aw_ireturn cx dX2_wholeRoot_25 ?_
        refine hRet _ _ True.intro rfl ?_
        exact k _ (Or.inr ⟨rfl, hs _ (rt_p hd).1.1 (by have := (rt_p hd).1; omega)⟩)
      · refine aw_iload_n cx 10 dX2_wholeRoot_9 rfl rfl ?_
        refine aw_iload_n cx 11 dX2_wholeRoot_10 rfl rfl ?_
        refine aw_imul cx 12 dX2_wholeRoot_11 rfl ?_
        refine aw_iload_n cx 13 dX2_wholeRoot_12 rfl rfl ?_
        refine aw_icmp_ne cx 16 18 dX2_wholeRoot_13 rfl (by decide) ⟨⟨by omega, by omega⟩, ⟨by omega, by omega⟩⟩ (fun c13 => ?_) (fun c13 => ?_)
        · refine aw_iinc cx 21 dX2_wholeRoot_18 rfl rfl (Nat.le_of_ble_eq_true rfl) rfl ?_
          dsimp only [List.set]
          refine aw_goto cx 2 dX2_wholeRoot_21 (by decide) ?_
          exact ih2 (q + 1) (by omega) ⟨by omega, by omega⟩ (fun s s0 s1 => by
            by_cases e : s = q
            · rw [e]; exact c13
            · exact hs s s0 (by omega))
        · refine aw_iload_n cx 17 dX2_wholeRoot_16 rfl rfl ?_
          refine aw_ireturn cx dX2_wholeRoot_17 ?_
          refine hRet _ _ True.intro rfl ?_
          exact k _ (Or.inl ⟨hq.1, rt_e hd hq.1 c13, c13⟩)
  exact lp2 202 0 (by omega) ⟨by omega, by omega⟩ (fun s s0 s1 => by omega)
set_option maxRecDepth 100000 in
set_option maxHeartbeats 4000000 in
theorem s_X2_breaksBound {h : AH} {Q : Option AV → AH → Prop} {k0 r s : Int} (hk : 0 ≤ k0 ∧ k0 ≤ 200) (hr : -400 ≤ r ∧ r ≤ 400) (hs : -400 ≤ s ∧ s ≤ 400) (k : ∀ b, ((b = 1 ∧ bb k0 r s) ∨ (b = 0 ∧ ¬ bb k0 r s)) → Q (some (vI b)) h) : MC mX2_breaksBound [vI k0, vI r, vI s] h Q := by
  refine mc_start mX2_breaksBound RX2 "breaksBound" ⟨rfl, rfl, by decide +kernel⟩ [some (vI k0), some (vI r), some (vI s)] ⟨0, rfl⟩ rfl (fun X cx hRm hNS hRet => ?_)
  have hb := bb_r hk hr hs
  refine aw_iload_n cx 1 dX2_breaksBound_0 rfl rfl ?_
  refine aw_iconst cx 2 dX2_breaksBound_1 rfl ?_
  refine aw_iadd cx 3 dX2_breaksBound_2 rfl ?_
  refine aw_iload_n cx 4 dX2_breaksBound_3 rfl rfl ?_
  refine aw_iload_n cx 5 dX2_breaksBound_4 rfl rfl ?_
  refine aw_iadd cx 6 dX2_breaksBound_5 rfl ?_
  refine aw_iconst cx 7 dX2_breaksBound_6 rfl ?_
  refine aw_iload_n cx 8 dX2_breaksBound_7 rfl rfl ?_
  refine aw_imul cx 9 dX2_breaksBound_8 rfl ?_
  refine aw_iload_n cx 10 dX2_breaksBound_9 rfl rfl ?_
  refine aw_imul cx 11 dX2_breaksBound_10 rfl ?_
  refine aw_iadd cx 12 dX2_breaksBound_11 rfl ?_
  refine aw_imul cx 13 dX2_breaksBound_12 rfl ?_
  refine aw_iload_n cx 14 dX2_breaksBound_13 rfl rfl ?_
  refine aw_iload_n cx 15 dX2_breaksBound_14 rfl rfl ?_
  refine aw_iadd cx 16 dX2_breaksBound_15 rfl ?_
  refine aw_iload_n cx 17 dX2_breaksBound_16 rfl rfl ?_
  refine aw_iconst cx 18 dX2_breaksBound_17 rfl ?_
  refine aw_iadd cx 19 dX2_breaksBound_18 rfl ?_
  refine aw_imul cx 20 dX2_breaksBound_19 rfl ?_
  refine aw_iload_n cx 21 dX2_breaksBound_20 rfl rfl ?_
  refine aw_iconst cx 22 dX2_breaksBound_21 rfl ?_
  refine aw_iadd cx 23 dX2_breaksBound_22 rfl ?_
  refine aw_imul cx 24 dX2_breaksBound_23 rfl ?_
  refine aw_icmp_le cx 27 31 dX2_breaksBound_24 rfl (by decide) ⟨⟨by omega, by omega⟩, ⟨by omega, by omega⟩⟩ (fun c24 => ?_) (fun c24 => ?_)
  · refine aw_iconst cx 32 dX2_breaksBound_31 rfl ?_
    refine aw_ireturn cx dX2_breaksBound_32 ?_
    refine hRet _ _ (by first | exact Or.inl rfl | exact Or.inr rfl | assumption) rfl ?_
    first | exact k _ (Or.inl ⟨rfl, by show _ < _; omega⟩) | exact k _ (Or.inr ⟨rfl, by show ¬ _ < _; omega⟩)
  · refine aw_iconst cx 28 dX2_breaksBound_27 rfl ?_
    refine aw_goto cx 32 dX2_breaksBound_28 (by decide) ?_
    refine aw_ireturn cx dX2_breaksBound_32 ?_
    refine hRet _ _ (by first | exact Or.inl rfl | exact Or.inr rfl | assumption) rfl ?_
    first | exact k _ (Or.inl ⟨rfl, by show _ < _; omega⟩) | exact k _ (Or.inr ⟨rfl, by show ¬ _ < _; omega⟩)
set_option maxRecDepth 100000 in
set_option maxHeartbeats 4000000 in
theorem s_X2_firstFailure {h : AH} {Q : Option AV → AH → Prop} {n k0 l m : Int} (hI : svI n k0 l m) (k : ∀ v, v = sv n k0 l m → Q (some (vI v)) h) : MC mX2_firstFailure [vI n, vI k0, vI l, vI m] h Q := by
  refine mc_start mX2_firstFailure RX2 "firstFailure" ⟨rfl, rfl, by decide +kernel⟩ [some (vI n), some (vI k0), some (vI l), some (vI m), none, none, none, none, none, none, none, none] ⟨8, rfl⟩ rfl (fun X cx hRm hNS hRet => ?_)
  obtain ⟨hb1, hb2, hb3, hb4⟩ := sv_b hI
  refine aw_iload_n cx 1 dX2_firstFailure_0 rfl rfl ?_
  refine aw_iload_n cx 2 dX2_firstFailure_1 rfl rfl ?_
  refine aw_iload_n cx 3 dX2_firstFailure_2 rfl rfl ?_
  refine aw_isub cx 4 dX2_firstFailure_3 rfl ?_
  refine aw_iconst cx 5 dX2_firstFailure_4 rfl ?_
  refine aw_isub cx 6 dX2_firstFailure_5 rfl ?_
  refine aw_imul cx 7 dX2_firstFailure_6 rfl ?_
  refine aw_iload_n cx 8 dX2_firstFailure_7 rfl rfl ?_
  refine aw_iload_n cx 9 dX2_firstFailure_8 rfl rfl ?_
  refine aw_isub cx 10 dX2_firstFailure_9 rfl ?_
  refine aw_iconst cx 11 dX2_firstFailure_10 rfl ?_
  refine aw_isub cx 12 dX2_firstFailure_11 rfl ?_
  refine aw_iload_n cx 13 dX2_firstFailure_12 rfl rfl ?_
  refine aw_imul cx 14 dX2_firstFailure_13 rfl ?_
  refine aw_icmp_eq cx 17 19 dX2_firstFailure_14 rfl (by decide) ⟨⟨by omega, by omega⟩, ⟨by omega, by omega⟩⟩ (fun c14 => ?_) (fun c14 => ?_)
  · refine aw_iload_n cx 20 dX2_firstFailure_19 rfl rfl ?_
    refine aw_iload_n cx 21 dX2_firstFailure_20 rfl rfl ?_
    refine aw_isub cx 22 dX2_firstFailure_21 rfl ?_
    refine aw_iload_n cx 23 dX2_firstFailure_22 rfl rfl ?_
    refine aw_iload_n cx 24 dX2_firstFailure_23 rfl rfl ?_
    refine aw_isub cx 25 dX2_firstFailure_24 rfl ?_
    refine aw_imul cx 26 dX2_firstFailure_25 rfl ?_
    refine aw_iconst cx 27 dX2_firstFailure_26 rfl ?_
    refine aw_iload_n cx 28 dX2_firstFailure_27 rfl rfl ?_
    refine aw_iload_n cx 29 dX2_firstFailure_28 rfl rfl ?_
    refine aw_isub cx 30 dX2_firstFailure_29 rfl ?_
    refine aw_imul cx 31 dX2_firstFailure_30 rfl ?_
    refine aw_iadd cx 32 dX2_firstFailure_31 rfl ?_
    refine aw_istore cx 34 dX2_firstFailure_32 rfl ⟨Nat.le_of_ble_eq_true rfl, Nat.le_of_ble_eq_true rfl⟩ rfl ?_
    dsimp only [List.set]
    refine aw_iconst cx 35 dX2_firstFailure_34 rfl ?_
    refine aw_iload_n cx 36 dX2_firstFailure_35 rfl rfl ?_
    refine aw_imul cx 37 dX2_firstFailure_36 rfl ?_
    refine aw_iload_n cx 38 dX2_firstFailure_37 rfl rfl ?_
    refine aw_iconst cx 39 dX2_firstFailure_38 rfl ?_
    refine aw_isub cx 40 dX2_firstFailure_39 rfl ?_
    refine aw_iload_n cx 41 dX2_firstFailure_40 rfl rfl ?_
    refine aw_iload_n cx 42 dX2_firstFailure_41 rfl rfl ?_
    refine aw_isub cx 43 dX2_firstFailure_42 rfl ?_
    refine aw_imul cx 44 dX2_firstFailure_43 rfl ?_
    refine aw_iadd cx 45 dX2_firstFailure_44 rfl ?_
    refine aw_istore cx 47 dX2_firstFailure_45 rfl ⟨Nat.le_of_ble_eq_true rfl, Nat.le_of_ble_eq_true rfl⟩ rfl ?_
    dsimp only [List.set]
    refine aw_iload cx 49 dX2_firstFailure_47 rfl rfl ?_
    refine aw_if_gt cx 52 54 dX2_firstFailure_49 rfl (by decide) ⟨by omega, by omega⟩ (fun c49 => ?_) (fun c49 => ?_)
    · refine aw_iload cx 56 dX2_firstFailure_54 rfl rfl ?_
      refine aw_if_ne cx 59 71 dX2_firstFailure_56 rfl (by decide) ⟨by omega, by omega⟩ (fun c56 => ?_) (fun c56 => ?_)
      · refine aw_iload cx 73 dX2_firstFailure_71 rfl rfl ?_
        refine aw_S1v cx 76 mX2_wholeRoot dX2_firstFailure_73 rfl okmX2_wholeRoot lkX2_9 (zz_rc0 mX2_firstFailure hRm hNS rfl rfl) (Nat.le_of_ble_eq_true rfl) ?_
        refine s_X2_wholeRoot ⟨by omega, by omega⟩ (fun v73 e73 => ⟨_, rfl, ?_⟩)
        obtain ⟨tq1, tq2, -⟩ := rt_p (d := (l - m) * (l - m) + 4 * (k0 - m)) ⟨by omega, by omega⟩
        have q0 : 0 < v73 ∨ v73 = -1 := by
          rcases e73 with ⟨a, b, d⟩ | ⟨a, b⟩
          · left
            rcases Int.lt_or_le 0 v73 with q | q
            · exact q
            · rw [show v73 = 0 by omega] at d
              omega
          · exact Or.inr a
        refine aw_istore cx 78 dX2_firstFailure_76 rfl ⟨Nat.le_of_ble_eq_true rfl, Nat.le_of_ble_eq_true rfl⟩ rfl ?_
        dsimp only [List.set]
        refine aw_iload cx 80 dX2_firstFailure_78 rfl rfl ?_
        refine aw_if_le cx 83 105 dX2_firstFailure_80 rfl (by decide) ⟨by omega, by omega⟩ (fun c80 => ?_) (fun c80 => ?_)
        · refine aw_iconst cx 106 dX2_firstFailure_105 rfl ?_
          refine aw_ireturn cx dX2_firstFailure_106 ?_
          refine hRet _ _ True.intro rfl ?_
          first
          | exact k _ (by unfold sv; rw [if_neg (fun q => q c14), if_neg (by show ¬ ((l - m) * (l - m) + 4 * (k0 - m) = 0); omega), if_neg (by show ¬ (2 * k0 + (n - 1) * (l - m) = 0); omega), if_pos (Or.inr (Or.inl (by show (2 * k0 + (n - 1) * (l - m)).tmod (rt ((l - m) * (l - m) + 4 * (k0 - m))) ≠ 0; rw [← q1.1]; exact c88)))])
          | exact k _ (by unfold sv; rw [if_neg (fun q => q c14), if_neg (by show ¬ ((l - m) * (l - m) + 4 * (k0 - m) = 0); omega), if_neg (by show ¬ (2 * k0 + (n - 1) * (l - m) = 0); omega), if_pos (Or.inr (Or.inr (by show (n - 1 + (2 * k0 + (n - 1) * (l - m)).tdiv (rt ((l - m) * (l - m) + 4 * (k0 - m)))).tmod 2 ≠ 0; rw [← q1.1]; exact c102)))])
          | exact k _ (by unfold sv; rw [if_neg (fun q => q c14), if_neg (by show ¬ ((l - m) * (l - m) + 4 * (k0 - m) = 0); omega), if_neg (by show ¬ (2 * k0 + (n - 1) * (l - m) = 0); omega), if_pos (Or.inl (by
              rcases e73 with ⟨a, b, d⟩ | ⟨a, b⟩
              · omega
              · exact b))])
        · have q1 : v73 = rt ((l - m) * (l - m) + 4 * (k0 - m)) ∧ v73 * v73 = (l - m) * (l - m) + 4 * (k0 - m) := by
            rcases e73 with ⟨a, b, d⟩ | ⟨a, b⟩
            · exact ⟨b, d⟩
            · omega
          have b0 := tdiv_b (x := 2 * k0 + (n - 1) * (l - m)) (y := v73) 39798 ⟨by omega, by omega⟩ (by omega)
          have m0 := tmod_b (x := 2 * k0 + (n - 1) * (l - m)) (y := v73) 39798 ⟨by omega, by omega⟩ ⟨by omega, by omega⟩
          have m1 := tmod_b (x := n - 1 + (2 * k0 + (n - 1) * (l - m)).tdiv v73) (y := 2) 40000 ⟨by omega, by omega⟩ ⟨by decide, by decide⟩
          refine aw_iload cx 85 dX2_firstFailure_83 rfl rfl ?_
          refine aw_iload cx 87 dX2_firstFailure_85 rfl rfl ?_
          refine aw_irem cx 88 dX2_firstFailure_87 rfl ⟨⟨by omega, by omega⟩, ⟨by omega, by omega⟩, by omega⟩ ?_
          refine aw_if_ne cx 91 105 dX2_firstFailure_88 rfl (by decide) ⟨by omega, by omega⟩ (fun c88 => ?_) (fun c88 => ?_)
          · refine aw_iconst cx 106 dX2_firstFailure_105 rfl ?_
            refine aw_ireturn cx dX2_firstFailure_106 ?_
            refine hRet _ _ True.intro rfl ?_
            first
            | exact k _ (by unfold sv; rw [if_neg (fun q => q c14), if_neg (by show ¬ ((l - m) * (l - m) + 4 * (k0 - m) = 0); omega), if_neg (by show ¬ (2 * k0 + (n - 1) * (l - m) = 0); omega), if_pos (Or.inr (Or.inl (by show (2 * k0 + (n - 1) * (l - m)).tmod (rt ((l - m) * (l - m) + 4 * (k0 - m))) ≠ 0; rw [← q1.1]; exact c88)))])
            | exact k _ (by unfold sv; rw [if_neg (fun q => q c14), if_neg (by show ¬ ((l - m) * (l - m) + 4 * (k0 - m) = 0); omega), if_neg (by show ¬ (2 * k0 + (n - 1) * (l - m) = 0); omega), if_pos (Or.inr (Or.inr (by show (n - 1 + (2 * k0 + (n - 1) * (l - m)).tdiv (rt ((l - m) * (l - m) + 4 * (k0 - m)))).tmod 2 ≠ 0; rw [← q1.1]; exact c102)))])
            | exact k _ (by unfold sv; rw [if_neg (fun q => q c14), if_neg (by show ¬ ((l - m) * (l - m) + 4 * (k0 - m) = 0); omega), if_neg (by show ¬ (2 * k0 + (n - 1) * (l - m) = 0); omega), if_pos (Or.inl (by
                rcases e73 with ⟨a, b, d⟩ | ⟨a, b⟩
                · omega
                · exact b))])
          · refine aw_iload_n cx 92 dX2_firstFailure_91 rfl rfl ?_
            refine aw_iconst cx 93 dX2_firstFailure_92 rfl ?_
            refine aw_isub cx 94 dX2_firstFailure_93 rfl ?_
            refine aw_iload cx 96 dX2_firstFailure_94 rfl rfl ?_
            refine aw_iload cx 98 dX2_firstFailure_96 rfl rfl ?_
            refine aw_idiv cx 99 dX2_firstFailure_98 rfl ⟨⟨by omega, by omega⟩, ⟨by omega, by omega⟩, by omega⟩ ?_
            refine aw_iadd cx 100 dX2_firstFailure_99 rfl ?_
            refine aw_iconst cx 101 dX2_firstFailure_100 rfl ?_
            refine aw_irem cx 102 dX2_firstFailure_101 rfl ⟨⟨by omega, by omega⟩, ⟨by omega, by omega⟩, by omega⟩ ?_
            refine aw_if_eq cx 105 107 dX2_firstFailure_102 rfl (by decide) ⟨by omega, by omega⟩ (fun c102 => ?_) (fun c102 => ?_)
            · have b1 := tdiv_b (x := l - m + v73) (y := 2) 400 ⟨by omega, by omega⟩ (by decide)
              have b2 := tdiv_b (x := l - m - v73) (y := 2) 400 ⟨by omega, by omega⟩ (by decide)
              have b3 := tdiv_b (x := n - 1 - (2 * k0 + (n - 1) * (l - m)).tdiv v73) (y := 2) 40000 ⟨by omega, by omega⟩ (by decide)
              have b4 := tdiv_b (x := n - 1 + (2 * k0 + (n - 1) * (l - m)).tdiv v73) (y := 2) 40000 ⟨by omega, by omega⟩ (by decide)
              have b5 := ff_r b3
              have b6 := ff_r b4
              have G : sv n k0 l m = sv2 n k0 m (2 * k0 + (n - 1) * (l - m)) ((l - m + v73).tdiv 2) ((l - m - v73).tdiv 2) v73 := by
                unfold sv
                rw [if_neg (fun q => q c14), if_neg (by show ¬ ((l - m) * (l - m) + 4 * (k0 - m) = 0); omega), if_neg (by show ¬ (2 * k0 + (n - 1) * (l - m) = 0); omega), if_neg (by
                  rintro (a | a | a)
                  · rw [← q1.1] at a
                    exact a q1.2
                  · rw [← q1.1] at a
                    exact a c88
                  · rw [← q1.1] at a
                    exact a c102), ← q1.1]
              refine aw_iload_n cx 108 dX2_firstFailure_107 rfl rfl ?_
              refine aw_iload_n cx 109 dX2_firstFailure_108 rfl rfl ?_
              refine aw_isub cx 110 dX2_firstFailure_109 rfl ?_
              refine aw_iload cx 112 dX2_firstFailure_110 rfl rfl ?_
              refine aw_iadd cx 113 dX2_firstFailure_112 rfl ?_
              refine aw_iconst cx 114 dX2_firstFailure_113 rfl ?_
              refine aw_idiv cx 115 dX2_firstFailure_114 rfl ⟨⟨by omega, by omega⟩, ⟨by omega, by omega⟩, by omega⟩ ?_
              refine aw_istore cx 117 dX2_firstFailure_115 rfl ⟨Nat.le_of_ble_eq_true rfl, Nat.le_of_ble_eq_true rfl⟩ rfl ?_
              dsimp only [List.set]
              refine aw_iload_n cx 118 dX2_firstFailure_117 rfl rfl ?_
              refine aw_iload_n cx 119 dX2_firstFailure_118 rfl rfl ?_
              refine aw_isub cx 120 dX2_firstFailure_119 rfl ?_
              refine aw_iload cx 122 dX2_firstFailure_120 rfl rfl ?_
              refine aw_isub cx 123 dX2_firstFailure_122 rfl ?_
              refine aw_iconst cx 124 dX2_firstFailure_123 rfl ?_
              refine aw_idiv cx 125 dX2_firstFailure_124 rfl ⟨⟨by omega, by omega⟩, ⟨by omega, by omega⟩, by omega⟩ ?_
              refine aw_istore cx 127 dX2_firstFailure_125 rfl ⟨Nat.le_of_ble_eq_true rfl, Nat.le_of_ble_eq_true rfl⟩ rfl ?_
              dsimp only [List.set]
              refine aw_iload_n cx 128 dX2_firstFailure_127 rfl rfl ?_
              refine aw_iload cx 130 dX2_firstFailure_128 rfl rfl ?_
              refine aw_iload cx 132 dX2_firstFailure_130 rfl rfl ?_
              refine aw_S3v cx 135 mX2_breaksBound dX2_firstFailure_132 rfl okmX2_breaksBound lkX2_15 (zz_rc0 mX2_firstFailure hRm hNS rfl rfl) (Nat.le_of_ble_eq_true rfl) ?_
              refine s_X2_breaksBound ⟨by omega, by omega⟩ ⟨by omega, by omega⟩ ⟨by omega, by omega⟩ (fun v132 e132 => ⟨_, rfl, ?_⟩)
              refine aw_if_ne cx 138 149 dX2_firstFailure_135 rfl (by decide) ⟨by omega, by omega⟩ (fun c135 => ?_) (fun c135 => ?_)
              · refine aw_iconst cx 150 dX2_firstFailure_149 rfl ?_
                refine aw_ireturn cx dX2_firstFailure_150 ?_
                refine hRet _ _ True.intro rfl ?_
                exact k _ (by rw [G]; unfold sv2; rw [if_pos (by first | exact Or.inl (e132.resolve_right (fun q => c135 q.1)).2 | exact Or.inr (e143.resolve_right (fun q => c146 q.1)).2)])
              · refine aw_iload_n cx 139 dX2_firstFailure_138 rfl rfl ?_
                refine aw_iload cx 141 dX2_firstFailure_139 rfl rfl ?_
                refine aw_iload cx 143 dX2_firstFailure_141 rfl rfl ?_
                refine aw_S3v cx 146 mX2_breaksBound dX2_firstFailure_143 rfl okmX2_breaksBound lkX2_15 (zz_rc0 mX2_firstFailure hRm hNS rfl rfl) (Nat.le_of_ble_eq_true rfl) ?_
                refine s_X2_breaksBound ⟨by omega, by omega⟩ ⟨by omega, by omega⟩ ⟨by omega, by omega⟩ (fun v143 e143 => ⟨_, rfl, ?_⟩)
                refine aw_if_eq cx 149 151 dX2_firstFailure_146 rfl (by decide) ⟨by omega, by omega⟩ (fun c146 => ?_) (fun c146 => ?_)
                · have G2 : sv n k0 l m = sv3 n k0 m ((n - 1 - (2 * k0 + (n - 1) * (l - m)).tdiv v73).tdiv 2) ((n - 1 + (2 * k0 + (n - 1) * (l - m)).tdiv v73).tdiv 2) := by
                    rw [G]
                    unfold sv2
                    rw [if_neg (by
                      rintro (a | a)
                      · rcases e132 with q | q
                        · omega
                        · exact q.2 a
                      · rcases e143 with q | q
                        · omega
                        · exact q.2 a)]
                  refine aw_iload_n cx 152 dX2_firstFailure_151 rfl rfl ?_
                  refine aw_iconst cx 153 dX2_firstFailure_152 rfl ?_
                  refine aw_isub cx 154 dX2_firstFailure_153 rfl ?_
                  refine aw_iload cx 156 dX2_firstFailure_154 rfl rfl ?_
                  refine aw_iload cx 158 dX2_firstFailure_156 rfl rfl ?_
                  refine aw_idiv cx 159 dX2_firstFailure_158 rfl ⟨⟨by omega, by omega⟩, ⟨by omega, by omega⟩, by omega⟩ ?_
                  refine aw_isub cx 160 dX2_firstFailure_159 rfl ?_
                  refine aw_iconst cx 161 dX2_firstFailure_160 rfl ?_
                  refine aw_idiv cx 162 dX2_firstFailure_161 rfl ⟨⟨by omega, by omega⟩, ⟨by omega, by omega⟩, by omega⟩ ?_
                  refine aw_istore cx 164 dX2_firstFailure_162 rfl ⟨Nat.le_of_ble_eq_true rfl, Nat.le_of_ble_eq_true rfl⟩ rfl ?_
                  dsimp only [List.set]
                  refine aw_iload_n cx 165 dX2_firstFailure_164 rfl rfl ?_
                  refine aw_iconst cx 166 dX2_firstFailure_165 rfl ?_
                  refine aw_isub cx 167 dX2_firstFailure_166 rfl ?_
                  refine aw_iload cx 169 dX2_firstFailure_167 rfl rfl ?_
                  refine aw_iload cx 171 dX2_firstFailure_169 rfl rfl ?_
                  refine aw_idiv cx 172 dX2_firstFailure_171 rfl ⟨⟨by omega, by omega⟩, ⟨by omega, by omega⟩, by omega⟩ ?_
                  refine aw_iadd cx 173 dX2_firstFailure_172 rfl ?_
                  refine aw_iconst cx 174 dX2_firstFailure_173 rfl ?_
                  refine aw_idiv cx 175 dX2_firstFailure_174 rfl ⟨⟨by omega, by omega⟩, ⟨by omega, by omega⟩, by omega⟩ ?_
                  refine aw_istore cx 177 dX2_firstFailure_175 rfl ⟨Nat.le_of_ble_eq_true rfl, Nat.le_of_ble_eq_true rfl⟩ rfl ?_
                  dsimp only [List.set]
                  refine aw_iload_n cx 178 dX2_firstFailure_177 rfl rfl ?_
                  refine aw_if_le cx 181 190 dX2_firstFailure_178 rfl (by decide) ⟨by omega, by omega⟩ (fun c178 => ?_) (fun c178 => ?_)
                  · refine aw_iconst cx 191 dX2_firstFailure_190 rfl ?_
                    refine aw_istore cx 193 dX2_firstFailure_191 rfl ⟨Nat.le_of_ble_eq_true rfl, Nat.le_of_ble_eq_true rfl⟩ rfl ?_
                    dsimp only [List.set]
                    refine aw_iload cx 195 dX2_firstFailure_193 rfl rfl ?_
                    refine aw_if_eq cx 198 228 dX2_firstFailure_195 rfl (by decide) ⟨by omega, by omega⟩ (fun c195 => ?_) (fun c195 => ?_)
                    · first
                      | (exfalso; omega)
                      | (refine aw_iconst cx 229 dX2_firstFailure_228 rfl ?_
                         refine aw_ireturn cx dX2_firstFailure_229 ?_
                         refine hRet _ _ True.intro rfl ?_
                         exact k _ (by rw [G2]; unfold sv3; first | rw [if_pos (by omega)] | rw [if_neg (by omega)]))
                    · first
                      | (exfalso; omega)
                      | (refine aw_iconst cx 199 dX2_firstFailure_198 rfl ?_
                         refine aw_iload_n cx 200 dX2_firstFailure_199 rfl rfl ?_
                         refine aw_imul cx 201 dX2_firstFailure_200 rfl ?_
                         refine aw_iload cx 203 dX2_firstFailure_201 rfl rfl ?_
                         refine aw_iload cx 205 dX2_firstFailure_203 rfl rfl ?_
                         refine aw_iconst cx 206 dX2_firstFailure_205 rfl ?_
                         refine aw_iadd cx 207 dX2_firstFailure_206 rfl ?_
                         refine aw_imul cx 208 dX2_firstFailure_207 rfl ?_
                         refine aw_icmp_gt cx 211 224 dX2_firstFailure_208 rfl (by decide) ⟨⟨by omega, by omega⟩, ⟨by omega, by omega⟩⟩ (fun c208 => ?_) (fun c208 => ?_)
                         · refine aw_iconst cx 225 dX2_firstFailure_224 rfl ?_
                           refine aw_goto cx 229 dX2_firstFailure_225 (by decide) ?_
                           refine aw_ireturn cx dX2_firstFailure_229 ?_
                           refine hRet _ _ True.intro rfl ?_
                           exact k _ (by rw [G2]; unfold sv3; first | rw [if_pos (by omega)] | rw [if_neg (by omega)])
                         · refine aw_iconst cx 212 dX2_firstFailure_211 rfl ?_
                           refine aw_iload_n cx 213 dX2_firstFailure_212 rfl rfl ?_
                           refine aw_imul cx 214 dX2_firstFailure_213 rfl ?_
                           refine aw_iload cx 216 dX2_firstFailure_214 rfl rfl ?_
                           refine aw_iload cx 218 dX2_firstFailure_216 rfl rfl ?_
                           refine aw_iconst cx 219 dX2_firstFailure_218 rfl ?_
                           refine aw_iadd cx 220 dX2_firstFailure_219 rfl ?_
                           refine aw_imul cx 221 dX2_firstFailure_220 rfl ?_
                           refine aw_icmp_le cx 224 228 dX2_firstFailure_221 rfl (by decide) ⟨⟨by omega, by omega⟩, ⟨by omega, by omega⟩⟩ (fun c221 => ?_) (fun c221 => ?_)
                           · refine aw_iconst cx 229 dX2_firstFailure_228 rfl ?_
                             refine aw_ireturn cx dX2_firstFailure_229 ?_
                             refine hRet _ _ True.intro rfl ?_
                             exact k _ (by rw [G2]; unfold sv3; first | rw [if_pos (by omega)] | rw [if_neg (by omega)])
                           · refine aw_iconst cx 225 dX2_firstFailure_224 rfl ?_
                             refine aw_goto cx 229 dX2_firstFailure_225 (by decide) ?_
                             refine aw_ireturn cx dX2_firstFailure_229 ?_
                             refine hRet _ _ True.intro rfl ?_
                             exact k _ (by rw [G2]; unfold sv3; first | rw [if_pos (by omega)] | rw [if_neg (by omega)]))
                  · refine aw_iload_n cx 182 dX2_firstFailure_181 rfl rfl ?_
                    refine aw_iload_n cx 183 dX2_firstFailure_182 rfl rfl ?_
                    refine aw_icmp_ge cx 186 190 dX2_firstFailure_183 rfl (by decide) ⟨⟨by omega, by omega⟩, ⟨by omega, by omega⟩⟩ (fun c183 => ?_) (fun c183 => ?_)
                    · refine aw_iconst cx 191 dX2_firstFailure_190 rfl ?_
                      refine aw_istore cx 193 dX2_firstFailure_191 rfl ⟨Nat.le_of_ble_eq_true rfl, Nat.le_of_ble_eq_true rfl⟩ rfl ?_
                      dsimp only [List.set]
                      refine aw_iload cx 195 dX2_firstFailure_193 rfl rfl ?_
                      refine aw_if_eq cx 198 228 dX2_firstFailure_195 rfl (by decide) ⟨by omega, by omega⟩ (fun c195 => ?_) (fun c195 => ?_)
                      · first
                        | (exfalso; omega)
                        | (refine aw_iconst cx 229 dX2_firstFailure_228 rfl ?_
                           refine aw_ireturn cx dX2_firstFailure_229 ?_
                           refine hRet _ _ True.intro rfl ?_
                           exact k _ (by rw [G2]; unfold sv3; first | rw [if_pos (by omega)] | rw [if_neg (by omega)]))
                      · first
                        | (exfalso; omega)
                        | (refine aw_iconst cx 199 dX2_firstFailure_198 rfl ?_
                           refine aw_iload_n cx 200 dX2_firstFailure_199 rfl rfl ?_
                           refine aw_imul cx 201 dX2_firstFailure_200 rfl ?_
                           refine aw_iload cx 203 dX2_firstFailure_201 rfl rfl ?_
                           refine aw_iload cx 205 dX2_firstFailure_203 rfl rfl ?_
                           refine aw_iconst cx 206 dX2_firstFailure_205 rfl ?_
                           refine aw_iadd cx 207 dX2_firstFailure_206 rfl ?_
                           refine aw_imul cx 208 dX2_firstFailure_207 rfl ?_
                           refine aw_icmp_gt cx 211 224 dX2_firstFailure_208 rfl (by decide) ⟨⟨by omega, by omega⟩, ⟨by omega, by omega⟩⟩ (fun c208 => ?_) (fun c208 => ?_)
                           · refine aw_iconst cx 225 dX2_firstFailure_224 rfl ?_
                             refine aw_goto cx 229 dX2_firstFailure_225 (by decide) ?_
                             refine aw_ireturn cx dX2_firstFailure_229 ?_
                             refine hRet _ _ True.intro rfl ?_
                             exact k _ (by rw [G2]; unfold sv3; first | rw [if_pos (by omega)] | rw [if_neg (by omega)])
                           · refine aw_iconst cx 212 dX2_firstFailure_211 rfl ?_
                             refine aw_iload_n cx 213 dX2_firstFailure_212 rfl rfl ?_
                             refine aw_imul cx 214 dX2_firstFailure_213 rfl ?_
                             refine aw_iload cx 216 dX2_firstFailure_214 rfl rfl ?_
                             refine aw_iload cx 218 dX2_firstFailure_216 rfl rfl ?_
                             refine aw_iconst cx 219 dX2_firstFailure_218 rfl ?_
                             refine aw_iadd cx 220 dX2_firstFailure_219 rfl ?_
                             refine aw_imul cx 221 dX2_firstFailure_220 rfl ?_
                             refine aw_icmp_le cx 224 228 dX2_firstFailure_221 rfl (by decide) ⟨⟨by omega, by omega⟩, ⟨by omega, by omega⟩⟩ (fun c221 => ?_) (fun c221 => ?_)
                             · refine aw_iconst cx 229 dX2_firstFailure_228 rfl ?_
                               refine aw_ireturn cx dX2_firstFailure_229 ?_
                               refine hRet _ _ True.intro rfl ?_
                               exact k _ (by rw [G2]; unfold sv3; first | rw [if_pos (by omega)] | rw [if_neg (by omega)])
                             · refine aw_iconst cx 225 dX2_firstFailure_224 rfl ?_
                               refine aw_goto cx 229 dX2_firstFailure_225 (by decide) ?_
                               refine aw_ireturn cx dX2_firstFailure_229 ?_
                               refine hRet _ _ True.intro rfl ?_
                               exact k _ (by rw [G2]; unfold sv3; first | rw [if_pos (by omega)] | rw [if_neg (by omega)]))
                    · refine aw_iconst cx 187 dX2_firstFailure_186 rfl ?_
                      refine aw_goto cx 191 dX2_firstFailure_187 (by decide) ?_
                      refine aw_istore cx 193 dX2_firstFailure_191 rfl ⟨Nat.le_of_ble_eq_true rfl, Nat.le_of_ble_eq_true rfl⟩ rfl ?_
                      dsimp only [List.set]
                      refine aw_iload cx 195 dX2_firstFailure_193 rfl rfl ?_
                      refine aw_if_eq cx 198 228 dX2_firstFailure_195 rfl (by decide) ⟨by omega, by omega⟩ (fun c195 => ?_) (fun c195 => ?_)
                      · first
                        | (exfalso; omega)
                        | (refine aw_iconst cx 229 dX2_firstFailure_228 rfl ?_
                           refine aw_ireturn cx dX2_firstFailure_229 ?_
                           refine hRet _ _ True.intro rfl ?_
                           exact k _ (by rw [G2]; unfold sv3; first | rw [if_pos (by omega)] | rw [if_neg (by omega)]))
                      · first
                        | (exfalso; omega)
                        | (refine aw_iconst cx 199 dX2_firstFailure_198 rfl ?_
                           refine aw_iload_n cx 200 dX2_firstFailure_199 rfl rfl ?_
                           refine aw_imul cx 201 dX2_firstFailure_200 rfl ?_
                           refine aw_iload cx 203 dX2_firstFailure_201 rfl rfl ?_
                           refine aw_iload cx 205 dX2_firstFailure_203 rfl rfl ?_
                           refine aw_iconst cx 206 dX2_firstFailure_205 rfl ?_
                           refine aw_iadd cx 207 dX2_firstFailure_206 rfl ?_
                           refine aw_imul cx 208 dX2_firstFailure_207 rfl ?_
                           refine aw_icmp_gt cx 211 224 dX2_firstFailure_208 rfl (by decide) ⟨⟨by omega, by omega⟩, ⟨by omega, by omega⟩⟩ (fun c208 => ?_) (fun c208 => ?_)
                           · refine aw_iconst cx 225 dX2_firstFailure_224 rfl ?_
                             refine aw_goto cx 229 dX2_firstFailure_225 (by decide) ?_
                             refine aw_ireturn cx dX2_firstFailure_229 ?_
                             refine hRet _ _ True.intro rfl ?_
                             exact k _ (by rw [G2]; unfold sv3; first | rw [if_pos (by omega)] | rw [if_neg (by omega)])
                           · refine aw_iconst cx 212 dX2_firstFailure_211 rfl ?_
                             refine aw_iload_n cx 213 dX2_firstFailure_212 rfl rfl ?_
                             refine aw_imul cx 214 dX2_firstFailure_213 rfl ?_
                             refine aw_iload cx 216 dX2_firstFailure_214 rfl rfl ?_
                             refine aw_iload cx 218 dX2_firstFailure_216 rfl rfl ?_
                             refine aw_iconst cx 219 dX2_firstFailure_218 rfl ?_
                             refine aw_iadd cx 220 dX2_firstFailure_219 rfl ?_
                             refine aw_imul cx 221 dX2_firstFailure_220 rfl ?_
                             refine aw_icmp_le cx 224 228 dX2_firstFailure_221 rfl (by decide) ⟨⟨by omega, by omega⟩, ⟨by omega, by omega⟩⟩ (fun c221 => ?_) (fun c221 => ?_)
                             · refine aw_iconst cx 229 dX2_firstFailure_228 rfl ?_
                               refine aw_ireturn cx dX2_firstFailure_229 ?_
                               refine hRet _ _ True.intro rfl ?_
                               exact k _ (by rw [G2]; unfold sv3; first | rw [if_pos (by omega)] | rw [if_neg (by omega)])
                             · refine aw_iconst cx 225 dX2_firstFailure_224 rfl ?_
                               refine aw_goto cx 229 dX2_firstFailure_225 (by decide) ?_
                               refine aw_ireturn cx dX2_firstFailure_229 ?_
                               refine hRet _ _ True.intro rfl ?_
                               exact k _ (by rw [G2]; unfold sv3; first | rw [if_pos (by omega)] | rw [if_neg (by omega)]))
                · refine aw_iconst cx 150 dX2_firstFailure_149 rfl ?_
                  refine aw_ireturn cx dX2_firstFailure_150 ?_
                  refine hRet _ _ True.intro rfl ?_
                  exact k _ (by rw [G]; unfold sv2; rw [if_pos (by first | exact Or.inl (e132.resolve_right (fun q => c135 q.1)).2 | exact Or.inr (e143.resolve_right (fun q => c146 q.1)).2)])
            · refine aw_iconst cx 106 dX2_firstFailure_105 rfl ?_
              refine aw_ireturn cx dX2_firstFailure_106 ?_
              refine hRet _ _ True.intro rfl ?_
              first
              | exact k _ (by unfold sv; rw [if_neg (fun q => q c14), if_neg (by show ¬ ((l - m) * (l - m) + 4 * (k0 - m) = 0); omega), if_neg (by show ¬ (2 * k0 + (n - 1) * (l - m) = 0); omega), if_pos (Or.inr (Or.inl (by show (2 * k0 + (n - 1) * (l - m)).tmod (rt ((l - m) * (l - m) + 4 * (k0 - m))) ≠ 0; rw [← q1.1]; exact c88)))])
              | exact k _ (by unfold sv; rw [if_neg (fun q => q c14), if_neg (by show ¬ ((l - m) * (l - m) + 4 * (k0 - m) = 0); omega), if_neg (by show ¬ (2 * k0 + (n - 1) * (l - m) = 0); omega), if_pos (Or.inr (Or.inr (by show (n - 1 + (2 * k0 + (n - 1) * (l - m)).tdiv (rt ((l - m) * (l - m) + 4 * (k0 - m)))).tmod 2 ≠ 0; rw [← q1.1]; exact c102)))])
              | exact k _ (by unfold sv; rw [if_neg (fun q => q c14), if_neg (by show ¬ ((l - m) * (l - m) + 4 * (k0 - m) = 0); omega), if_neg (by show ¬ (2 * k0 + (n - 1) * (l - m) = 0); omega), if_pos (Or.inl (by
                  rcases e73 with ⟨a, b, d⟩ | ⟨a, b⟩
                  · omega
                  · exact b))])
      · refine aw_iload_n cx 60 dX2_firstFailure_59 rfl rfl ?_
        refine aw_iconst cx 61 dX2_firstFailure_60 rfl ?_
        refine aw_iremN cx 62 dX2_firstFailure_61 rfl ⟨by omega, by omega, by omega, by omega⟩ ?_
        refine aw_if_ne cx 65 69 dX2_firstFailure_62 rfl (by decide) ⟨by omega, by omega⟩ (fun c62 => ?_) (fun c62 => ?_)
        · refine aw_iconst cx 70 dX2_firstFailure_69 rfl ?_
          refine aw_ireturn cx dX2_firstFailure_70 ?_
          refine hRet _ _ True.intro rfl ?_
          exact k _ (by unfold sv; rw [if_neg (fun q => q c14), if_neg (by show ¬ ((l - m) * (l - m) + 4 * (k0 - m) = 0); omega), if_pos (by show 2 * k0 + (n - 1) * (l - m) = 0; omega)]; first | rw [if_pos (by omega)] | rw [if_neg (by omega)])
        · refine aw_iconst cx 66 dX2_firstFailure_65 rfl ?_
          refine aw_goto cx 70 dX2_firstFailure_66 (by decide) ?_
          refine aw_ireturn cx dX2_firstFailure_70 ?_
          refine hRet _ _ True.intro rfl ?_
          exact k _ (by unfold sv; rw [if_neg (fun q => q c14), if_neg (by show ¬ ((l - m) * (l - m) + 4 * (k0 - m) = 0); omega), if_pos (by show 2 * k0 + (n - 1) * (l - m) = 0; omega)]; first | rw [if_pos (by omega)] | rw [if_neg (by omega)])
    · refine aw_iconst cx 53 dX2_firstFailure_52 rfl ?_
      refine aw_ireturn cx dX2_firstFailure_53 ?_
      refine hRet _ _ True.intro rfl ?_
      exact k _ (by unfold sv; rw [if_neg (fun q => q c14), if_pos (by show (l - m) * (l - m) + 4 * (k0 - m) = 0; omega)])
  · refine aw_iconst cx 18 dX2_firstFailure_17 rfl ?_
    refine aw_ireturn cx dX2_firstFailure_18 ?_
    refine hRet _ _ True.intro rfl ?_
    exact k _ (by unfold sv; rw [if_pos c14])
set_option maxRecDepth 100000 in
set_option maxHeartbeats 4000000 in
theorem s_X5_root {h : AH} {Q : Option AV → AH → Prop} {d : Int} (hd : 0 ≤ d ∧ d ≤ 40000) (k : ∀ v, v = rt d → Q (some (vI v)) h) : MC mX5_root [vI d] h Q := by
  refine mc_start mX5_root RX5 "root" ⟨rfl, rfl, by decide +kernel⟩ [some (vI d), none] ⟨1, rfl⟩ rfl (fun X cx hRm hNS hRet => ?_)
  obtain ⟨p1, p2, p3⟩ := rt_p hd
  refine aw_iconst cx 1 dX5_root_0 rfl ?_
  refine aw_istore_n cx 2 1 dX5_root_1 rfl rfl ⟨Nat.le_of_ble_eq_true rfl, Nat.le_of_ble_eq_true rfl⟩ rfl ?_
  dsimp only [List.set]
  have lp2 : ∀ (kf : Nat) (q : Int), (201 - q < (kf : Int)) → (0 ≤ q ∧ q ≤ 200) → (∀ s, 0 ≤ s → s < q → s * s < d) → AW X 2 [some (vI d), some (vI q)] [] (h) := by
    intro kf
    induction kf with
    | zero =>
      intro q hk hq hs
      exfalso
      omega
    | succ kf ih2 =>
      intro q hk hq hs
      have hq2 := mb (x := q) (y := q) 200 200 (by omega) (by omega)
      refine aw_iload_n cx 3 dX5_root_2 rfl rfl ?_
      refine aw_iload_n cx 4 dX5_root_3 rfl rfl ?_
      refine aw_imul cx 5 dX5_root_4 rfl ?_
      refine aw_iload_n cx 6 dX5_root_5 rfl rfl ?_
      refine aw_icmp_ge cx 9 15 dX5_root_6 rfl (by decide) ⟨⟨by omega, by omega⟩, ⟨by omega, by omega⟩⟩ (fun c6 => ?_) (fun c6 => ?_)
      · refine aw_iload_n cx 16 dX5_root_15 rfl rfl ?_
        refine aw_ireturn cx dX5_root_16 ?_
        refine hRet _ _ True.intro rfl ?_
        exact k _ (rt_u hd hq.1 c6 hs)
      · refine aw_iinc cx 12 dX5_root_9 rfl rfl (Nat.le_of_ble_eq_true rfl) rfl ?_
        dsimp only [List.set]
        refine aw_goto cx 2 dX5_root_12 (by decide) ?_
        exact ih2 (q + 1) (by omega) ⟨by omega, by
          rcases Int.lt_or_le q 200 with h9 | h9
          · omega
          · have := sq_le (a := 200) (by decide) h9
            omega⟩ (fun s s0 s1 => by
          by_cases e : s = q
          · rw [e]; omega
          · exact hs s s0 (by omega))
  exact lp2 202 0 (by omega) ⟨by omega, by omega⟩ (fun s s0 s1 => by omega)
set_option maxRecDepth 100000 in
set_option maxHeartbeats 4000000 in
theorem s_X5_sieved {h : AH} {Q : Option AV → AH → Prop} {n k0 l m : Int} (hI : svI n k0 l m) (k : ∀ v, v = sv n k0 l m → Q (some (vI v)) h) : MC mX5_sieved [vI n, vI k0, vI l, vI m] h Q := by
  refine mc_start mX5_sieved RX5 "sieved" ⟨rfl, rfl, by decide +kernel⟩ [some (vI n), some (vI k0), some (vI l), some (vI m), none, none, none, none, none, none, none, none, none] ⟨9, rfl⟩ rfl (fun X cx hRm hNS hRet => ?_)
  obtain ⟨hb1, hb2, hb3, hb4⟩ := sv_b hI
  refine aw_iload_n cx 1 dX5_sieved_0 rfl rfl ?_
  refine aw_iload_n cx 2 dX5_sieved_1 rfl rfl ?_
  refine aw_iload_n cx 3 dX5_sieved_2 rfl rfl ?_
  refine aw_isub cx 4 dX5_sieved_3 rfl ?_
  refine aw_iconst cx 5 dX5_sieved_4 rfl ?_
  refine aw_isub cx 6 dX5_sieved_5 rfl ?_
  refine aw_imul cx 7 dX5_sieved_6 rfl ?_
  refine aw_iload_n cx 8 dX5_sieved_7 rfl rfl ?_
  refine aw_iload_n cx 9 dX5_sieved_8 rfl rfl ?_
  refine aw_isub cx 10 dX5_sieved_9 rfl ?_
  refine aw_iconst cx 11 dX5_sieved_10 rfl ?_
  refine aw_isub cx 12 dX5_sieved_11 rfl ?_
  refine aw_iload_n cx 13 dX5_sieved_12 rfl rfl ?_
  refine aw_imul cx 14 dX5_sieved_13 rfl ?_
  refine aw_icmp_eq cx 17 19 dX5_sieved_14 rfl (by decide) ⟨⟨by omega, by omega⟩, ⟨by omega, by omega⟩⟩ (fun c14 => ?_) (fun c14 => ?_)
  · refine aw_iload_n cx 20 dX5_sieved_19 rfl rfl ?_
    refine aw_iload_n cx 21 dX5_sieved_20 rfl rfl ?_
    refine aw_isub cx 22 dX5_sieved_21 rfl ?_
    refine aw_iload_n cx 23 dX5_sieved_22 rfl rfl ?_
    refine aw_iload_n cx 24 dX5_sieved_23 rfl rfl ?_
    refine aw_isub cx 25 dX5_sieved_24 rfl ?_
    refine aw_imul cx 26 dX5_sieved_25 rfl ?_
    refine aw_iconst cx 27 dX5_sieved_26 rfl ?_
    refine aw_iload_n cx 28 dX5_sieved_27 rfl rfl ?_
    refine aw_iload_n cx 29 dX5_sieved_28 rfl rfl ?_
    refine aw_isub cx 30 dX5_sieved_29 rfl ?_
    refine aw_imul cx 31 dX5_sieved_30 rfl ?_
    refine aw_iadd cx 32 dX5_sieved_31 rfl ?_
    refine aw_istore cx 34 dX5_sieved_32 rfl ⟨Nat.le_of_ble_eq_true rfl, Nat.le_of_ble_eq_true rfl⟩ rfl ?_
    dsimp only [List.set]
    refine aw_iconst cx 35 dX5_sieved_34 rfl ?_
    refine aw_iload_n cx 36 dX5_sieved_35 rfl rfl ?_
    refine aw_imul cx 37 dX5_sieved_36 rfl ?_
    refine aw_iload_n cx 38 dX5_sieved_37 rfl rfl ?_
    refine aw_iconst cx 39 dX5_sieved_38 rfl ?_
    refine aw_isub cx 40 dX5_sieved_39 rfl ?_
    refine aw_iload_n cx 41 dX5_sieved_40 rfl rfl ?_
    refine aw_iload_n cx 42 dX5_sieved_41 rfl rfl ?_
    refine aw_isub cx 43 dX5_sieved_42 rfl ?_
    refine aw_imul cx 44 dX5_sieved_43 rfl ?_
    refine aw_iadd cx 45 dX5_sieved_44 rfl ?_
    refine aw_istore cx 47 dX5_sieved_45 rfl ⟨Nat.le_of_ble_eq_true rfl, Nat.le_of_ble_eq_true rfl⟩ rfl ?_
    dsimp only [List.set]
    refine aw_iload cx 49 dX5_sieved_47 rfl rfl ?_
    refine aw_if_ne cx 52 54 dX5_sieved_49 rfl (by decide) ⟨by omega, by omega⟩ (fun c49 => ?_) (fun c49 => ?_)
    · refine aw_iload cx 56 dX5_sieved_54 rfl rfl ?_
      refine aw_if_ne cx 59 71 dX5_sieved_56 rfl (by decide) ⟨by omega, by omega⟩ (fun c56 => ?_) (fun c56 => ?_)
      · refine aw_iload cx 73 dX5_sieved_71 rfl rfl ?_
        refine aw_S1v cx 76 mX5_root dX5_sieved_73 rfl okmX5_root lkX5_117 (zz_rc0 mX5_sieved hRm hNS rfl rfl) (Nat.le_of_ble_eq_true rfl) ?_
        refine s_X5_root ⟨by omega, by omega⟩ (fun v73 e73 => ⟨_, rfl, ?_⟩)
        obtain ⟨tq1, tq2, -⟩ := rt_p (d := (l - m) * (l - m) + 4 * (k0 - m)) ⟨by omega, by omega⟩
        rw [← e73] at tq1 tq2
        have q0 : 0 < v73 := by
          rcases Int.lt_or_le 0 v73 with q | q
          · exact q
          · rw [show v73 = 0 by omega] at tq2
            omega
        have q2 := mb (x := v73) (y := v73) 200 200 (by omega) (by omega)
        have b0 := tdiv_b (x := 2 * k0 + (n - 1) * (l - m)) (y := v73) 39798 ⟨by omega, by omega⟩ (by omega)
        have m0 := tmod_b (x := 2 * k0 + (n - 1) * (l - m)) (y := v73) 39798 ⟨by omega, by omega⟩ ⟨by omega, by omega⟩
        have m1 := tmod_b (x := n - 1 + (2 * k0 + (n - 1) * (l - m)).tdiv v73) (y := 2) 40000 ⟨by omega, by omega⟩ ⟨by decide, by decide⟩
        refine aw_istore cx 78 dX5_sieved_76 rfl ⟨Nat.le_of_ble_eq_true rfl, Nat.le_of_ble_eq_true rfl⟩ rfl ?_
        dsimp only [List.set]
        refine aw_iload cx 80 dX5_sieved_78 rfl rfl ?_
        refine aw_iload cx 82 dX5_sieved_80 rfl rfl ?_
        refine aw_imul cx 83 dX5_sieved_82 rfl ?_
        refine aw_iload cx 85 dX5_sieved_83 rfl rfl ?_
        refine aw_icmp_ne cx 88 110 dX5_sieved_85 rfl (by decide) ⟨⟨by omega, by omega⟩, ⟨by omega, by omega⟩⟩ (fun c85 => ?_) (fun c85 => ?_)
        · refine aw_iconst cx 111 dX5_sieved_110 rfl ?_
          refine aw_ireturn cx dX5_sieved_111 ?_
          refine hRet _ _ True.intro rfl ?_
          first
          | exact k _ (by unfold sv; rw [if_neg (fun q => q c14), if_neg (by show ¬ ((l - m) * (l - m) + 4 * (k0 - m) = 0); omega), if_neg (by show ¬ (2 * k0 + (n - 1) * (l - m) = 0); omega), if_pos (Or.inl (by show rt ((l - m) * (l - m) + 4 * (k0 - m)) * rt ((l - m) * (l - m) + 4 * (k0 - m)) ≠ (l - m) * (l - m) + 4 * (k0 - m); rw [← e73]; exact c85))])
          | exact k _ (by unfold sv; rw [if_neg (fun q => q c14), if_neg (by show ¬ ((l - m) * (l - m) + 4 * (k0 - m) = 0); omega), if_neg (by show ¬ (2 * k0 + (n - 1) * (l - m) = 0); omega), if_pos (Or.inr (Or.inl (by show (2 * k0 + (n - 1) * (l - m)).tmod (rt ((l - m) * (l - m) + 4 * (k0 - m))) ≠ 0; rw [← e73]; exact c93)))])
          | exact k _ (by unfold sv; rw [if_neg (fun q => q c14), if_neg (by show ¬ ((l - m) * (l - m) + 4 * (k0 - m) = 0); omega), if_neg (by show ¬ (2 * k0 + (n - 1) * (l - m) = 0); omega), if_pos (Or.inr (Or.inr (by show (n - 1 + (2 * k0 + (n - 1) * (l - m)).tdiv (rt ((l - m) * (l - m) + 4 * (k0 - m)))).tmod 2 ≠ 0; rw [← e73]; exact c107)))])
        · refine aw_iload cx 90 dX5_sieved_88 rfl rfl ?_
          refine aw_iload cx 92 dX5_sieved_90 rfl rfl ?_
          refine aw_irem cx 93 dX5_sieved_92 rfl ⟨⟨by omega, by omega⟩, ⟨by omega, by omega⟩, by omega⟩ ?_
          refine aw_if_ne cx 96 110 dX5_sieved_93 rfl (by decide) ⟨by omega, by omega⟩ (fun c93 => ?_) (fun c93 => ?_)
          · refine aw_iconst cx 111 dX5_sieved_110 rfl ?_
            refine aw_ireturn cx dX5_sieved_111 ?_
            refine hRet _ _ True.intro rfl ?_
            first
            | exact k _ (by unfold sv; rw [if_neg (fun q => q c14), if_neg (by show ¬ ((l - m) * (l - m) + 4 * (k0 - m) = 0); omega), if_neg (by show ¬ (2 * k0 + (n - 1) * (l - m) = 0); omega), if_pos (Or.inl (by show rt ((l - m) * (l - m) + 4 * (k0 - m)) * rt ((l - m) * (l - m) + 4 * (k0 - m)) ≠ (l - m) * (l - m) + 4 * (k0 - m); rw [← e73]; exact c85))])
            | exact k _ (by unfold sv; rw [if_neg (fun q => q c14), if_neg (by show ¬ ((l - m) * (l - m) + 4 * (k0 - m) = 0); omega), if_neg (by show ¬ (2 * k0 + (n - 1) * (l - m) = 0); omega), if_pos (Or.inr (Or.inl (by show (2 * k0 + (n - 1) * (l - m)).tmod (rt ((l - m) * (l - m) + 4 * (k0 - m))) ≠ 0; rw [← e73]; exact c93)))])
            | exact k _ (by unfold sv; rw [if_neg (fun q => q c14), if_neg (by show ¬ ((l - m) * (l - m) + 4 * (k0 - m) = 0); omega), if_neg (by show ¬ (2 * k0 + (n - 1) * (l - m) = 0); omega), if_pos (Or.inr (Or.inr (by show (n - 1 + (2 * k0 + (n - 1) * (l - m)).tdiv (rt ((l - m) * (l - m) + 4 * (k0 - m)))).tmod 2 ≠ 0; rw [← e73]; exact c107)))])
          · refine aw_iload_n cx 97 dX5_sieved_96 rfl rfl ?_
            refine aw_iconst cx 98 dX5_sieved_97 rfl ?_
            refine aw_isub cx 99 dX5_sieved_98 rfl ?_
            refine aw_iload cx 101 dX5_sieved_99 rfl rfl ?_
            refine aw_iload cx 103 dX5_sieved_101 rfl rfl ?_
            refine aw_idiv cx 104 dX5_sieved_103 rfl ⟨⟨by omega, by omega⟩, ⟨by omega, by omega⟩, by omega⟩ ?_
            refine aw_iadd cx 105 dX5_sieved_104 rfl ?_
            refine aw_iconst cx 106 dX5_sieved_105 rfl ?_
            refine aw_irem cx 107 dX5_sieved_106 rfl ⟨⟨by omega, by omega⟩, ⟨by omega, by omega⟩, by omega⟩ ?_
            refine aw_if_eq cx 110 112 dX5_sieved_107 rfl (by decide) ⟨by omega, by omega⟩ (fun c107 => ?_) (fun c107 => ?_)
            · have b1 := tdiv_b (x := l - m + v73) (y := 2) 400 ⟨by omega, by omega⟩ (by decide)
              have b2 := tdiv_b (x := l - m - v73) (y := 2) 400 ⟨by omega, by omega⟩ (by decide)
              have b3 := tdiv_b (x := n - 1 - (2 * k0 + (n - 1) * (l - m)).tdiv v73) (y := 2) 40000 ⟨by omega, by omega⟩ (by decide)
              have b4 := tdiv_b (x := n - 1 + (2 * k0 + (n - 1) * (l - m)).tdiv v73) (y := 2) 40000 ⟨by omega, by omega⟩ (by decide)
              have b5 := ff_r b3
              have b6 := ff_r b4
              have G : sv n k0 l m = sv2 n k0 m (2 * k0 + (n - 1) * (l - m)) ((l - m + v73).tdiv 2) ((l - m - v73).tdiv 2) v73 := by
                unfold sv
                rw [if_neg (fun q => q c14), if_neg (by show ¬ ((l - m) * (l - m) + 4 * (k0 - m) = 0); omega), if_neg (by show ¬ (2 * k0 + (n - 1) * (l - m) = 0); omega), if_neg (by
                  rintro (a | a | a)
                  · rw [← e73] at a
                    exact a c85
                  · rw [← e73] at a
                    exact a c93
                  · rw [← e73] at a
                    exact a c107), ← e73]
              have b7 := bb_r (k := k0) ⟨by omega, by omega⟩ b1 b2
              have b8 := bb_r (k := k0) ⟨by omega, by omega⟩ b2 b1
              rw [bb_c] at b8
              refine aw_iload_n cx 113 dX5_sieved_112 rfl rfl ?_
              refine aw_iload_n cx 114 dX5_sieved_113 rfl rfl ?_
              refine aw_isub cx 115 dX5_sieved_114 rfl ?_
              refine aw_iload cx 117 dX5_sieved_115 rfl rfl ?_
              refine aw_iadd cx 118 dX5_sieved_117 rfl ?_
              refine aw_iconst cx 119 dX5_sieved_118 rfl ?_
              refine aw_idiv cx 120 dX5_sieved_119 rfl ⟨⟨by omega, by omega⟩, ⟨by omega, by omega⟩, by omega⟩ ?_
              refine aw_i2l cx 121 dX5_sieved_120 rfl ⟨by omega, by omega⟩ ?_
              refine aw_lstore cx 123 dX5_sieved_121 rfl ⟨Nat.le_of_ble_eq_true rfl, Nat.le_of_ble_eq_true rfl⟩ rfl ?_
              dsimp only [List.set]
              refine aw_iload_n cx 124 dX5_sieved_123 rfl rfl ?_
              refine aw_iload_n cx 125 dX5_sieved_124 rfl rfl ?_
              refine aw_isub cx 126 dX5_sieved_125 rfl ?_
              refine aw_iload cx 128 dX5_sieved_126 rfl rfl ?_
              refine aw_isub cx 129 dX5_sieved_128 rfl ?_
              refine aw_iconst cx 130 dX5_sieved_129 rfl ?_
              refine aw_idiv cx 131 dX5_sieved_130 rfl ⟨⟨by omega, by omega⟩, ⟨by omega, by omega⟩, by omega⟩ ?_
              refine aw_i2l cx 132 dX5_sieved_131 rfl ⟨by omega, by omega⟩ ?_
              refine aw_lstore cx 134 dX5_sieved_132 rfl ⟨Nat.le_of_ble_eq_true rfl, Nat.le_of_ble_eq_true rfl⟩ rfl ?_
              dsimp only [List.set]
              refine aw_lload cx 136 dX5_sieved_134 rfl rfl ?_
              refine aw_lconst cx 137 1 dX5_sieved_136 rfl (by decide +kernel) ?_
              refine aw_ladd cx 138 dX5_sieved_137 rfl ?_
              refine aw_iload_n cx 139 dX5_sieved_138 rfl rfl ?_
              refine aw_i2l cx 140 dX5_sieved_139 rfl ⟨by omega, by omega⟩ ?_
              refine aw_lload cx 142 dX5_sieved_140 rfl rfl ?_
              refine aw_ladd cx 143 dX5_sieved_142 rfl ?_
              refine aw_ldc2 cx 146 (2) dX5_sieved_143 rfl klX5_120 (by decide +kernel) ?_
              refine aw_lload cx 148 dX5_sieved_146 rfl rfl ?_
              refine aw_lmul cx 149 dX5_sieved_148 rfl ?_
              refine aw_lload cx 151 dX5_sieved_149 rfl rfl ?_
              refine aw_lmul cx 152 dX5_sieved_151 rfl ?_
              refine aw_ladd cx 153 dX5_sieved_152 rfl ?_
              refine aw_lmul cx 154 dX5_sieved_153 rfl ?_
              refine aw_iload_n cx 155 dX5_sieved_154 rfl rfl ?_
              refine aw_i2l cx 156 dX5_sieved_155 rfl ⟨by omega, by omega⟩ ?_
              refine aw_lload cx 158 dX5_sieved_156 rfl rfl ?_
              refine aw_ladd cx 159 dX5_sieved_158 rfl ?_
              refine aw_lload cx 161 dX5_sieved_159 rfl rfl ?_
              refine aw_lconst cx 162 1 dX5_sieved_161 rfl (by decide +kernel) ?_
              refine aw_ladd cx 163 dX5_sieved_162 rfl ?_
              refine aw_lmul cx 164 dX5_sieved_163 rfl ?_
              refine aw_lload cx 166 dX5_sieved_164 rfl rfl ?_
              refine aw_lconst cx 167 1 dX5_sieved_166 rfl (by decide +kernel) ?_
              refine aw_ladd cx 168 dX5_sieved_167 rfl ?_
              refine aw_lmul cx 169 dX5_sieved_168 rfl ?_
              refine aw_lcmp cx 170 dX5_sieved_169 rfl (Or.inr ⟨⟨by omega, by omega⟩, ⟨by omega, by omega⟩⟩) ?_
              refine aw_if_gt cx 173 212 dX5_sieved_170 rfl (by decide) (zz_cmp_r _ _) (fun c170 => ?_) (fun c170 => ?_)
              · rw [zz_cmp_gt] at c170
                refine aw_iconst cx 213 dX5_sieved_212 rfl ?_
                refine aw_ireturn cx dX5_sieved_213 ?_
                refine hRet _ _ True.intro rfl ?_
                exact k _ (by rw [G]; unfold sv2; rw [if_pos (by first | exact Or.inl (by show _ < _; omega) | exact Or.inr (by show _ < _; rw [bb_c]; omega))])
              · rw [zz_cmp_gt] at c170
                refine aw_lload cx 175 dX5_sieved_173 rfl rfl ?_
                refine aw_lconst cx 176 1 dX5_sieved_175 rfl (by decide +kernel) ?_
                refine aw_ladd cx 177 dX5_sieved_176 rfl ?_
                refine aw_iload_n cx 178 dX5_sieved_177 rfl rfl ?_
                refine aw_i2l cx 179 dX5_sieved_178 rfl ⟨by omega, by omega⟩ ?_
                refine aw_lload cx 181 dX5_sieved_179 rfl rfl ?_
                refine aw_ladd cx 182 dX5_sieved_181 rfl ?_
                refine aw_ldc2 cx 185 (2) dX5_sieved_182 rfl klX5_120 (by decide +kernel) ?_
                refine aw_lload cx 187 dX5_sieved_185 rfl rfl ?_
                refine aw_lmul cx 188 dX5_sieved_187 rfl ?_
                refine aw_lload cx 190 dX5_sieved_188 rfl rfl ?_
                refine aw_lmul cx 191 dX5_sieved_190 rfl ?_
                refine aw_ladd cx 192 dX5_sieved_191 rfl ?_
                refine aw_lmul cx 193 dX5_sieved_192 rfl ?_
                refine aw_iload_n cx 194 dX5_sieved_193 rfl rfl ?_
                refine aw_i2l cx 195 dX5_sieved_194 rfl ⟨by omega, by omega⟩ ?_
                refine aw_lload cx 197 dX5_sieved_195 rfl rfl ?_
                refine aw_ladd cx 198 dX5_sieved_197 rfl ?_
                refine aw_lload cx 200 dX5_sieved_198 rfl rfl ?_
                refine aw_lconst cx 201 1 dX5_sieved_200 rfl (by decide +kernel) ?_
                refine aw_ladd cx 202 dX5_sieved_201 rfl ?_
                refine aw_lmul cx 203 dX5_sieved_202 rfl ?_
                refine aw_lload cx 205 dX5_sieved_203 rfl rfl ?_
                refine aw_lconst cx 206 1 dX5_sieved_205 rfl (by decide +kernel) ?_
                refine aw_ladd cx 207 dX5_sieved_206 rfl ?_
                refine aw_lmul cx 208 dX5_sieved_207 rfl ?_
                refine aw_lcmp cx 209 dX5_sieved_208 rfl (Or.inr ⟨⟨by omega, by omega⟩, ⟨by omega, by omega⟩⟩) ?_
                refine aw_if_le cx 212 214 dX5_sieved_209 rfl (by decide) (zz_cmp_r _ _) (fun c209 => ?_) (fun c209 => ?_)
                · rw [zz_cmp_le] at c209
                  have G2 : sv n k0 l m = sv3 n k0 m ((n - 1 - (2 * k0 + (n - 1) * (l - m)).tdiv v73).tdiv 2) ((n - 1 + (2 * k0 + (n - 1) * (l - m)).tdiv v73).tdiv 2) := by
                    rw [G]
                    unfold sv2
                    rw [if_neg (by
                      rintro (a | a)
                      · exact c170 a
                      · have a2 : _ < _ := a
                        rw [bb_c] at a2
                        omega)]
                  refine aw_iload_n cx 215 dX5_sieved_214 rfl rfl ?_
                  refine aw_iconst cx 216 dX5_sieved_215 rfl ?_
                  refine aw_isub cx 217 dX5_sieved_216 rfl ?_
                  refine aw_iload cx 219 dX5_sieved_217 rfl rfl ?_
                  refine aw_iload cx 221 dX5_sieved_219 rfl rfl ?_
                  refine aw_idiv cx 222 dX5_sieved_221 rfl ⟨⟨by omega, by omega⟩, ⟨by omega, by omega⟩, by omega⟩ ?_
                  refine aw_isub cx 223 dX5_sieved_222 rfl ?_
                  refine aw_iconst cx 224 dX5_sieved_223 rfl ?_
                  refine aw_idiv cx 225 dX5_sieved_224 rfl ⟨⟨by omega, by omega⟩, ⟨by omega, by omega⟩, by omega⟩ ?_
                  refine aw_istore cx 227 dX5_sieved_225 rfl ⟨Nat.le_of_ble_eq_true rfl, Nat.le_of_ble_eq_true rfl⟩ rfl ?_
                  dsimp only [List.set]
                  refine aw_iload_n cx 228 dX5_sieved_227 rfl rfl ?_
                  refine aw_iconst cx 229 dX5_sieved_228 rfl ?_
                  refine aw_isub cx 230 dX5_sieved_229 rfl ?_
                  refine aw_iload cx 232 dX5_sieved_230 rfl rfl ?_
                  refine aw_iload cx 234 dX5_sieved_232 rfl rfl ?_
                  refine aw_idiv cx 235 dX5_sieved_234 rfl ⟨⟨by omega, by omega⟩, ⟨by omega, by omega⟩, by omega⟩ ?_
                  refine aw_iadd cx 236 dX5_sieved_235 rfl ?_
                  refine aw_iconst cx 237 dX5_sieved_236 rfl ?_
                  refine aw_idiv cx 238 dX5_sieved_237 rfl ⟨⟨by omega, by omega⟩, ⟨by omega, by omega⟩, by omega⟩ ?_
                  refine aw_istore cx 240 dX5_sieved_238 rfl ⟨Nat.le_of_ble_eq_true rfl, Nat.le_of_ble_eq_true rfl⟩ rfl ?_
                  dsimp only [List.set]
                  refine aw_iload_n cx 241 dX5_sieved_240 rfl rfl ?_
                  refine aw_if_le cx 244 279 dX5_sieved_241 rfl (by decide) ⟨by omega, by omega⟩ (fun c241 => ?_) (fun c241 => ?_)
                  · refine aw_iconst cx 280 dX5_sieved_279 rfl ?_
                    refine aw_ireturn cx dX5_sieved_280 ?_
                    refine hRet _ _ True.intro rfl ?_
                    exact k _ (by rw [G2]; unfold sv3; first | rw [if_pos (by omega)] | rw [if_neg (by omega)])
                  · refine aw_iload_n cx 245 dX5_sieved_244 rfl rfl ?_
                    refine aw_iload_n cx 246 dX5_sieved_245 rfl rfl ?_
                    refine aw_icmp_ge cx 249 279 dX5_sieved_246 rfl (by decide) ⟨⟨by omega, by omega⟩, ⟨by omega, by omega⟩⟩ (fun c246 => ?_) (fun c246 => ?_)
                    · refine aw_iconst cx 280 dX5_sieved_279 rfl ?_
                      refine aw_ireturn cx dX5_sieved_280 ?_
                      refine hRet _ _ True.intro rfl ?_
                      exact k _ (by rw [G2]; unfold sv3; first | rw [if_pos (by omega)] | rw [if_neg (by omega)])
                    · refine aw_iconst cx 250 dX5_sieved_249 rfl ?_
                      refine aw_iload_n cx 251 dX5_sieved_250 rfl rfl ?_
                      refine aw_imul cx 252 dX5_sieved_251 rfl ?_
                      refine aw_iload cx 254 dX5_sieved_252 rfl rfl ?_
                      refine aw_iload cx 256 dX5_sieved_254 rfl rfl ?_
                      refine aw_iconst cx 257 dX5_sieved_256 rfl ?_
                      refine aw_iadd cx 258 dX5_sieved_257 rfl ?_
                      refine aw_imul cx 259 dX5_sieved_258 rfl ?_
                      refine aw_icmp_gt cx 262 275 dX5_sieved_259 rfl (by decide) ⟨⟨by omega, by omega⟩, ⟨by omega, by omega⟩⟩ (fun c259 => ?_) (fun c259 => ?_)
                      · refine aw_iconst cx 276 dX5_sieved_275 rfl ?_
                        refine aw_goto cx 280 dX5_sieved_276 (by decide) ?_
                        refine aw_ireturn cx dX5_sieved_280 ?_
                        refine hRet _ _ True.intro rfl ?_
                        exact k _ (by rw [G2]; unfold sv3; first | rw [if_pos (by omega)] | rw [if_neg (by omega)])
                      · refine aw_iconst cx 263 dX5_sieved_262 rfl ?_
                        refine aw_iload_n cx 264 dX5_sieved_263 rfl rfl ?_
                        refine aw_imul cx 265 dX5_sieved_264 rfl ?_
                        refine aw_iload cx 267 dX5_sieved_265 rfl rfl ?_
                        refine aw_iload cx 269 dX5_sieved_267 rfl rfl ?_
                        refine aw_iconst cx 270 dX5_sieved_269 rfl ?_
                        refine aw_iadd cx 271 dX5_sieved_270 rfl ?_
                        refine aw_imul cx 272 dX5_sieved_271 rfl ?_
                        refine aw_icmp_le cx 275 279 dX5_sieved_272 rfl (by decide) ⟨⟨by omega, by omega⟩, ⟨by omega, by omega⟩⟩ (fun c272 => ?_) (fun c272 => ?_)
                        · refine aw_iconst cx 280 dX5_sieved_279 rfl ?_
                          refine aw_ireturn cx dX5_sieved_280 ?_
                          refine hRet _ _ True.intro rfl ?_
                          exact k _ (by rw [G2]; unfold sv3; first | rw [if_pos (by omega)] | rw [if_neg (by omega)])
                        · refine aw_iconst cx 276 dX5_sieved_275 rfl ?_
                          refine aw_goto cx 280 dX5_sieved_276 (by decide) ?_
                          refine aw_ireturn cx dX5_sieved_280 ?_
                          refine hRet _ _ True.intro rfl ?_
                          exact k _ (by rw [G2]; unfold sv3; first | rw [if_pos (by omega)] | rw [if_neg (by omega)])
                · rw [zz_cmp_le] at c209
                  refine aw_iconst cx 213 dX5_sieved_212 rfl ?_
                  refine aw_ireturn cx dX5_sieved_213 ?_
                  refine hRet _ _ True.intro rfl ?_
                  exact k _ (by rw [G]; unfold sv2; rw [if_pos (by first | exact Or.inl (by show _ < _; omega) | exact Or.inr (by show _ < _; rw [bb_c]; omega))])
            · refine aw_iconst cx 111 dX5_sieved_110 rfl ?_
              refine aw_ireturn cx dX5_sieved_111 ?_
              refine hRet _ _ True.intro rfl ?_
              first
              | exact k _ (by unfold sv; rw [if_neg (fun q => q c14), if_neg (by show ¬ ((l - m) * (l - m) + 4 * (k0 - m) = 0); omega), if_neg (by show ¬ (2 * k0 + (n - 1) * (l - m) = 0); omega), if_pos (Or.inl (by show rt ((l - m) * (l - m) + 4 * (k0 - m)) * rt ((l - m) * (l - m) + 4 * (k0 - m)) ≠ (l - m) * (l - m) + 4 * (k0 - m); rw [← e73]; exact c85))])
              | exact k _ (by unfold sv; rw [if_neg (fun q => q c14), if_neg (by show ¬ ((l - m) * (l - m) + 4 * (k0 - m) = 0); omega), if_neg (by show ¬ (2 * k0 + (n - 1) * (l - m) = 0); omega), if_pos (Or.inr (Or.inl (by show (2 * k0 + (n - 1) * (l - m)).tmod (rt ((l - m) * (l - m) + 4 * (k0 - m))) ≠ 0; rw [← e73]; exact c93)))])
              | exact k _ (by unfold sv; rw [if_neg (fun q => q c14), if_neg (by show ¬ ((l - m) * (l - m) + 4 * (k0 - m) = 0); omega), if_neg (by show ¬ (2 * k0 + (n - 1) * (l - m) = 0); omega), if_pos (Or.inr (Or.inr (by show (n - 1 + (2 * k0 + (n - 1) * (l - m)).tdiv (rt ((l - m) * (l - m) + 4 * (k0 - m)))).tmod 2 ≠ 0; rw [← e73]; exact c107)))])
      · refine aw_iload_n cx 60 dX5_sieved_59 rfl rfl ?_
        refine aw_iconst cx 61 dX5_sieved_60 rfl ?_
        refine aw_iremN cx 62 dX5_sieved_61 rfl ⟨by omega, by omega, by omega, by omega⟩ ?_
        refine aw_if_ne cx 65 69 dX5_sieved_62 rfl (by decide) ⟨by omega, by omega⟩ (fun c62 => ?_) (fun c62 => ?_)
        · refine aw_iconst cx 70 dX5_sieved_69 rfl ?_
          refine aw_ireturn cx dX5_sieved_70 ?_
          refine hRet _ _ True.intro rfl ?_
          exact k _ (by unfold sv; rw [if_neg (fun q => q c14), if_neg (by show ¬ ((l - m) * (l - m) + 4 * (k0 - m) = 0); omega), if_pos (by show 2 * k0 + (n - 1) * (l - m) = 0; omega)]; first | rw [if_pos (by omega)] | rw [if_neg (by omega)])
        · refine aw_iconst cx 66 dX5_sieved_65 rfl ?_
          refine aw_goto cx 70 dX5_sieved_66 (by decide) ?_
          refine aw_ireturn cx dX5_sieved_70 ?_
          refine hRet _ _ True.intro rfl ?_
          exact k _ (by unfold sv; rw [if_neg (fun q => q c14), if_neg (by show ¬ ((l - m) * (l - m) + 4 * (k0 - m) = 0); omega), if_pos (by show 2 * k0 + (n - 1) * (l - m) = 0; omega)]; first | rw [if_pos (by omega)] | rw [if_neg (by omega)])
    · refine aw_iconst cx 53 dX5_sieved_52 rfl ?_
      refine aw_ireturn cx dX5_sieved_53 ?_
      refine hRet _ _ True.intro rfl ?_
      exact k _ (by unfold sv; rw [if_neg (fun q => q c14), if_pos (by show (l - m) * (l - m) + 4 * (k0 - m) = 0; omega)])
  · refine aw_iconst cx 18 dX5_sieved_17 rfl ?_
    refine aw_ireturn cx dX5_sieved_18 ?_
    refine hRet _ _ True.intro rfl ?_
    exact k _ (by unfold sv; rw [if_pos c14])

