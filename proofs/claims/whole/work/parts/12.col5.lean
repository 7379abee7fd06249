set_option maxRecDepth 100000 in
set_option maxHeartbeats 4000000 in
theorem s_X0_has {h : AH} {Q : Option AV → AH → Prop} {v i : Int} (k : ∀ b, ((b = 1 ∧ bm v i) ∨ (b = 0 ∧ ¬ bm v i)) → Q (some (vI b)) h) : MC mX0_has [vI v, vI i] h Q := by
  refine mc_start mX0_has RX0 "has" ⟨rfl, rfl, by decide +kernel⟩ [some (vI v), some (vI i)] ⟨0, rfl⟩ rfl (fun X cx hRm hNS hRet => ?_)
  refine aw_iload_n cx 1 dX0_has_0 rfl rfl ?_
  refine aw_iload_n cx 2 dX0_has_1 rfl rfl ?_
  refine aw_ishr cx 3 dX0_has_2 rfl ?_
  refine aw_iconst cx 4 dX0_has_3 rfl ?_
  refine aw_iand cx 5 dX0_has_4 rfl ?_
  refine aw_iconst cx 6 dX0_has_5 rfl ?_
  refine aw_icmp_ne cx 9 13 dX0_has_6 rfl (by decide) ⟨and_r _ _, by constructor <;> omega⟩ (fun c6 => ?_) (fun c6 => ?_)
  · refine aw_iconst cx 14 dX0_has_13 rfl ?_
    refine aw_ireturn cx dX0_has_14 ?_
    refine hRet _ _ (by first | exact Or.inl rfl | exact Or.inr rfl | assumption) rfl ?_
    first | exact k _ (Or.inl ⟨rfl, c6⟩) | exact k _ (Or.inr ⟨rfl, c6⟩)
  · refine aw_iconst cx 10 dX0_has_9 rfl ?_
    refine aw_goto cx 14 dX0_has_10 (by decide) ?_
    refine aw_ireturn cx dX0_has_14 ?_
    refine hRet _ _ (by first | exact Or.inl rfl | exact Or.inr rfl | assumption) rfl ?_
    first | exact k _ (Or.inl ⟨rfl, c6⟩) | exact k _ (Or.inr ⟨rfl, c6⟩)
set_option maxRecDepth 100000 in
set_option maxHeartbeats 4000000 in
theorem s_X0_productsOfTwo {h : AH} {Q : Option AV → AH → Prop} {o : Nat} {C F Nu Co : Int → Int} {n r f : Int} {g : Gr} (hn : 1 ≤ n ∧ n ≤ 8) (hA : ag n C g) (hg : rgn n g) (hr : r = rk n g) (hN : ∀ i j k, 0 ≤ i → i < 5 → 0 ≤ j → j < 5 → 0 ≤ k → k < rk n g → Nu (25 * k + 5 * i + j) = nu n g i j k) {i j : Int} (hi : 0 ≤ i ∧ i < 5) (hj : 0 ≤ j ∧ j < 5) (k : ∀ v, (0 ≤ v ∧ v < 32) → (∀ l, 0 ≤ l → l < 5 → (bm v l ↔ l < rk n g ∧ 0 < nu n g i j l)) → Q (some (vI v)) (hcol h o C F Nu Co n r f)) : MC mX0_productsOfTwo [vR o, vI i, vI j] (hcol h o C F Nu Co n r f) Q := by
  refine mc_start mX0_productsOfTwo RX0 "productsOfTwo" ⟨rfl, rfl, by decide +kernel⟩ [some (vR o), some (vI i), some (vI j), none, none] ⟨2, rfl⟩ rfl (fun X cx hRm hNS hRet => ?_)
  have hR := rk_b (n := n) (g := g) (by omega) hg
  refine aw_iconst cx 1 dX0_productsOfTwo_0 rfl ?_
  refine aw_istore_n cx 2 3 dX0_productsOfTwo_1 rfl rfl ⟨Nat.le_of_ble_eq_true rfl, Nat.le_of_ble_eq_true rfl⟩ rfl ?_
  dsimp only [List.set]
  refine aw_iconst cx 3 dX0_productsOfTwo_2 rfl ?_
  refine aw_istore cx 5 dX0_productsOfTwo_3 rfl ⟨Nat.le_of_ble_eq_true rfl, Nat.le_of_ble_eq_true rfl⟩ rfl ?_
  dsimp only [List.set]
  have lp5 : ∀ (kf : Nat) (k1 v : Int), (r - k1 < (kf : Int)) → (0 ≤ k1 ∧ k1 ≤ r) → (0 ≤ v ∧ v < 32) → (∀ l, 0 ≤ l → l < 5 → (bm v l ↔ l < k1 ∧ 0 < nu n g i j l)) → AW X 5 [some (vR o), some (vI i), some (vI j), some (vI v), some (vI k1)] [] ((hcol h o C F Nu Co n r f)) := by
    intro kf
    induction kf with
    | zero =>
      intro k1 v hk hk1 hv hb
      exfalso
      omega
    | succ kf ih5 =>
      intro k1 v hk hk1 hv hb
      refine aw_iload cx 7 dX0_productsOfTwo_5 rfl rfl ?_
      refine aw_aload_n cx 8 dX0_productsOfTwo_7 rfl rfl ?_
      refine aw_getfield cx 11 dX0_productsOfTwo_8 rfl fdX0_28 (by first | assumption | exact hc_0 | exact hc_1 | exact hc_2 | exact hc_3 | exact hc_4 | exact zz_gs _ _ _ | exact (hc_x (by omega)).trans (by first | assumption | exact hc_0 | exact hc_1 | exact hc_2 | exact hc_3 | exact hc_4 | exact zz_gs _ _ _) | exact (zz_gn (by omega)).trans (by first | assumption | exact hc_0 | exact hc_1 | exact hc_2 | exact hc_3 | exact hc_4 | exact zz_gs _ _ _)) (by rfl) ?_
      refine aw_icmp_ge cx 14 38 dX0_productsOfTwo_11 rfl (by decide) ⟨⟨by omega, by omega⟩, ⟨by omega, by omega⟩⟩ (fun c11 => ?_) (fun c11 => ?_)
      · refine aw_iload_n cx 39 dX0_productsOfTwo_38 rfl rfl ?_
        refine aw_ireturn cx dX0_productsOfTwo_39 ?_
        refine hRet _ _ True.intro rfl ?_
        rw [show k1 = rk n g by omega] at hb
        exact k _ hv hb
      · refine aw_aload_n cx 15 dX0_productsOfTwo_14 rfl rfl ?_
        refine aw_iload_n cx 16 dX0_productsOfTwo_15 rfl rfl ?_
        refine aw_iload_n cx 17 dX0_productsOfTwo_16 rfl rfl ?_
        refine aw_iload cx 19 dX0_productsOfTwo_17 rfl rfl ?_
        refine aw_V3v cx 22 mX0_numberOf (ci := 0) dX0_productsOfTwo_19 rfl okmX0_numberOf lkX0_92 (by first | assumption | exact hc_0 | exact hc_1 | exact hc_2 | exact hc_3 | exact hc_4 | exact zz_gs _ _ _ | exact (hc_x (by omega)).trans (by first | assumption | exact hc_0 | exact hc_1 | exact hc_2 | exact hc_3 | exact hc_4 | exact zz_gs _ _ _) | exact (zz_gn (by omega)).trans (by first | assumption | exact hc_0 | exact hc_1 | exact hc_2 | exact hc_3 | exact hc_4 | exact zz_gs _ _ _)) ⟨rfl, by decide⟩ (zz_rc0 mX0_productsOfTwo hRm hNS rfl rfl) (Nat.le_of_ble_eq_true rfl) ?_
        refine s_X0_numberOf (by first | assumption | exact hc_0 | exact hc_1 | exact hc_2 | exact hc_3 | exact hc_4 | exact (hc_x (by omega)).trans (by first | assumption | exact hc_0 | exact hc_1 | exact hc_2 | exact hc_3 | exact hc_4)) (by first | assumption | exact hc_0 | exact hc_1 | exact hc_2 | exact hc_3 | exact hc_4 | exact (hc_x (by omega)).trans (by first | assumption | exact hc_0 | exact hc_1 | exact hc_2 | exact hc_3 | exact hc_4)) ⟨by omega, by omega⟩ ⟨by omega, by omega⟩ ⟨by omega, by omega⟩ (fun v19 e19 => ⟨_, rfl, ?_⟩)
        have q19 := hN i j k1 (by omega) (by omega) (by omega) (by omega) (by omega) (by omega)
        have w19 := nu_b (n := n) (g := g) (by omega) i j k1
        refine aw_if_le cx 25 32 dX0_productsOfTwo_22 rfl (by decide) ⟨by omega, by omega⟩ (fun c22 => ?_) (fun c22 => ?_)
        · have w35 := hv
          have b35 : ∀ l, 0 ≤ l → l < 5 → (bm v l ↔ l < k1 + 1 ∧ 0 < nu n g i j l) := by
            intro l l0 l1
            rw [hb l l0 l1]
            constructor
            · rintro ⟨a, b⟩
              exact ⟨by omega, b⟩
            · rintro ⟨a, b⟩
              by_cases e : l = k1
              · rw [e] at b
                omega
              · exact ⟨by omega, b⟩
          refine aw_iinc cx 35 dX0_productsOfTwo_32 rfl rfl (Nat.le_of_ble_eq_true rfl) rfl ?_
          dsimp only [List.set]
          refine aw_goto cx 5 dX0_productsOfTwo_35 (by decide) ?_
          exact ih5 (k1 + 1) _ (by omega) ⟨by omega, by omega⟩ w35 b35
        · have s35 := shl_b (k := k1) ⟨by omega, by omega⟩
          have w35 := or_b hv s35
          have b35 : ∀ l, 0 ≤ l → l < 5 → (bm (zz_or v (zz_shl 1 k1)) l ↔ l < k1 + 1 ∧ 0 < nu n g i j l) := by
            intro l l0 l1
            rw [bm_or hv s35 ⟨l0, l1⟩, bm_shl ⟨by omega, by omega⟩ ⟨l0, l1⟩, hb l l0 l1]
            constructor
            · rintro (⟨a, b⟩ | e)
              · exact ⟨by omega, b⟩
              · exact ⟨by omega, by rw [e]; omega⟩
            · rintro ⟨a, b⟩
              by_cases e : l = k1
              · exact Or.inr e
              · exact Or.inl ⟨by omega, b⟩
          refine aw_iload_n cx 26 dX0_productsOfTwo_25 rfl rfl ?_
          refine aw_iconst cx 27 dX0_productsOfTwo_26 rfl ?_
          refine aw_iload cx 29 dX0_productsOfTwo_27 rfl rfl ?_
          refine aw_ishl cx 30 dX0_productsOfTwo_29 rfl ?_
          refine aw_ior cx 31 dX0_productsOfTwo_30 rfl ?_
          refine aw_istore_n cx 32 3 dX0_productsOfTwo_31 rfl rfl ⟨Nat.le_of_ble_eq_true rfl, Nat.le_of_ble_eq_true rfl⟩ rfl ?_
          dsimp only [List.set]
          refine aw_iinc cx 35 dX0_productsOfTwo_32 rfl rfl (Nat.le_of_ble_eq_true rfl) rfl ?_
          dsimp only [List.set]
          refine aw_goto cx 5 dX0_productsOfTwo_35 (by decide) ?_
          exact ih5 (k1 + 1) _ (by omega) ⟨by omega, by omega⟩ w35 b35
  exact lp5 6 0 0 (by omega) ⟨by omega, by omega⟩ ⟨by decide, by decide⟩ (fun l l0 l1 => ⟨fun h9 => absurd h9 (bm_0 ⟨l0, l1⟩), fun h9 => by omega⟩)
set_option maxRecDepth 100000 in
set_option maxHeartbeats 4000000 in
theorem s_X0_productsOf {h : AH} {Q : Option AV → AH → Prop} {o : Nat} {C F Nu Co : Int → Int} {n r f : Int} {g : Gr} (hn : 1 ≤ n ∧ n ≤ 8) (hA : ag n C g) (hg : rgn n g) (hr : r = rk n g) (hN : ∀ i j k, 0 ≤ i → i < 5 → 0 ≤ j → j < 5 → 0 ≤ k → k < rk n g → Nu (25 * k + 5 * i + j) = nu n g i j k) {v : Int} (k : ∀ p, (0 ≤ p ∧ p < 32) → (∀ l, 0 ≤ l → l < 5 → (bm p l ↔ pd n g v l)) → Q (some (vI p)) (hcol h o C F Nu Co n r f)) : MC mX0_productsOf [vR o, vI v] (hcol h o C F Nu Co n r f) Q := by
  refine mc_start mX0_productsOf RX0 "productsOf" ⟨rfl, rfl, by decide +kernel⟩ [some (vR o), some (vI v), none, none, none] ⟨3, rfl⟩ rfl (fun X cx hRm hNS hRet => ?_)
  have hR := rk_b (n := n) (g := g) (by omega) hg
  refine aw_iconst cx 1 dX0_productsOf_0 rfl ?_
  refine aw_istore_n cx 2 2 dX0_productsOf_1 rfl rfl ⟨Nat.le_of_ble_eq_true rfl, Nat.le_of_ble_eq_true rfl⟩ rfl ?_
  dsimp only [List.set]
  refine aw_iconst cx 3 dX0_productsOf_2 rfl ?_
  refine aw_istore_n cx 4 3 dX0_productsOf_3 rfl rfl ⟨Nat.le_of_ble_eq_true rfl, Nat.le_of_ble_eq_true rfl⟩ rfl ?_
  dsimp only [List.set]
  have lp4 : ∀ (kf : Nat) (i p : Int), (r - i < (kf : Int)) → (0 ≤ i ∧ i ≤ r) → (0 ≤ p ∧ p < 32) → (∀ l, 0 ≤ l → l < 5 → (bm p l ↔ pdx n g v i 0 l)) → AW X 4 [some (vR o), some (vI v), some (vI p), some (vI i), none] [] ((hcol h o C F Nu Co n r f)) := by
    intro kf
    induction kf with
    | zero =>
      intro i p hk hi hp hb
      exfalso
      omega
    | succ kf ih4 =>
      intro i p hk hi hp hb
      refine aw_iload_n cx 5 dX0_productsOf_4 rfl rfl ?_
      refine aw_aload_n cx 6 dX0_productsOf_5 rfl rfl ?_
      refine aw_getfield cx 9 dX0_productsOf_6 rfl fdX0_28 (by first | assumption | exact hc_0 | exact hc_1 | exact hc_2 | exact hc_3 | exact hc_4 | exact zz_gs _ _ _ | exact (hc_x (by omega)).trans (by first | assumption | exact hc_0 | exact hc_1 | exact hc_2 | exact hc_3 | exact hc_4 | exact zz_gs _ _ _) | exact (zz_gn (by omega)).trans (by first | assumption | exact hc_0 | exact hc_1 | exact hc_2 | exact hc_3 | exact hc_4 | exact zz_gs _ _ _)) (by rfl) ?_
      refine aw_icmp_ge cx 12 63 dX0_productsOf_9 rfl (by decide) ⟨⟨by omega, by omega⟩, ⟨by omega, by omega⟩⟩ (fun c9 => ?_) (fun c9 => ?_)
      · refine aw_iload_n cx 64 dX0_productsOf_63 rfl rfl ?_
        refine aw_ireturn cx dX0_productsOf_64 ?_
        refine hRet _ _ True.intro rfl ?_
        exact k _ hp (pdx_e (by rw [show i = rk n g by omega] at hb; exact hb))
      · refine aw_iconst cx 13 dX0_productsOf_12 rfl ?_
        refine aw_istore cx 15 dX0_productsOf_13 rfl ⟨Nat.le_of_ble_eq_true rfl, Nat.le_of_ble_eq_true rfl⟩ rfl ?_
        dsimp only [List.set]
        have lp15 : ∀ (kf : Nat) (j p2 : Int), (r - j < (kf : Int)) → (0 ≤ j ∧ j ≤ r) → (0 ≤ p2 ∧ p2 < 32) → (∀ l, 0 ≤ l → l < 5 → (bm p2 l ↔ pdx n g v i j l)) → AW X 15 [some (vR o), some (vI v), some (vI p2), some (vI i), some (vI j)] [] ((hcol h o C F Nu Co n r f)) := by
          intro kf
          induction kf with
          | zero =>
            intro j p2 hk hj hp2 hb2
            exfalso
            omega
          | succ kf ih15 =>
            intro j p2 hk hj hp2 hb2
            refine aw_iload cx 17 dX0_productsOf_15 rfl rfl ?_
            refine aw_aload_n cx 18 dX0_productsOf_17 rfl rfl ?_
            refine aw_getfield cx 21 dX0_productsOf_18 rfl fdX0_28 (by first | assumption | exact hc_0 | exact hc_1 | exact hc_2 | exact hc_3 | exact hc_4 | exact zz_gs _ _ _ | exact (hc_x (by omega)).trans (by first | assumption | exact hc_0 | exact hc_1 | exact hc_2 | exact hc_3 | exact hc_4 | exact zz_gs _ _ _) | exact (zz_gn (by omega)).trans (by first | assumption | exact hc_0 | exact hc_1 | exact hc_2 | exact hc_3 | exact hc_4 | exact zz_gs _ _ _)) (by rfl) ?_
            refine aw_icmp_ge cx 24 57 dX0_productsOf_21 rfl (by decide) ⟨⟨by omega, by omega⟩, ⟨by omega, by omega⟩⟩ (fun c21 => ?_) (fun c21 => ?_)
            · refine aw_iinc cx 60 dX0_productsOf_57 rfl rfl (Nat.le_of_ble_eq_true rfl) rfl ?_
              dsimp only [List.set]
              refine aw_goto cx 4 dX0_productsOf_60 (by decide) ?_
              exact aw_weak (ih4 (i + 1) p2 (by omega) ⟨by omega, by omega⟩ hp2 (pdx_r (by rw [show j = rk n g by omega] at hb2; exact hb2))) (by simp [zz_le])
            · refine aw_iload_n cx 25 dX0_productsOf_24 rfl rfl ?_
              refine aw_iload_n cx 26 dX0_productsOf_25 rfl rfl ?_
              refine aw_S2v cx 29 mX0_has dX0_productsOf_26 rfl okmX0_has lkX0_95 (zz_rc0 mX0_productsOf hRm hNS rfl rfl) (Nat.le_of_ble_eq_true rfl) ?_
              refine s_X0_has (fun v26 e26 => ⟨_, rfl, ?_⟩)
              refine aw_if_eq cx 32 51 dX0_productsOf_29 rfl (by decide) ⟨by omega, by omega⟩ (fun c29 => ?_) (fun c29 => ?_)
              · refine aw_iinc cx 54 dX0_productsOf_51 rfl rfl (Nat.le_of_ble_eq_true rfl) rfl ?_
                dsimp only [List.set]
                refine aw_goto cx 15 dX0_productsOf_54 (by decide) ?_
                first
                | exact ih15 (j + 1) _ (by omega) ⟨by omega, by omega⟩ (or_b hp2 w46) (pdx_y hp2 w46 ⟨by omega, by omega⟩ ⟨by omega, by omega⟩ hb2 b46 (e26.resolve_right (fun q => c29 q.1)).2 (e35.resolve_right (fun q => c38 q.1)).2)
                | exact ih15 (j + 1) _ (by omega) ⟨by omega, by omega⟩ hp2 (pdx_n hb2 (fun q => by omega))
              · refine aw_iload_n cx 33 dX0_productsOf_32 rfl rfl ?_
                refine aw_iload cx 35 dX0_productsOf_33 rfl rfl ?_
                refine aw_S2v cx 38 mX0_has dX0_productsOf_35 rfl okmX0_has lkX0_95 (zz_rc0 mX0_productsOf hRm hNS rfl rfl) (Nat.le_of_ble_eq_true rfl) ?_
                refine s_X0_has (fun v35 e35 => ⟨_, rfl, ?_⟩)
                refine aw_if_eq cx 41 51 dX0_productsOf_38 rfl (by decide) ⟨by omega, by omega⟩ (fun c38 => ?_) (fun c38 => ?_)
                · refine aw_iinc cx 54 dX0_productsOf_51 rfl rfl (Nat.le_of_ble_eq_true rfl) rfl ?_
                  dsimp only [List.set]
                  refine aw_goto cx 15 dX0_productsOf_54 (by decide) ?_
                  first
                  | exact ih15 (j + 1) _ (by omega) ⟨by omega, by omega⟩ (or_b hp2 w46) (pdx_y hp2 w46 ⟨by omega, by omega⟩ ⟨by omega, by omega⟩ hb2 b46 (e26.resolve_right (fun q => c29 q.1)).2 (e35.resolve_right (fun q => c38 q.1)).2)
                  | exact ih15 (j + 1) _ (by omega) ⟨by omega, by omega⟩ hp2 (pdx_n hb2 (fun q => by omega))
                · refine aw_iload_n cx 42 dX0_productsOf_41 rfl rfl ?_
                  refine aw_aload_n cx 43 dX0_productsOf_42 rfl rfl ?_
                  refine aw_iload_n cx 44 dX0_productsOf_43 rfl rfl ?_
                  refine aw_iload cx 46 dX0_productsOf_44 rfl rfl ?_
                  refine aw_V2v cx 49 mX0_productsOfTwo (ci := 0) dX0_productsOf_46 rfl okmX0_productsOfTwo lkX0_102 (by first | assumption | exact hc_0 | exact hc_1 | exact hc_2 | exact hc_3 | exact hc_4 | exact zz_gs _ _ _ | exact (hc_x (by omega)).trans (by first | assumption | exact hc_0 | exact hc_1 | exact hc_2 | exact hc_3 | exact hc_4 | exact zz_gs _ _ _) | exact (zz_gn (by omega)).trans (by first | assumption | exact hc_0 | exact hc_1 | exact hc_2 | exact hc_3 | exact hc_4 | exact zz_gs _ _ _)) ⟨rfl, by decide⟩ (zz_rc0 mX0_productsOf hRm hNS rfl rfl) (Nat.le_of_ble_eq_true rfl) ?_
                  refine s_X0_productsOfTwo hn hA hg hr hN ⟨by omega, by omega⟩ ⟨by omega, by omega⟩ (fun v46 w46 b46 => ⟨_, rfl, ?_⟩)
                  refine aw_ior cx 50 dX0_productsOf_49 rfl ?_
                  refine aw_istore_n cx 51 2 dX0_productsOf_50 rfl rfl ⟨Nat.le_of_ble_eq_true rfl, Nat.le_of_ble_eq_true rfl⟩ rfl ?_
                  dsimp only [List.set]
                  refine aw_iinc cx 54 dX0_productsOf_51 rfl rfl (Nat.le_of_ble_eq_true rfl) rfl ?_
                  dsimp only [List.set]
                  refine aw_goto cx 15 dX0_productsOf_54 (by decide) ?_
                  first
                  | exact ih15 (j + 1) _ (by omega) ⟨by omega, by omega⟩ (or_b hp2 w46) (pdx_y hp2 w46 ⟨by omega, by omega⟩ ⟨by omega, by omega⟩ hb2 b46 (e26.resolve_right (fun q => c29 q.1)).2 (e35.resolve_right (fun q => c38 q.1)).2)
                  | exact ih15 (j + 1) _ (by omega) ⟨by omega, by omega⟩ hp2 (pdx_n hb2 (fun q => by omega))
        exact lp15 6 0 p (by omega) ⟨by omega, by omega⟩ hp hb
  exact aw_weak (lp4 6 0 0 (by omega) ⟨by omega, by omega⟩ ⟨by decide, by decide⟩ pdx_0) (by simp [zz_le])
set_option maxRecDepth 100000 in
set_option maxHeartbeats 4000000 in
theorem s_X0_isClosed {h : AH} {Q : Option AV → AH → Prop} {o : Nat} {C F Nu Co : Int → Int} {n r f : Int} {g : Gr} (hn : 1 ≤ n ∧ n ≤ 8) (hA : ag n C g) (hg : rgn n g) (hr : r = rk n g) (hN : ∀ i j k, 0 ≤ i → i < 5 → 0 ≤ j → j < 5 → 0 ≤ k → k < rk n g → Nu (25 * k + 5 * i + j) = nu n g i j k) {v : Int} (hv : 0 ≤ v ∧ v < 32) (k : ∀ b, ((b = 1 ∧ gw n g v = v) ∨ (b = 0 ∧ ¬ gw n g v = v)) → Q (some (vI b)) (hcol h o C F Nu Co n r f)) : MC mX0_isClosed [vR o, vI v] (hcol h o C F Nu Co n r f) Q := by
  refine mc_start mX0_isClosed RX0 "isClosed" ⟨rfl, rfl, by decide +kernel⟩ [some (vR o), some (vI v)] ⟨0, rfl⟩ rfl (fun X cx hRm hNS hRet => ?_)
  have hR := rk_b (n := n) (g := g) (by omega) hg
  refine aw_iload_n cx 1 dX0_isClosed_0 rfl rfl ?_
  refine aw_iconst cx 2 dX0_isClosed_1 rfl ?_
  refine aw_S2v cx 5 mX0_has dX0_isClosed_2 rfl okmX0_has lkX0_95 (zz_rc0 mX0_isClosed hRm hNS rfl rfl) (Nat.le_of_ble_eq_true rfl) ?_
  refine s_X0_has (fun v2 e2 => ⟨_, rfl, ?_⟩)
  refine aw_if_eq cx 8 24 dX0_isClosed_5 rfl (by decide) ⟨by omega, by omega⟩ (fun c5 => ?_) (fun c5 => ?_)
  · refine aw_iconst cx 25 dX0_isClosed_24 rfl ?_
    refine aw_ireturn cx dX0_isClosed_25 ?_
    refine hRet _ _ (by first | exact Or.inl rfl | exact Or.inr rfl | assumption) rfl ?_
    first
    | exact k _ (Or.inl ⟨rfl, (cl_iff hR hv).mpr ⟨(e2.resolve_right (fun q => c5 q.1)).2, fun l l0 l1 q => (bm_sub w10 hv).mp c17 l l0 l1 ((b10 l l0 l1).mpr q)⟩⟩)
    | exact k _ (Or.inr ⟨rfl, fun q => c17 ((bm_sub w10 hv).mpr (fun l l0 l1 q2 => ((cl_iff hR hv).mp q).2 l l0 l1 ((b10 l l0 l1).mp q2)))⟩)
    | exact k _ (Or.inr ⟨rfl, fun q => by have := ((cl_iff hR hv).mp q).1; omega⟩)
  · refine aw_aload_n cx 9 dX0_isClosed_8 rfl rfl ?_
    refine aw_iload_n cx 10 dX0_isClosed_9 rfl rfl ?_
    refine aw_V1v cx 13 mX0_productsOf (ci := 0) dX0_isClosed_10 rfl okmX0_productsOf lkX0_99 (by first | assumption | exact hc_0 | exact hc_1 | exact hc_2 | exact hc_3 | exact hc_4 | exact zz_gs _ _ _ | exact (hc_x (by omega)).trans (by first | assumption | exact hc_0 | exact hc_1 | exact hc_2 | exact hc_3 | exact hc_4 | exact zz_gs _ _ _) | exact (zz_gn (by omega)).trans (by first | assumption | exact hc_0 | exact hc_1 | exact hc_2 | exact hc_3 | exact hc_4 | exact zz_gs _ _ _)) ⟨rfl, by decide⟩ (zz_rc0 mX0_isClosed hRm hNS rfl rfl) (Nat.le_of_ble_eq_true rfl) ?_
    refine s_X0_productsOf hn hA hg hr hN (fun v10 w10 b10 => ⟨_, rfl, ?_⟩)
    refine aw_iload_n cx 14 dX0_isClosed_13 rfl rfl ?_
    refine aw_iconst cx 15 dX0_isClosed_14 rfl ?_
    refine aw_ixor cx 16 dX0_isClosed_15 rfl ?_
    refine aw_iand cx 17 dX0_isClosed_16 rfl ?_
    refine aw_if_ne cx 20 24 dX0_isClosed_17 rfl (by decide) (and_r _ _) (fun c17 => ?_) (fun c17 => ?_)
    · refine aw_iconst cx 25 dX0_isClosed_24 rfl ?_
      refine aw_ireturn cx dX0_isClosed_25 ?_
      refine hRet _ _ (by first | exact Or.inl rfl | exact Or.inr rfl | assumption) rfl ?_
      first
      | exact k _ (Or.inl ⟨rfl, (cl_iff hR hv).mpr ⟨(e2.resolve_right (fun q => c5 q.1)).2, fun l l0 l1 q => (bm_sub w10 hv).mp c17 l l0 l1 ((b10 l l0 l1).mpr q)⟩⟩)
      | exact k _ (Or.inr ⟨rfl, fun q => c17 ((bm_sub w10 hv).mpr (fun l l0 l1 q2 => ((cl_iff hR hv).mp q).2 l l0 l1 ((b10 l l0 l1).mp q2)))⟩)
      | exact k _ (Or.inr ⟨rfl, fun q => by have := ((cl_iff hR hv).mp q).1; omega⟩)
    · refine aw_iconst cx 21 dX0_isClosed_20 rfl ?_
      refine aw_goto cx 25 dX0_isClosed_21 (by decide) ?_
      refine aw_ireturn cx dX0_isClosed_25 ?_
      refine hRet _ _ (by first | exact Or.inl rfl | exact Or.inr rfl | assumption) rfl ?_
      first
      | exact k _ (Or.inl ⟨rfl, (cl_iff hR hv).mpr ⟨(e2.resolve_right (fun q => c5 q.1)).2, fun l l0 l1 q => (bm_sub w10 hv).mp c17 l l0 l1 ((b10 l l0 l1).mpr q)⟩⟩)
      | exact k _ (Or.inr ⟨rfl, fun q => c17 ((bm_sub w10 hv).mpr (fun l l0 l1 q2 => ((cl_iff hR hv).mp q).2 l l0 l1 ((b10 l l0 l1).mp q2)))⟩)
      | exact k _ (Or.inr ⟨rfl, fun q => by have := ((cl_iff hR hv).mp q).1; omega⟩)
set_option maxRecDepth 100000 in
set_option maxHeartbeats 4000000 in
theorem s_X0_hullOf {h : AH} {Q : Option AV → AH → Prop} {o : Nat} {C F Nu Co : Int → Int} {n r f : Int} {g : Gr} (hn : 1 ≤ n ∧ n ≤ 8) (hA : ag n C g) (hg : rgn n g) (hr : r = rk n g) (hN : ∀ i j k, 0 ≤ i → i < 5 → 0 ≤ j → j < 5 → 0 ≤ k → k < rk n g → Nu (25 * k + 5 * i + j) = nu n g i j k) {v : Int} (hv : 0 ≤ v ∧ v < 32) (hb : blw n g v) (k : ∀ w, w = hl n g v → Q (some (vI w)) (hcol h o C F Nu Co n r f)) : MC mX0_hullOf [vR o, vI v] (hcol h o C F Nu Co n r f) Q := by
  refine mc_start mX0_hullOf RX0 "hullOf" ⟨rfl, rfl, by decide +kernel⟩ [some (vR o), some (vI v), none, none] ⟨2, rfl⟩ rfl (fun X cx hRm hNS hRet => ?_)
  have hR := rk_b (n := n) (g := g) (by omega) hg
  refine aw_iload_n cx 1 dX0_hullOf_0 rfl rfl ?_
  refine aw_iconst cx 2 dX0_hullOf_1 rfl ?_
  refine aw_ior cx 3 dX0_hullOf_2 rfl ?_
  refine aw_istore_n cx 4 2 dX0_hullOf_3 rfl rfl ⟨Nat.le_of_ble_eq_true rfl, Nat.le_of_ble_eq_true rfl⟩ rfl ?_
  dsimp only [List.set]
  refine aw_iconst cx 5 dX0_hullOf_4 rfl ?_
  refine aw_istore_n cx 6 3 dX0_hullOf_5 rfl rfl ⟨Nat.le_of_ble_eq_true rfl, Nat.le_of_ble_eq_true rfl⟩ rfl ?_
  dsimp only [List.set]
  have lp6 : ∀ (kf : Nat) (m w : Int), (r - m < (kf : Int)) → (0 ≤ m ∧ m ≤ r) → w = it n g v m → AW X 6 [some (vR o), some (vI v), some (vI w), some (vI m)] [] ((hcol h o C F Nu Co n r f)) := by
    intro kf
    induction kf with
    | zero =>
      intro m w hk hm hw
      exfalso
      omega
    | succ kf ih6 =>
      intro m w hk hm hw
      obtain ⟨w0, w1, w2, -⟩ := it_p (m := m) hR hv hb hm.1
      rw [← hw] at w0 w2
      refine aw_iload_n cx 7 dX0_hullOf_6 rfl rfl ?_
      refine aw_aload_n cx 8 dX0_hullOf_7 rfl rfl ?_
      refine aw_getfield cx 11 dX0_hullOf_8 rfl fdX0_28 (by first | assumption | exact hc_0 | exact hc_1 | exact hc_2 | exact hc_3 | exact hc_4 | exact zz_gs _ _ _ | exact (hc_x (by omega)).trans (by first | assumption | exact hc_0 | exact hc_1 | exact hc_2 | exact hc_3 | exact hc_4 | exact zz_gs _ _ _) | exact (zz_gn (by omega)).trans (by first | assumption | exact hc_0 | exact hc_1 | exact hc_2 | exact hc_3 | exact hc_4 | exact zz_gs _ _ _)) (by rfl) ?_
      refine aw_icmp_ge cx 14 28 dX0_hullOf_11 rfl (by decide) ⟨⟨by omega, by omega⟩, ⟨by omega, by omega⟩⟩ (fun c11 => ?_) (fun c11 => ?_)
      · refine aw_iload_n cx 29 dX0_hullOf_28 rfl rfl ?_
        refine aw_ireturn cx dX0_hullOf_29 ?_
        refine hRet _ _ True.intro rfl ?_
        exact k _ (by rw [hw, ← hl_rk hR hv hb, show m = rk n g by omega])
      · refine aw_iload_n cx 15 dX0_hullOf_14 rfl rfl ?_
        refine aw_aload_n cx 16 dX0_hullOf_15 rfl rfl ?_
        refine aw_iload_n cx 17 dX0_hullOf_16 rfl rfl ?_
        refine aw_V1v cx 20 mX0_productsOf (ci := 0) dX0_hullOf_17 rfl okmX0_productsOf lkX0_99 (by first | assumption | exact hc_0 | exact hc_1 | exact hc_2 | exact hc_3 | exact hc_4 | exact zz_gs _ _ _ | exact (hc_x (by omega)).trans (by first | assumption | exact hc_0 | exact hc_1 | exact hc_2 | exact hc_3 | exact hc_4 | exact zz_gs _ _ _) | exact (zz_gn (by omega)).trans (by first | assumption | exact hc_0 | exact hc_1 | exact hc_2 | exact hc_3 | exact hc_4 | exact zz_gs _ _ _)) ⟨rfl, by decide⟩ (zz_rc0 mX0_hullOf hRm hNS rfl rfl) (Nat.le_of_ble_eq_true rfl) ?_
        refine s_X0_productsOf hn hA hg hr hN (fun v17 w17 b17 => ⟨_, rfl, ?_⟩)
        refine aw_ior cx 21 dX0_hullOf_20 rfl ?_
        refine aw_istore_n cx 22 2 dX0_hullOf_21 rfl rfl ⟨Nat.le_of_ble_eq_true rfl, Nat.le_of_ble_eq_true rfl⟩ rfl ?_
        dsimp only [List.set]
        refine aw_iinc cx 25 dX0_hullOf_22 rfl rfl (Nat.le_of_ble_eq_true rfl) rfl ?_
        dsimp only [List.set]
        refine aw_goto cx 6 dX0_hullOf_25 (by decide) ?_
        exact ih6 (m + 1) _ (by omega) ⟨by omega, by omega⟩ (by rw [gw_eq hR w0 w2 w17 b17, it_s hm.1, hw])
  exact lp6 6 0 _ (by omega) ⟨by omega, by omega⟩ rfl
set_option maxRecDepth 100000 in
set_option maxHeartbeats 4000000 in
theorem s_X0_closedSets {h : AH} {Q : Option AV → AH → Prop} {o : Nat} {C F Nu Co : Int → Int} {n r f : Int} {g : Gr} (hn : 1 ≤ n ∧ n ≤ 8) (hA : ag n C g) (hg : rgn n g) (hr : r = rk n g) (hN : ∀ i j k, 0 ≤ i → i < 5 → 0 ≤ j → j < 5 → 0 ≤ k → k < rk n g → Nu (25 * k + 5 * i + j) = nu n g i j k) (k : ∀ w, w = cs n g (zz_shl 1 (rk n g)) → Q (some (vI w)) (hcol h o C F Nu Co n r f)) : MC mX0_closedSets [vR o] (hcol h o C F Nu Co n r f) Q := by
  refine mc_start mX0_closedSets RX0 "closedSets" ⟨rfl, rfl, by decide +kernel⟩ [some (vR o), none, none] ⟨2, rfl⟩ rfl (fun X cx hRm hNS hRet => ?_)
  have hR := rk_b (n := n) (g := g) (by omega) hg
  have hS := shl_r (R := r) ⟨by omega, by omega⟩
  refine aw_iconst cx 1 dX0_closedSets_0 rfl ?_
  refine aw_istore_n cx 2 1 dX0_closedSets_1 rfl rfl ⟨Nat.le_of_ble_eq_true rfl, Nat.le_of_ble_eq_true rfl⟩ rfl ?_
  dsimp only [List.set]
  refine aw_iconst cx 3 dX0_closedSets_2 rfl ?_
  refine aw_istore_n cx 4 2 dX0_closedSets_3 rfl rfl ⟨Nat.le_of_ble_eq_true rfl, Nat.le_of_ble_eq_true rfl⟩ rfl ?_
  dsimp only [List.set]
  have lp4 : ∀ (kf : Nat) (s v : Int), (zz_shl 1 r - v < (kf : Int)) → (0 ≤ v ∧ v ≤ zz_shl 1 r) → s = cs n g v → AW X 4 [some (vR o), some (vI s), some (vI v)] [] ((hcol h o C F Nu Co n r f)) := by
    intro kf
    induction kf with
    | zero =>
      intro s v hk hv hs
      exfalso
      omega
    | succ kf ih4 =>
      intro s v hk hv hs
      have hs1 := cs_b (n := n) (g := g) hv.1
      refine aw_iload_n cx 5 dX0_closedSets_4 rfl rfl ?_
      refine aw_iconst cx 6 dX0_closedSets_5 rfl ?_
      refine aw_aload_n cx 7 dX0_closedSets_6 rfl rfl ?_
      refine aw_getfield cx 10 dX0_closedSets_7 rfl fdX0_28 (by first | assumption | exact hc_0 | exact hc_1 | exact hc_2 | exact hc_3 | exact hc_4 | exact zz_gs _ _ _ | exact (hc_x (by omega)).trans (by first | assumption | exact hc_0 | exact hc_1 | exact hc_2 | exact hc_3 | exact hc_4 | exact zz_gs _ _ _) | exact (zz_gn (by omega)).trans (by first | assumption | exact hc_0 | exact hc_1 | exact hc_2 | exact hc_3 | exact hc_4 | exact zz_gs _ _ _)) (by rfl) ?_
      refine aw_ishl cx 11 dX0_closedSets_10 rfl ?_
      refine aw_icmp_ge cx 14 31 dX0_closedSets_11 rfl (by decide) ⟨⟨by omega, by omega⟩, ⟨by omega, by omega⟩⟩ (fun c11 => ?_) (fun c11 => ?_)
      · refine aw_iload_n cx 32 dX0_closedSets_31 rfl rfl ?_
        refine aw_ireturn cx dX0_closedSets_32 ?_
        refine hRet _ _ True.intro rfl ?_
        exact k _ (by rw [hs, show v = zz_shl 1 r by omega, hr])
      · refine aw_aload_n cx 15 dX0_closedSets_14 rfl rfl ?_
        refine aw_iload_n cx 16 dX0_closedSets_15 rfl rfl ?_
        refine aw_V1v cx 19 mX0_isClosed (ci := 0) dX0_closedSets_16 rfl okmX0_isClosed lkX0_105 (by first | assumption | exact hc_0 | exact hc_1 | exact hc_2 | exact hc_3 | exact hc_4 | exact zz_gs _ _ _ | exact (hc_x (by omega)).trans (by first | assumption | exact hc_0 | exact hc_1 | exact hc_2 | exact hc_3 | exact hc_4 | exact zz_gs _ _ _) | exact (zz_gn (by omega)).trans (by first | assumption | exact hc_0 | exact hc_1 | exact hc_2 | exact hc_3 | exact hc_4 | exact zz_gs _ _ _)) ⟨rfl, by decide⟩ (zz_rc0 mX0_closedSets hRm hNS rfl rfl) (Nat.le_of_ble_eq_true rfl) ?_
        refine s_X0_isClosed hn hA hg hr hN ⟨by omega, by omega⟩ (fun v16 e16 => ⟨_, rfl, ?_⟩)
        refine aw_if_eq cx 22 25 dX0_closedSets_19 rfl (by decide) ⟨by omega, by omega⟩ (fun c19 => ?_) (fun c19 => ?_)
        · refine aw_iinc cx 28 dX0_closedSets_25 rfl rfl (Nat.le_of_ble_eq_true rfl) rfl ?_
          dsimp only [List.set]
          refine aw_goto cx 4 dX0_closedSets_28 (by decide) ?_
          exact ih4 _ (v + 1) (by omega) ⟨by omega, by omega⟩ (by rw [cs_s hv.1]; split <;> omega)
        · refine aw_iinc cx 25 dX0_closedSets_22 rfl rfl (Nat.le_of_ble_eq_true rfl) rfl ?_
          dsimp only [List.set]
          refine aw_iinc cx 28 dX0_closedSets_25 rfl rfl (Nat.le_of_ble_eq_true rfl) rfl ?_
          dsimp only [List.set]
          refine aw_goto cx 4 dX0_closedSets_28 (by decide) ?_
          exact ih4 _ (v + 1) (by omega) ⟨by omega, by omega⟩ (by rw [cs_s hv.1]; split <;> omega)
  exact lp4 33 0 0 (by omega) ⟨by omega, by omega⟩ rfl
set_option maxRecDepth 100000 in
set_option maxHeartbeats 4000000 in
theorem s_X0_orderOf {h : AH} {Q : Option AV → AH → Prop} {o : Nat} {C F Nu Co : Int → Int} {n r f : Int} {g : Gr} (hn : 1 ≤ n ∧ n ≤ 8) (hA : ag n C g) (hg : rgn n g) (hr : r = rk n g) (hN : ∀ i j k, 0 ≤ i → i < 5 → 0 ≤ j → j < 5 → 0 ≤ k → k < rk n g → Nu (25 * k + 5 * i + j) = nu n g i j k) {v : Int} (k : ∀ w, w = od n g v 5 → Q (some (vI w)) (hcol h o C F Nu Co n r f)) : MC mX0_orderOf [vR o, vI v] (hcol h o C F Nu Co n r f) Q := by
  refine mc_start mX0_orderOf RX0 "orderOf" ⟨rfl, rfl, by decide +kernel⟩ [some (vR o), some (vI v), none, none] ⟨2, rfl⟩ rfl (fun X cx hRm hNS hRet => ?_)
  have hR := rk_b (n := n) (g := g) (by omega) hg
  refine aw_iconst cx 1 dX0_orderOf_0 rfl ?_
  refine aw_istore_n cx 2 2 dX0_orderOf_1 rfl rfl ⟨Nat.le_of_ble_eq_true rfl, Nat.le_of_ble_eq_true rfl⟩ rfl ?_
  dsimp only [List.set]
  refine aw_iconst cx 3 dX0_orderOf_2 rfl ?_
  refine aw_istore_n cx 4 3 dX0_orderOf_3 rfl rfl ⟨Nat.le_of_ble_eq_true rfl, Nat.le_of_ble_eq_true rfl⟩ rfl ?_
  dsimp only [List.set]
  have lp4 : ∀ (kf : Nat) (s i : Int), (r - i < (kf : Int)) → (0 ≤ i ∧ i ≤ r) → s = od n g v i → AW X 4 [some (vR o), some (vI v), some (vI s), some (vI i)] [] ((hcol h o C F Nu Co n r f)) := by
    intro kf
    induction kf with
    | zero =>
      intro s i hk hi hs
      exfalso
      omega
    | succ kf ih4 =>
      intro s i hk hi hs
      refine aw_iload_n cx 5 dX0_orderOf_4 rfl rfl ?_
      refine aw_aload_n cx 6 dX0_orderOf_5 rfl rfl ?_
      refine aw_getfield cx 9 dX0_orderOf_6 rfl fdX0_28 (by first | assumption | exact hc_0 | exact hc_1 | exact hc_2 | exact hc_3 | exact hc_4 | exact zz_gs _ _ _ | exact (hc_x (by omega)).trans (by first | assumption | exact hc_0 | exact hc_1 | exact hc_2 | exact hc_3 | exact hc_4 | exact zz_gs _ _ _) | exact (zz_gn (by omega)).trans (by first | assumption | exact hc_0 | exact hc_1 | exact hc_2 | exact hc_3 | exact hc_4 | exact zz_gs _ _ _)) (by rfl) ?_
      refine aw_icmp_ge cx 12 34 dX0_orderOf_9 rfl (by decide) ⟨⟨by omega, by omega⟩, ⟨by omega, by omega⟩⟩ (fun c9 => ?_) (fun c9 => ?_)
      · refine aw_iload_n cx 35 dX0_orderOf_34 rfl rfl ?_
        refine aw_ireturn cx dX0_orderOf_35 ?_
        refine hRet _ _ True.intro rfl ?_
        exact k _ (by rw [← od_rk (by omega) hR, hs, show i = rk n g by omega])
      · refine aw_iload_n cx 13 dX0_orderOf_12 rfl rfl ?_
        refine aw_iload_n cx 14 dX0_orderOf_13 rfl rfl ?_
        refine aw_S2v cx 17 mX0_has dX0_orderOf_14 rfl okmX0_has lkX0_95 (zz_rc0 mX0_orderOf hRm hNS rfl rfl) (Nat.le_of_ble_eq_true rfl) ?_
        refine s_X0_has (fun v14 e14 => ⟨_, rfl, ?_⟩)
        refine aw_if_eq cx 20 28 dX0_orderOf_17 rfl (by decide) ⟨by omega, by omega⟩ (fun c17 => ?_) (fun c17 => ?_)
        · refine aw_iinc cx 31 dX0_orderOf_28 rfl rfl (Nat.le_of_ble_eq_true rfl) rfl ?_
          dsimp only [List.set]
          refine aw_goto cx 4 dX0_orderOf_31 (by decide) ?_
          first
          | exact ih4 _ (i + 1) (by omega) ⟨by omega, by omega⟩ (by rw [od_s hi.1, if_pos (e14.resolve_right (fun q => c17 q.1)).2, hs, e23])
          | exact ih4 _ (i + 1) (by omega) ⟨by omega, by omega⟩ (by rw [od_s hi.1, if_neg (fun q => by omega), hs])
        · refine aw_iload_n cx 21 dX0_orderOf_20 rfl rfl ?_
          refine aw_aload_n cx 22 dX0_orderOf_21 rfl rfl ?_
          refine aw_iload_n cx 23 dX0_orderOf_22 rfl rfl ?_
          refine aw_V1v cx 26 mX0_degreeOf (ci := 0) dX0_orderOf_23 rfl okmX0_degreeOf lkX0_108 (by first | assumption | exact hc_0 | exact hc_1 | exact hc_2 | exact hc_3 | exact hc_4 | exact zz_gs _ _ _ | exact (hc_x (by omega)).trans (by first | assumption | exact hc_0 | exact hc_1 | exact hc_2 | exact hc_3 | exact hc_4 | exact zz_gs _ _ _) | exact (zz_gn (by omega)).trans (by first | assumption | exact hc_0 | exact hc_1 | exact hc_2 | exact hc_3 | exact hc_4 | exact zz_gs _ _ _)) ⟨rfl, by decide⟩ (zz_rc0 mX0_orderOf hRm hNS rfl rfl) (Nat.le_of_ble_eq_true rfl) ?_
          refine s_X0_degreeOf hn hA hg ⟨by omega, by omega⟩ (fun v23 e23 => ⟨_, rfl, ?_⟩)
          refine aw_iadd cx 27 dX0_orderOf_26 rfl ?_
          refine aw_istore_n cx 28 2 dX0_orderOf_27 rfl rfl ⟨Nat.le_of_ble_eq_true rfl, Nat.le_of_ble_eq_true rfl⟩ rfl ?_
          dsimp only [List.set]
          refine aw_iinc cx 31 dX0_orderOf_28 rfl rfl (Nat.le_of_ble_eq_true rfl) rfl ?_
          dsimp only [List.set]
          refine aw_goto cx 4 dX0_orderOf_31 (by decide) ?_
          first
          | exact ih4 _ (i + 1) (by omega) ⟨by omega, by omega⟩ (by rw [od_s hi.1, if_pos (e14.resolve_right (fun q => c17 q.1)).2, hs, e23])
          | exact ih4 _ (i + 1) (by omega) ⟨by omega, by omega⟩ (by rw [od_s hi.1, if_neg (fun q => by omega), hs])
  exact lp4 6 0 0 (by omega) ⟨by omega, by omega⟩ rfl
set_option maxRecDepth 100000 in
set_option maxHeartbeats 4000000 in
theorem s_X0_multipliesEitherWay {h : AH} {Q : Option AV → AH → Prop} {o : Nat} {C F Nu Co : Int → Int} {n r f : Int} {g : Gr} (hn : 1 ≤ n ∧ n ≤ 8) (hA : ag n C g) (hg : rgn n g) (hr : r = rk n g) (hN : ∀ i j k, 0 ≤ i → i < 5 → 0 ≤ j → j < 5 → 0 ≤ k → k < rk n g → Nu (25 * k + 5 * i + j) = nu n g i j k) (k : ∀ w, w = tu n g → (w = 0 ∨ w = 1) → Q (some (vI w)) (hcol h o C F Nu Co n r f)) : MC mX0_multipliesEitherWay [vR o] (hcol h o C F Nu Co n r f) Q := by
  refine mc_start mX0_multipliesEitherWay RX0 "multipliesEitherWay" ⟨rfl, rfl, by decide +kernel⟩ [some (vR o), none, none, none] ⟨3, rfl⟩ rfl (fun X cx hRm hNS hRet => ?_)
  have hR := rk_b (n := n) (g := g) (by omega) hg
  refine aw_iconst cx 1 dX0_multipliesEitherWay_0 rfl ?_
  refine aw_istore_n cx 2 1 dX0_multipliesEitherWay_1 rfl rfl ⟨Nat.le_of_ble_eq_true rfl, Nat.le_of_ble_eq_true rfl⟩ rfl ?_
  dsimp only [List.set]
  have lp2 : ∀ (kf : Nat) (i : Int), (r - i < (kf : Int)) → (0 ≤ i ∧ i ≤ r) → (∀ a b c, a < i → 0 ≤ b → b < a → 0 ≤ c → c < r → nu n g a b c = nu n g b a c) → AW X 2 [some (vR o), some (vI i), none, none] [] ((hcol h o C F Nu Co n r f)) := by
    intro kf
    induction kf with
    | zero =>
      intro i hk hi hx
      exfalso
      omega
    | succ kf ih2 =>
      intro i hk hi hx
      refine aw_iload_n cx 3 dX0_multipliesEitherWay_2 rfl rfl ?_
      refine aw_aload_n cx 4 dX0_multipliesEitherWay_3 rfl rfl ?_
      refine aw_getfield cx 7 dX0_multipliesEitherWay_4 rfl fdX0_28 (by first | assumption | exact hc_0 | exact hc_1 | exact hc_2 | exact hc_3 | exact hc_4 | exact zz_gs _ _ _ | exact (hc_x (by omega)).trans (by first | assumption | exact hc_0 | exact hc_1 | exact hc_2 | exact hc_3 | exact hc_4 | exact zz_gs _ _ _) | exact (zz_gn (by omega)).trans (by first | assumption | exact hc_0 | exact hc_1 | exact hc_2 | exact hc_3 | exact hc_4 | exact zz_gs _ _ _)) (by rfl) ?_
      refine aw_icmp_ge cx 10 64 dX0_multipliesEitherWay_7 rfl (by decide) ⟨⟨by omega, by omega⟩, ⟨by omega, by omega⟩⟩ (fun c7 => ?_) (fun c7 => ?_)
      · refine aw_iconst cx 65 dX0_multipliesEitherWay_64 rfl ?_
        refine aw_ireturn cx dX0_multipliesEitherWay_65 ?_
        refine hRet _ _ (by first | exact Or.inl rfl | exact Or.inr rfl | assumption) rfl ?_
        exact k _ (tu_1 hR.2 (fun a b c a0 a1 b0 b1 c0 c1 => by
          by_cases e1 : b < a
          · exact hx a b c (by omega) b0 e1 c0 (by omega)
          · by_cases e2 : a < b
            · exact (hx b a c (by omega) a0 e2 c0 (by omega)).symm
            · rw [show a = b by omega])).symm (Or.inr rfl)
      · refine aw_iconst cx 11 dX0_multipliesEitherWay_10 rfl ?_
        refine aw_istore_n cx 12 2 dX0_multipliesEitherWay_11 rfl rfl ⟨Nat.le_of_ble_eq_true rfl, Nat.le_of_ble_eq_true rfl⟩ rfl ?_
        dsimp only [List.set]
        have lp12 : ∀ (kf : Nat) (j : Int), (i - j < (kf : Int)) → (0 ≤ j ∧ j ≤ i) → (∀ b c, 0 ≤ b → b < j → 0 ≤ c → c < r → nu n g i b c = nu n g b i c) → AW X 12 [some (vR o), some (vI i), some (vI j), none] [] ((hcol h o C F Nu Co n r f)) := by
          intro kf
          induction kf with
          | zero =>
            intro j hk hj hy
            exfalso
            omega
          | succ kf ih12 =>
            intro j hk hj hy
            refine aw_iload_n cx 13 dX0_multipliesEitherWay_12 rfl rfl ?_
            refine aw_iload_n cx 14 dX0_multipliesEitherWay_13 rfl rfl ?_
            refine aw_icmp_ge cx 17 58 dX0_multipliesEitherWay_14 rfl (by decide) ⟨⟨by omega, by omega⟩, ⟨by omega, by omega⟩⟩ (fun c14 => ?_) (fun c14 => ?_)
            · refine aw_iinc cx 61 dX0_multipliesEitherWay_58 rfl rfl (Nat.le_of_ble_eq_true rfl) rfl ?_
              dsimp only [List.set]
              refine aw_goto cx 2 dX0_multipliesEitherWay_61 (by decide) ?_
              exact aw_weak (ih2 (i + 1) (by omega) ⟨by omega, by omega⟩ (fun a b c a1 b0 b1 c0 c1 => by
                by_cases e : a = i
                · rw [e]; exact hy b c b0 (by omega) c0 c1
                · exact hx a b c (by omega) b0 b1 c0 c1)) (by simp [zz_le])
            · refine aw_iconst cx 18 dX0_multipliesEitherWay_17 rfl ?_
              refine aw_istore_n cx 19 3 dX0_multipliesEitherWay_18 rfl rfl ⟨Nat.le_of_ble_eq_true rfl, Nat.le_of_ble_eq_true rfl⟩ rfl ?_
              dsimp only [List.set]
              have lp19 : ∀ (kf : Nat) (k1 : Int), (r - k1 < (kf : Int)) → (0 ≤ k1 ∧ k1 ≤ r) → (∀ c, 0 ≤ c → c < k1 → nu n g i j c = nu n g j i c) → AW X 19 [some (vR o), some (vI i), some (vI j), some (vI k1)] [] ((hcol h o C F Nu Co n r f)) := by
                intro kf
                induction kf with
                | zero =>
                  intro k1 hk hk1 hz
                  exfalso
                  omega
                | succ kf ih19 =>
                  intro k1 hk hk1 hz
                  refine aw_iload_n cx 20 dX0_multipliesEitherWay_19 rfl rfl ?_
                  refine aw_aload_n cx 21 dX0_multipliesEitherWay_20 rfl rfl ?_
                  refine aw_getfield cx 24 dX0_multipliesEitherWay_21 rfl fdX0_28 (by first | assumption | exact hc_0 | exact hc_1 | exact hc_2 | exact hc_3 | exact hc_4 | exact zz_gs _ _ _ | exact (hc_x (by omega)).trans (by first | assumption | exact hc_0 | exact hc_1 | exact hc_2 | exact hc_3 | exact hc_4 | exact zz_gs _ _ _) | exact (zz_gn (by omega)).trans (by first | assumption | exact hc_0 | exact hc_1 | exact hc_2 | exact hc_3 | exact hc_4 | exact zz_gs _ _ _)) (by rfl) ?_
                  refine aw_icmp_ge cx 27 52 dX0_multipliesEitherWay_24 rfl (by decide) ⟨⟨by omega, by omega⟩, ⟨by omega, by omega⟩⟩ (fun c24 => ?_) (fun c24 => ?_)
                  · refine aw_iinc cx 55 dX0_multipliesEitherWay_52 rfl rfl (Nat.le_of_ble_eq_true rfl) rfl ?_
                    dsimp only [List.set]
                    refine aw_goto cx 12 dX0_multipliesEitherWay_55 (by decide) ?_
                    exact aw_weak (ih12 (j + 1) (by omega) ⟨by omega, by omega⟩ (fun b c b0 b1 c0 c1 => by
                      by_cases e : b = j
                      · rw [e]; exact hz c c0 (by omega)
                      · exact hy b c b0 (by omega) c0 c1)) (by simp [zz_le])
                  · refine aw_aload_n cx 28 dX0_multipliesEitherWay_27 rfl rfl ?_
                    refine aw_iload_n cx 29 dX0_multipliesEitherWay_28 rfl rfl ?_
                    refine aw_iload_n cx 30 dX0_multipliesEitherWay_29 rfl rfl ?_
                    refine aw_iload_n cx 31 dX0_multipliesEitherWay_30 rfl rfl ?_
                    refine aw_V3v cx 34 mX0_numberOf (ci := 0) dX0_multipliesEitherWay_31 rfl okmX0_numberOf lkX0_92 (by first | assumption | exact hc_0 | exact hc_1 | exact hc_2 | exact hc_3 | exact hc_4 | exact zz_gs _ _ _ | exact (hc_x (by omega)).trans (by first | assumption | exact hc_0 | exact hc_1 | exact hc_2 | exact hc_3 | exact hc_4 | exact zz_gs _ _ _) | exact (zz_gn (by omega)).trans (by first | assumption | exact hc_0 | exact hc_1 | exact hc_2 | exact hc_3 | exact hc_4 | exact zz_gs _ _ _)) ⟨rfl, by decide⟩ (zz_rc0 mX0_multipliesEitherWay hRm hNS rfl rfl) (Nat.le_of_ble_eq_true rfl) ?_
                    refine s_X0_numberOf (by first | assumption | exact hc_0 | exact hc_1 | exact hc_2 | exact hc_3 | exact hc_4 | exact (hc_x (by omega)).trans (by first | assumption | exact hc_0 | exact hc_1 | exact hc_2 | exact hc_3 | exact hc_4)) (by first | assumption | exact hc_0 | exact hc_1 | exact hc_2 | exact hc_3 | exact hc_4 | exact (hc_x (by omega)).trans (by first | assumption | exact hc_0 | exact hc_1 | exact hc_2 | exact hc_3 | exact hc_4)) ⟨by omega, by omega⟩ ⟨by omega, by omega⟩ ⟨by omega, by omega⟩ (fun v31 e31 => ⟨_, rfl, ?_⟩)
                    have q31 := hN i j k1 (by omega) (by omega) (by omega) (by omega) (by omega) (by omega)
                    have w31 := nu_b (n := n) (g := g) (by omega) i j k1
                    refine aw_aload_n cx 35 dX0_multipliesEitherWay_34 rfl rfl ?_
                    refine aw_iload_n cx 36 dX0_multipliesEitherWay_35 rfl rfl ?_
                    refine aw_iload_n cx 37 dX0_multipliesEitherWay_36 rfl rfl ?_
                    refine aw_iload_n cx 38 dX0_multipliesEitherWay_37 rfl rfl ?_
                    refine aw_V3v cx 41 mX0_numberOf (ci := 0) dX0_multipliesEitherWay_38 rfl okmX0_numberOf lkX0_92 (by first | assumption | exact hc_0 | exact hc_1 | exact hc_2 | exact hc_3 | exact hc_4 | exact zz_gs _ _ _ | exact (hc_x (by omega)).trans (by first | assumption | exact hc_0 | exact hc_1 | exact hc_2 | exact hc_3 | exact hc_4 | exact zz_gs _ _ _) | exact (zz_gn (by omega)).trans (by first | assumption | exact hc_0 | exact hc_1 | exact hc_2 | exact hc_3 | exact hc_4 | exact zz_gs _ _ _)) ⟨rfl, by decide⟩ (zz_rc0 mX0_multipliesEitherWay hRm hNS rfl rfl) (Nat.le_of_ble_eq_true rfl) ?_
                    refine s_X0_numberOf (by first | assumption | exact hc_0 | exact hc_1 | exact hc_2 | exact hc_3 | exact hc_4 | exact (hc_x (by omega)).trans (by first | assumption | exact hc_0 | exact hc_1 | exact hc_2 | exact hc_3 | exact hc_4)) (by first | assumption | exact hc_0 | exact hc_1 | exact hc_2 | exact hc_3 | exact hc_4 | exact (hc_x (by omega)).trans (by first | assumption | exact hc_0 | exact hc_1 | exact hc_2 | exact hc_3 | exact hc_4)) ⟨by omega, by omega⟩ ⟨by omega, by omega⟩ ⟨by omega, by omega⟩ (fun v38 e38 => ⟨_, rfl, ?_⟩)
                    have q38 := hN j i k1 (by omega) (by omega) (by omega) (by omega) (by omega) (by omega)
                    have w38 := nu_b (n := n) (g := g) (by omega) j i k1
                    refine aw_icmp_eq cx 44 46 dX0_multipliesEitherWay_41 rfl (by decide) ⟨⟨by omega, by omega⟩, ⟨by omega, by omega⟩⟩ (fun c41 => ?_) (fun c41 => ?_)
                    · refine aw_iinc cx 49 dX0_multipliesEitherWay_46 rfl rfl (Nat.le_of_ble_eq_true rfl) rfl ?_
                      dsimp only [List.set]
                      refine aw_goto cx 19 dX0_multipliesEitherWay_49 (by decide) ?_
                      exact ih19 (k1 + 1) (by omega) ⟨by omega, by omega⟩ (fun c c0 c1 => by
                        by_cases e : c = k1
                        · rw [e]; omega
                        · exact hz c c0 (by omega))
                    · refine aw_iconst cx 45 dX0_multipliesEitherWay_44 rfl ?_
                      refine aw_ireturn cx dX0_multipliesEitherWay_45 ?_
                      refine hRet _ _ (by first | exact Or.inl rfl | exact Or.inr rfl | assumption) rfl ?_
                      exact k _ (tu_0 (i := i) (j := j) (k := k1) hR.2 ⟨by omega, by omega⟩ ⟨by omega, by omega⟩ ⟨by omega, by omega⟩ (by omega)).symm (Or.inl rfl)
              exact aw_weak (lp19 6 0 (by omega) ⟨by omega, by omega⟩ (fun c c0 c1 => by omega)) (by simp [zz_le])
        exact aw_weak (lp12 6 0 (by omega) ⟨by omega, by omega⟩ (fun b c b0 b1 c0 c1 => by omega)) (by simp [zz_le])
  exact aw_weak (lp2 6 0 (by omega) ⟨by omega, by omega⟩ (fun a b c a1 b0 b1 c0 c1 => by omega)) (by simp [zz_le])
