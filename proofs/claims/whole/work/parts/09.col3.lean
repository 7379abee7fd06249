set_option maxRecDepth 100000 in
set_option maxHeartbeats 4000000 in
theorem s_X0_misplacedZero {h : AH} {Q : Option AV → AH → Prop} {o : Nat} {C F Nu Co : Int → Int} {n r f : Int} {g : Gr} (hn : 1 ≤ n ∧ n ≤ 8) (hA : ag n C g) (hg : rgn n g) (k : ∀ v, v = sc n (tA g) → (0 ≤ v ∧ v < 1000) → Q (some (vI v)) (hcol h o C F Nu Co n r f)) : MC mX0_misplacedZero [vR o] (hcol h o C F Nu Co n r f) Q := by
  refine mc_start mX0_misplacedZero RX0 "misplacedZero" ⟨rfl, rfl, by decide +kernel⟩ [some (vR o), none, none] ⟨2, rfl⟩ rfl (fun X cx hRm hNS hRet => ?_)
  refine aw_iconst cx 1 dX0_misplacedZero_0 rfl ?_
  refine aw_istore_n cx 2 1 dX0_misplacedZero_1 rfl rfl ⟨Nat.le_of_ble_eq_true rfl, Nat.le_of_ble_eq_true rfl⟩ rfl ?_
  dsimp only [List.set]
  have lp2 : ∀ (kf : Nat) (a : Int), (n - a < (kf : Int)) → (0 ≤ a ∧ a ≤ n) → (∀ x y, 0 ≤ x → x < n → 0 ≤ y → y < n → x < a → tA g x y = 0) → AW X 2 [some (vR o), some (vI a), none] [] ((hcol h o C F Nu Co n r f)) := by
    intro kf
    induction kf with
    | zero =>
      intro a hk ha hz
      exfalso
      omega
    | succ kf ih2 =>
      intro a hk ha hz
      refine aw_iload_n cx 3 dX0_misplacedZero_2 rfl rfl ?_
      refine aw_aload_n cx 4 dX0_misplacedZero_3 rfl rfl ?_
      refine aw_getfield cx 7 dX0_misplacedZero_4 rfl fdX0_24 (by first | assumption | exact hc_0 | exact hc_1 | exact hc_2 | exact hc_3 | exact hc_4 | exact zz_gs _ _ _) (by rfl) ?_
      refine aw_icmp_ge cx 10 66 dX0_misplacedZero_7 rfl (by decide) ⟨⟨by omega, by omega⟩, ⟨by omega, by omega⟩⟩ (fun c7 => ?_) (fun c7 => ?_)
      · refine aw_iconst cx 67 dX0_misplacedZero_66 rfl ?_
        refine aw_ireturn cx dX0_misplacedZero_67 ?_
        refine hRet _ _ True.intro rfl ?_
        exact k _ (by rw [sc_zero (by omega) (fun x y x0 x1 y0 y1 => hz x y x0 x1 y0 y1 (by omega))]) ⟨by decide, by decide⟩
      · refine aw_iconst cx 11 dX0_misplacedZero_10 rfl ?_
        refine aw_istore_n cx 12 2 dX0_misplacedZero_11 rfl rfl ⟨Nat.le_of_ble_eq_true rfl, Nat.le_of_ble_eq_true rfl⟩ rfl ?_
        dsimp only [List.set]
        have lp12 : ∀ (kf : Nat) (b : Int), (n - b < (kf : Int)) → (0 ≤ b ∧ b ≤ n) → (∀ y, 0 ≤ y → y < b → tA g a y = 0) → AW X 12 [some (vR o), some (vI a), some (vI b)] [] ((hcol h o C F Nu Co n r f)) := by
          intro kf
          induction kf with
          | zero =>
            intro b hk hb hy
            exfalso
            omega
          | succ kf ih12 =>
            intro b hk hb hy
            refine aw_iload_n cx 13 dX0_misplacedZero_12 rfl rfl ?_
            refine aw_aload_n cx 14 dX0_misplacedZero_13 rfl rfl ?_
            refine aw_getfield cx 17 dX0_misplacedZero_14 rfl fdX0_24 (by first | assumption | exact hc_0 | exact hc_1 | exact hc_2 | exact hc_3 | exact hc_4 | exact zz_gs _ _ _) (by rfl) ?_
            refine aw_icmp_ge cx 20 60 dX0_misplacedZero_17 rfl (by decide) ⟨⟨by omega, by omega⟩, ⟨by omega, by omega⟩⟩ (fun c17 => ?_) (fun c17 => ?_)
            · refine aw_iinc cx 63 dX0_misplacedZero_60 rfl rfl (Nat.le_of_ble_eq_true rfl) rfl ?_
              dsimp only [List.set]
              refine aw_goto cx 2 dX0_misplacedZero_63 (by decide) ?_
              exact aw_weak (ih2 (a + 1) (by omega) ⟨by omega, by omega⟩ (fun x y x0 x1 y0 y1 hl => by
                by_cases e : x = a
                · rw [e]
                  exact hy y y0 (by omega)
                · exact hz x y x0 x1 y0 y1 (by omega))) ⟨rfl, rfl, True.intro⟩
            · refine aw_aload_n cx 21 dX0_misplacedZero_20 rfl rfl ?_
              refine aw_iload_n cx 22 dX0_misplacedZero_21 rfl rfl ?_
              refine aw_iload_n cx 23 dX0_misplacedZero_22 rfl rfl ?_
              refine aw_V2v cx 26 mX0_colourOf (ci := 0) dX0_misplacedZero_23 rfl okmX0_colourOf lkX0_41 (by first | assumption | exact hc_0 | exact hc_1 | exact hc_2 | exact hc_3 | exact hc_4 | exact zz_gs _ _ _) ⟨rfl, by decide⟩ (zz_rc0 mX0_misplacedZero hRm hNS rfl rfl) (Nat.le_of_ble_eq_true rfl) ?_
              refine s_X0_colourOf (by first | assumption | exact hc_0 | exact hc_1 | exact hc_2 | exact hc_3 | exact hc_4 | exact (hc_x (by omega)).trans (by first | assumption | exact hc_0 | exact hc_1 | exact hc_2 | exact hc_3 | exact hc_4)) (by first | assumption | exact hc_0 | exact hc_1 | exact hc_2 | exact hc_3 | exact hc_4 | exact (hc_x (by omega)).trans (by first | assumption | exact hc_0 | exact hc_1 | exact hc_2 | exact hc_3 | exact hc_4)) ⟨by omega, by omega⟩ ⟨by omega, by omega⟩ (fun v23 e23 => ⟨_, rfl, ?_⟩)
              have q23 := hA a b (by omega) (by omega) (by omega) (by omega)
              have w23 := hg a b (by omega) (by omega) (by omega) (by omega)
              refine aw_if_ne cx 29 33 dX0_misplacedZero_26 rfl (by decide) ⟨by omega, by omega⟩ (fun c26 => ?_) (fun c26 => ?_)
              · refine aw_iconst cx 34 dX0_misplacedZero_33 rfl ?_
                refine aw_iload_n cx 35 dX0_misplacedZero_34 rfl rfl ?_
                refine aw_iload_n cx 36 dX0_misplacedZero_35 rfl rfl ?_
                refine aw_icmp_ne cx 39 43 dX0_misplacedZero_36 rfl (by decide) ⟨⟨by omega, by omega⟩, ⟨by omega, by omega⟩⟩ (fun c36 => ?_) (fun c36 => ?_)
                · refine aw_iconst cx 44 dX0_misplacedZero_43 rfl ?_
                  refine aw_icmp_eq cx 47 54 dX0_misplacedZero_44 rfl (by decide) ⟨⟨by omega, by omega⟩, ⟨by omega, by omega⟩⟩ (fun c44 => ?_) (fun c44 => ?_)
                  · first
                    | (exfalso; omega)
                    | (refine aw_iinc cx 57 dX0_misplacedZero_54 rfl rfl (Nat.le_of_ble_eq_true rfl) rfl ?_
                       dsimp only [List.set]
                       refine aw_goto cx 12 dX0_misplacedZero_57 (by decide) ?_
                       exact ih12 (b + 1) (by omega) ⟨by omega, by omega⟩ (fun y y0 y1 => by
                         by_cases e : y = b
                         · rw [e]
                           exact tA_0 (by omega)
                         · exact hy y y0 (by omega)))
                  · first
                    | (exfalso; omega)
                    | (refine aw_iconst cx 48 dX0_misplacedZero_47 rfl ?_
                       refine aw_iload_n cx 49 dX0_misplacedZero_48 rfl rfl ?_
                       refine aw_iload_n cx 50 dX0_misplacedZero_49 rfl rfl ?_
                       refine aw_S3v cx 53 mX0_failureAt dX0_misplacedZero_50 rfl okmX0_failureAt lkX0_72 (zz_rc0 mX0_misplacedZero hRm hNS rfl rfl) (Nat.le_of_ble_eq_true rfl) ?_
                       refine s_X0_failureAt (fun v50 e50 => ⟨_, rfl, ?_⟩)
                       refine aw_ireturn cx dX0_misplacedZero_53 ?_
                       refine hRet _ _ True.intro rfl ?_
                       have h1 : tA g a b = 100 + 10 * a + b := tA_1 (by omega)
                       exact k _ (by
                         rw [e50, sc_first (t := tA g) (a := a) (b := b) ⟨by omega, by omega⟩ ⟨by omega, by omega⟩ (fun x y x0 x1 y0 y1 hl => by
                           rcases hl with hl | ⟨e, hl⟩
                           · exact hz x y x0 x1 y0 y1 hl
                           · rw [e]
                             exact hy y y0 hl) (by omega), h1]
                         omega) ⟨by omega, by omega⟩)
                · refine aw_iconst cx 40 dX0_misplacedZero_39 rfl ?_
                  refine aw_goto cx 44 dX0_misplacedZero_40 (by decide) ?_
                  refine aw_icmp_eq cx 47 54 dX0_misplacedZero_44 rfl (by decide) ⟨⟨by omega, by omega⟩, ⟨by omega, by omega⟩⟩ (fun c44 => ?_) (fun c44 => ?_)
                  · first
                    | (exfalso; omega)
                    | (refine aw_iinc cx 57 dX0_misplacedZero_54 rfl rfl (Nat.le_of_ble_eq_true rfl) rfl ?_
                       dsimp only [List.set]
                       refine aw_goto cx 12 dX0_misplacedZero_57 (by decide) ?_
                       exact ih12 (b + 1) (by omega) ⟨by omega, by omega⟩ (fun y y0 y1 => by
                         by_cases e : y = b
                         · rw [e]
                           exact tA_0 (by omega)
                         · exact hy y y0 (by omega)))
                  · first
                    | (exfalso; omega)
                    | (refine aw_iconst cx 48 dX0_misplacedZero_47 rfl ?_
                       refine aw_iload_n cx 49 dX0_misplacedZero_48 rfl rfl ?_
                       refine aw_iload_n cx 50 dX0_misplacedZero_49 rfl rfl ?_
                       refine aw_S3v cx 53 mX0_failureAt dX0_misplacedZero_50 rfl okmX0_failureAt lkX0_72 (zz_rc0 mX0_misplacedZero hRm hNS rfl rfl) (Nat.le_of_ble_eq_true rfl) ?_
                       refine s_X0_failureAt (fun v50 e50 => ⟨_, rfl, ?_⟩)
                       refine aw_ireturn cx dX0_misplacedZero_53 ?_
                       refine hRet _ _ True.intro rfl ?_
                       have h1 : tA g a b = 100 + 10 * a + b := tA_1 (by omega)
                       exact k _ (by
                         rw [e50, sc_first (t := tA g) (a := a) (b := b) ⟨by omega, by omega⟩ ⟨by omega, by omega⟩ (fun x y x0 x1 y0 y1 hl => by
                           rcases hl with hl | ⟨e, hl⟩
                           · exact hz x y x0 x1 y0 y1 hl
                           · rw [e]
                             exact hy y y0 hl) (by omega), h1]
                         omega) ⟨by omega, by omega⟩)
              · refine aw_iconst cx 30 dX0_misplacedZero_29 rfl ?_
                refine aw_goto cx 34 dX0_misplacedZero_30 (by decide) ?_
                refine aw_iload_n cx 35 dX0_misplacedZero_34 rfl rfl ?_
                refine aw_iload_n cx 36 dX0_misplacedZero_35 rfl rfl ?_
                refine aw_icmp_ne cx 39 43 dX0_misplacedZero_36 rfl (by decide) ⟨⟨by omega, by omega⟩, ⟨by omega, by omega⟩⟩ (fun c36 => ?_) (fun c36 => ?_)
                · refine aw_iconst cx 44 dX0_misplacedZero_43 rfl ?_
                  refine aw_icmp_eq cx 47 54 dX0_misplacedZero_44 rfl (by decide) ⟨⟨by omega, by omega⟩, ⟨by omega, by omega⟩⟩ (fun c44 => ?_) (fun c44 => ?_)
                  · first
                    | (exfalso; omega)
                    | (refine aw_iinc cx 57 dX0_misplacedZero_54 rfl rfl (Nat.le_of_ble_eq_true rfl) rfl ?_
                       dsimp only [List.set]
                       refine aw_goto cx 12 dX0_misplacedZero_57 (by decide) ?_
                       exact ih12 (b + 1) (by omega) ⟨by omega, by omega⟩ (fun y y0 y1 => by
                         by_cases e : y = b
                         · rw [e]
                           exact tA_0 (by omega)
                         · exact hy y y0 (by omega)))
                  · first
                    | (exfalso; omega)
                    | (refine aw_iconst cx 48 dX0_misplacedZero_47 rfl ?_
                       refine aw_iload_n cx 49 dX0_misplacedZero_48 rfl rfl ?_
                       refine aw_iload_n cx 50 dX0_misplacedZero_49 rfl rfl ?_
                       refine aw_S3v cx 53 mX0_failureAt dX0_misplacedZero_50 rfl okmX0_failureAt lkX0_72 (zz_rc0 mX0_misplacedZero hRm hNS rfl rfl) (Nat.le_of_ble_eq_true rfl) ?_
                       refine s_X0_failureAt (fun v50 e50 => ⟨_, rfl, ?_⟩)
                       refine aw_ireturn cx dX0_misplacedZero_53 ?_
                       refine hRet _ _ True.intro rfl ?_
                       have h1 : tA g a b = 100 + 10 * a + b := tA_1 (by omega)
                       exact k _ (by
                         rw [e50, sc_first (t := tA g) (a := a) (b := b) ⟨by omega, by omega⟩ ⟨by omega, by omega⟩ (fun x y x0 x1 y0 y1 hl => by
                           rcases hl with hl | ⟨e, hl⟩
                           · exact hz x y x0 x1 y0 y1 hl
                           · rw [e]
                             exact hy y y0 hl) (by omega), h1]
                         omega) ⟨by omega, by omega⟩)
                · refine aw_iconst cx 40 dX0_misplacedZero_39 rfl ?_
                  refine aw_goto cx 44 dX0_misplacedZero_40 (by decide) ?_
                  refine aw_icmp_eq cx 47 54 dX0_misplacedZero_44 rfl (by decide) ⟨⟨by omega, by omega⟩, ⟨by omega, by omega⟩⟩ (fun c44 => ?_) (fun c44 => ?_)
                  · first
                    | (exfalso; omega)
                    | (refine aw_iinc cx 57 dX0_misplacedZero_54 rfl rfl (Nat.le_of_ble_eq_true rfl) rfl ?_
                       dsimp only [List.set]
                       refine aw_goto cx 12 dX0_misplacedZero_57 (by decide) ?_
                       exact ih12 (b + 1) (by omega) ⟨by omega, by omega⟩ (fun y y0 y1 => by
                         by_cases e : y = b
                         · rw [e]
                           exact tA_0 (by omega)
                         · exact hy y y0 (by omega)))
                  · first
                    | (exfalso; omega)
                    | (refine aw_iconst cx 48 dX0_misplacedZero_47 rfl ?_
                       refine aw_iload_n cx 49 dX0_misplacedZero_48 rfl rfl ?_
                       refine aw_iload_n cx 50 dX0_misplacedZero_49 rfl rfl ?_
                       refine aw_S3v cx 53 mX0_failureAt dX0_misplacedZero_50 rfl okmX0_failureAt lkX0_72 (zz_rc0 mX0_misplacedZero hRm hNS rfl rfl) (Nat.le_of_ble_eq_true rfl) ?_
                       refine s_X0_failureAt (fun v50 e50 => ⟨_, rfl, ?_⟩)
                       refine aw_ireturn cx dX0_misplacedZero_53 ?_
                       refine hRet _ _ True.intro rfl ?_
                       have h1 : tA g a b = 100 + 10 * a + b := tA_1 (by omega)
                       exact k _ (by
                         rw [e50, sc_first (t := tA g) (a := a) (b := b) ⟨by omega, by omega⟩ ⟨by omega, by omega⟩ (fun x y x0 x1 y0 y1 hl => by
                           rcases hl with hl | ⟨e, hl⟩
                           · exact hz x y x0 x1 y0 y1 hl
                           · rw [e]
                             exact hy y y0 hl) (by omega), h1]
                         omega) ⟨by omega, by omega⟩)
        exact aw_weak (lp12 (n.toNat + 1) 0 (by omega) ⟨by omega, by omega⟩ (fun y y0 y1 => by omega)) ⟨rfl, rfl, rfl, True.intro⟩
  exact aw_weak (lp2 (n.toNat + 1) 0 (by omega) ⟨by omega, by omega⟩ (fun x y x0 x1 y0 y1 hl => by omega)) ⟨rfl, rfl, True.intro⟩
set_option maxRecDepth 100000 in
set_option maxHeartbeats 4000000 in
theorem s_X0_missingColour {h : AH} {Q : Option AV → AH → Prop} {o : Nat} {C F Nu Co : Int → Int} {n r f : Int} {g : Gr} (hn : 1 ≤ n ∧ n ≤ 8) (hg : rgn n g) (hF : ∀ c, 0 ≤ c → c < 5 → F c = fp n g c) (hr : r = rk n g) (k : ∀ v, v = tB n g → (0 ≤ v ∧ v < 1000) → Q (some (vI v)) (hcol h o C F Nu Co n r f)) : MC mX0_missingColour [vR o] (hcol h o C F Nu Co n r f) Q := by
  refine mc_start mX0_missingColour RX0 "missingColour" ⟨rfl, rfl, by decide +kernel⟩ [some (vR o), none] ⟨1, rfl⟩ rfl (fun X cx hRm hNS hRet => ?_)
  have hrb := rk_b (n := n) (g := g) (by omega) hg
  refine aw_iconst cx 1 dX0_missingColour_0 rfl ?_
  refine aw_istore_n cx 2 1 dX0_missingColour_1 rfl rfl ⟨Nat.le_of_ble_eq_true rfl, Nat.le_of_ble_eq_true rfl⟩ rfl ?_
  dsimp only [List.set]
  have lp2 : ∀ (kf : Nat) (c : Int), (r - c < (kf : Int)) → (0 ≤ c ∧ c ≤ r) → (∀ y, 0 ≤ y → y < c → fp n g y ≠ -1) → AW X 2 [some (vR o), some (vI c)] [] ((hcol h o C F Nu Co n r f)) := by
    intro kf
    induction kf with
    | zero =>
      intro c hk hc hy
      exfalso
      omega
    | succ kf ih2 =>
      intro c hk hc hy
      refine aw_iload_n cx 3 dX0_missingColour_2 rfl rfl ?_
      refine aw_aload_n cx 4 dX0_missingColour_3 rfl rfl ?_
      refine aw_getfield cx 7 dX0_missingColour_4 rfl fdX0_28 (by first | assumption | exact hc_0 | exact hc_1 | exact hc_2 | exact hc_3 | exact hc_4 | exact zz_gs _ _ _) (by rfl) ?_
      refine aw_icmp_ge cx 10 33 dX0_missingColour_7 rfl (by decide) ⟨⟨by omega, by omega⟩, ⟨by omega, by omega⟩⟩ (fun c7 => ?_) (fun c7 => ?_)
      · refine aw_iconst cx 34 dX0_missingColour_33 rfl ?_
        refine aw_ireturn cx dX0_missingColour_34 ?_
        refine hRet _ _ True.intro rfl ?_
        exact k _ (by rw [tB_0 (fun c c0 c1 c2 => hy c c0 (by omega))]) ⟨by decide, by decide⟩
      · refine aw_aload_n cx 11 dX0_missingColour_10 rfl rfl ?_
        refine aw_getfield cx 14 dX0_missingColour_11 rfl fdX0_15 (by first | assumption | exact hc_0 | exact hc_1 | exact hc_2 | exact hc_3 | exact hc_4 | exact zz_gs _ _ _) (by rfl) ?_
        refine aw_iload_n cx 15 dX0_missingColour_14 rfl rfl ?_
        refine aw_iaload cx 16 dX0_missingColour_15 rfl (by first | assumption | exact hc_0 | exact hc_1 | exact hc_2 | exact hc_3 | exact hc_4 | exact zz_gs _ _ _) ⟨by omega, by omega⟩ (by decide) ?_
        have q15 := hF c (by omega) (by omega)
        have w15 := fp_b (n := n) (g := g) ⟨by omega, by omega⟩ c
        refine aw_iconst cx 17 dX0_missingColour_16 rfl ?_
        refine aw_icmp_ne cx 20 27 dX0_missingColour_17 rfl (by decide) ⟨⟨by omega, by omega⟩, ⟨by omega, by omega⟩⟩ (fun c17 => ?_) (fun c17 => ?_)
        · refine aw_iinc cx 30 dX0_missingColour_27 rfl rfl (Nat.le_of_ble_eq_true rfl) rfl ?_
          dsimp only [List.set]
          refine aw_goto cx 2 dX0_missingColour_30 (by decide) ?_
          exact ih2 (c + 1) (by omega) ⟨by omega, by omega⟩ (fun y y0 y1 => by
            by_cases e : y = c
            · rw [e]
              omega
            · exact hy y y0 (by omega))
        · refine aw_iconst cx 21 dX0_missingColour_20 rfl ?_
          refine aw_iconst cx 22 dX0_missingColour_21 rfl ?_
          refine aw_iconst cx 23 dX0_missingColour_22 rfl ?_
          refine aw_S3v cx 26 mX0_failureAt dX0_missingColour_23 rfl okmX0_failureAt lkX0_72 (zz_rc0 mX0_missingColour hRm hNS rfl rfl) (Nat.le_of_ble_eq_true rfl) ?_
          refine s_X0_failureAt (fun v23 e23 => ⟨_, rfl, ?_⟩)
          refine aw_ireturn cx dX0_missingColour_26 ?_
          refine hRet _ _ True.intro rfl ?_
          exact k _ (by rw [e23, tB_1 (c := c) ⟨by omega, by omega⟩ (by omega) (by omega)]; rfl) ⟨by omega, by omega⟩
  exact lp2 (r.toNat + 1) 0 (by omega) ⟨by omega, by omega⟩ (fun y y0 y1 => by omega)
set_option maxRecDepth 100000 in
set_option maxHeartbeats 4000000 in
theorem s_X0_wrongReversal {h : AH} {Q : Option AV → AH → Prop} {o : Nat} {C F Nu Co : Int → Int} {n r f : Int} {g : Gr} (hn : 1 ≤ n ∧ n ≤ 8) (hA : ag n C g) (hg : rgn n g) (hF : ∀ c, 0 ≤ c → c < 5 → F c = fp n g c) (k : ∀ v, v = sc n (tC n g) → (0 ≤ v ∧ v < 1000) → Q (some (vI v)) (hcol h o C F Nu Co n r f)) : MC mX0_wrongReversal [vR o] (hcol h o C F Nu Co n r f) Q := by
  refine mc_start mX0_wrongReversal RX0 "wrongReversal" ⟨rfl, rfl, by decide +kernel⟩ [some (vR o), none, none] ⟨2, rfl⟩ rfl (fun X cx hRm hNS hRet => ?_)
  refine aw_iconst cx 1 dX0_wrongReversal_0 rfl ?_
  refine aw_istore_n cx 2 1 dX0_wrongReversal_1 rfl rfl ⟨Nat.le_of_ble_eq_true rfl, Nat.le_of_ble_eq_true rfl⟩ rfl ?_
  dsimp only [List.set]
  have lp2 : ∀ (kf : Nat) (a : Int), (n - a < (kf : Int)) → (0 ≤ a ∧ a ≤ n) → (∀ x y, 0 ≤ x → x < n → 0 ≤ y → y < n → x < a → tC n g x y = 0) → AW X 2 [some (vR o), some (vI a), none] [] ((hcol h o C F Nu Co n r f)) := by
    intro kf
    induction kf with
    | zero =>
      intro a hk ha hz
      exfalso
      omega
    | succ kf ih2 =>
      intro a hk ha hz
      refine aw_iload_n cx 3 dX0_wrongReversal_2 rfl rfl ?_
      refine aw_aload_n cx 4 dX0_wrongReversal_3 rfl rfl ?_
      refine aw_getfield cx 7 dX0_wrongReversal_4 rfl fdX0_24 (by first | assumption | exact hc_0 | exact hc_1 | exact hc_2 | exact hc_3 | exact hc_4 | exact zz_gs _ _ _) (by rfl) ?_
      refine aw_icmp_ge cx 10 58 dX0_wrongReversal_7 rfl (by decide) ⟨⟨by omega, by omega⟩, ⟨by omega, by omega⟩⟩ (fun c7 => ?_) (fun c7 => ?_)
      · refine aw_iconst cx 59 dX0_wrongReversal_58 rfl ?_
        refine aw_ireturn cx dX0_wrongReversal_59 ?_
        refine hRet _ _ True.intro rfl ?_
        exact k _ (by rw [sc_zero (by omega) (fun x y x0 x1 y0 y1 => hz x y x0 x1 y0 y1 (by omega))]) ⟨by decide, by decide⟩
      · refine aw_iconst cx 11 dX0_wrongReversal_10 rfl ?_
        refine aw_istore_n cx 12 2 dX0_wrongReversal_11 rfl rfl ⟨Nat.le_of_ble_eq_true rfl, Nat.le_of_ble_eq_true rfl⟩ rfl ?_
        dsimp only [List.set]
        have lp12 : ∀ (kf : Nat) (b : Int), (n - b < (kf : Int)) → (0 ≤ b ∧ b ≤ n) → (∀ y, 0 ≤ y → y < b → tC n g a y = 0) → AW X 12 [some (vR o), some (vI a), some (vI b)] [] ((hcol h o C F Nu Co n r f)) := by
          intro kf
          induction kf with
          | zero =>
            intro b hk hb hy
            exfalso
            omega
          | succ kf ih12 =>
            intro b hk hb hy
            refine aw_iload_n cx 13 dX0_wrongReversal_12 rfl rfl ?_
            refine aw_aload_n cx 14 dX0_wrongReversal_13 rfl rfl ?_
            refine aw_getfield cx 17 dX0_wrongReversal_14 rfl fdX0_24 (by first | assumption | exact hc_0 | exact hc_1 | exact hc_2 | exact hc_3 | exact hc_4 | exact zz_gs _ _ _) (by rfl) ?_
            refine aw_icmp_ge cx 20 52 dX0_wrongReversal_17 rfl (by decide) ⟨⟨by omega, by omega⟩, ⟨by omega, by omega⟩⟩ (fun c17 => ?_) (fun c17 => ?_)
            · refine aw_iinc cx 55 dX0_wrongReversal_52 rfl rfl (Nat.le_of_ble_eq_true rfl) rfl ?_
              dsimp only [List.set]
              refine aw_goto cx 2 dX0_wrongReversal_55 (by decide) ?_
              exact aw_weak (ih2 (a + 1) (by omega) ⟨by omega, by omega⟩ (fun x y x0 x1 y0 y1 hl => by
                by_cases e : x = a
                · rw [e]
                  exact hy y y0 (by omega)
                · exact hz x y x0 x1 y0 y1 (by omega))) ⟨rfl, rfl, True.intro⟩
            · refine aw_aload_n cx 21 dX0_wrongReversal_20 rfl rfl ?_
              refine aw_iload_n cx 22 dX0_wrongReversal_21 rfl rfl ?_
              refine aw_iload_n cx 23 dX0_wrongReversal_22 rfl rfl ?_
              refine aw_V2v cx 26 mX0_colourOf (ci := 0) dX0_wrongReversal_23 rfl okmX0_colourOf lkX0_41 (by first | assumption | exact hc_0 | exact hc_1 | exact hc_2 | exact hc_3 | exact hc_4 | exact zz_gs _ _ _) ⟨rfl, by decide⟩ (zz_rc0 mX0_wrongReversal hRm hNS rfl rfl) (Nat.le_of_ble_eq_true rfl) ?_
              refine s_X0_colourOf (by first | assumption | exact hc_0 | exact hc_1 | exact hc_2 | exact hc_3 | exact hc_4 | exact (hc_x (by omega)).trans (by first | assumption | exact hc_0 | exact hc_1 | exact hc_2 | exact hc_3 | exact hc_4)) (by first | assumption | exact hc_0 | exact hc_1 | exact hc_2 | exact hc_3 | exact hc_4 | exact (hc_x (by omega)).trans (by first | assumption | exact hc_0 | exact hc_1 | exact hc_2 | exact hc_3 | exact hc_4)) ⟨by omega, by omega⟩ ⟨by omega, by omega⟩ (fun v23 e23 => ⟨_, rfl, ?_⟩)
              have q23 := hA b a (by omega) (by omega) (by omega) (by omega)
              have w23 := hg b a (by omega) (by omega) (by omega) (by omega)
              refine aw_aload_n cx 27 dX0_wrongReversal_26 rfl rfl ?_
              refine aw_aload_n cx 28 dX0_wrongReversal_27 rfl rfl ?_
              refine aw_iload_n cx 29 dX0_wrongReversal_28 rfl rfl ?_
              refine aw_iload_n cx 30 dX0_wrongReversal_29 rfl rfl ?_
              refine aw_V2v cx 33 mX0_colourOf (ci := 0) dX0_wrongReversal_30 rfl okmX0_colourOf lkX0_41 (by first | assumption | exact hc_0 | exact hc_1 | exact hc_2 | exact hc_3 | exact hc_4 | exact zz_gs _ _ _) ⟨rfl, by decide⟩ (zz_rc0 mX0_wrongReversal hRm hNS rfl rfl) (Nat.le_of_ble_eq_true rfl) ?_
              refine s_X0_colourOf (by first | assumption | exact hc_0 | exact hc_1 | exact hc_2 | exact hc_3 | exact hc_4 | exact (hc_x (by omega)).trans (by first | assumption | exact hc_0 | exact hc_1 | exact hc_2 | exact hc_3 | exact hc_4)) (by first | assumption | exact hc_0 | exact hc_1 | exact hc_2 | exact hc_3 | exact hc_4 | exact (hc_x (by omega)).trans (by first | assumption | exact hc_0 | exact hc_1 | exact hc_2 | exact hc_3 | exact hc_4)) ⟨by omega, by omega⟩ ⟨by omega, by omega⟩ (fun v30 e30 => ⟨_, rfl, ?_⟩)
              have q30 := hA a b (by omega) (by omega) (by omega) (by omega)
              have w30 := hg a b (by omega) (by omega) (by omega) (by omega)
              have r30 : -1 ≤ F v30 ∧ F v30 < 64 := by rw [hF v30 (by omega) (by omega)]; exact fp_b ⟨by omega, by omega⟩ v30
              refine aw_V1v cx 36 mX0_reverseOf (ci := 0) dX0_wrongReversal_33 rfl okmX0_reverseOf lkX0_76 (by first | assumption | exact hc_0 | exact hc_1 | exact hc_2 | exact hc_3 | exact hc_4 | exact zz_gs _ _ _) ⟨rfl, by decide⟩ (zz_rc0 mX0_wrongReversal hRm hNS rfl rfl) (Nat.le_of_ble_eq_true rfl) ?_
              refine s_X0_reverseOf (by first | assumption | exact hc_0 | exact hc_1 | exact hc_2 | exact hc_3 | exact hc_4 | exact (hc_x (by omega)).trans (by first | assumption | exact hc_0 | exact hc_1 | exact hc_2 | exact hc_3 | exact hc_4)) (by first | assumption | exact hc_0 | exact hc_1 | exact hc_2 | exact hc_3 | exact hc_4 | exact (hc_x (by omega)).trans (by first | assumption | exact hc_0 | exact hc_1 | exact hc_2 | exact hc_3 | exact hc_4)) (by first | assumption | exact hc_0 | exact hc_1 | exact hc_2 | exact hc_3 | exact hc_4 | exact (hc_x (by omega)).trans (by first | assumption | exact hc_0 | exact hc_1 | exact hc_2 | exact hc_3 | exact hc_4)) ⟨by omega, by omega⟩ (by assumption) (fun v33 e33 => ⟨_, rfl, ?_⟩)
              have q33 : v33 = rv n g v30 := by rw [e33, hF v30 (by omega) (by omega)]; exact rv_eq ⟨by omega, by omega⟩ hA v30
              have w33 := rv_b (n := n) (g := g) ⟨by omega, by omega⟩ hg v30
              refine aw_icmp_eq cx 39 46 dX0_wrongReversal_36 rfl (by decide) ⟨⟨by omega, by omega⟩, ⟨by omega, by omega⟩⟩ (fun c36 => ?_) (fun c36 => ?_)
              · refine aw_iinc cx 49 dX0_wrongReversal_46 rfl rfl (Nat.le_of_ble_eq_true rfl) rfl ?_
                dsimp only [List.set]
                refine aw_goto cx 12 dX0_wrongReversal_49 (by decide) ?_
                exact ih12 (b + 1) (by omega) ⟨by omega, by omega⟩ (fun y y0 y1 => by
                  by_cases e : y = b
                  · rw [e]
                    exact tC_0 (by rw [← q30, ← e30, ← q33, ← c36, e23, q23])
                  · exact hy y y0 (by omega))
              · refine aw_iconst cx 40 dX0_wrongReversal_39 rfl ?_
                refine aw_iload_n cx 41 dX0_wrongReversal_40 rfl rfl ?_
                refine aw_iload_n cx 42 dX0_wrongReversal_41 rfl rfl ?_
                refine aw_S3v cx 45 mX0_failureAt dX0_wrongReversal_42 rfl okmX0_failureAt lkX0_72 (zz_rc0 mX0_wrongReversal hRm hNS rfl rfl) (Nat.le_of_ble_eq_true rfl) ?_
                refine s_X0_failureAt (fun v42 e42 => ⟨_, rfl, ?_⟩)
                refine aw_ireturn cx dX0_wrongReversal_45 ?_
                refine hRet _ _ True.intro rfl ?_
                have h1 : tC n g a b = 300 + 10 * a + b := tC_1 (by rw [← q30, ← e30, ← q33, ← q23, ← e23]; exact c36)
                exact k _ (by
                  rw [e42, sc_first (t := tC n g) (a := a) (b := b) ⟨by omega, by omega⟩ ⟨by omega, by omega⟩ (fun x y x0 x1 y0 y1 hl => by
                    rcases hl with hl | ⟨e, hl⟩
                    · exact hz x y x0 x1 y0 y1 hl
                    · rw [e]
                      exact hy y y0 hl) (by omega), h1]
                  omega) ⟨by omega, by omega⟩
        exact aw_weak (lp12 (n.toNat + 1) 0 (by omega) ⟨by omega, by omega⟩ (fun y y0 y1 => by omega)) ⟨rfl, rfl, rfl, True.intro⟩
  exact aw_weak (lp2 (n.toNat + 1) 0 (by omega) ⟨by omega, by omega⟩ (fun x y x0 x1 y0 y1 hl => by omega)) ⟨rfl, rfl, True.intro⟩
set_option maxRecDepth 100000 in
set_option maxHeartbeats 4000000 in
theorem s_X0_wrongCounts {h : AH} {Q : Option AV → AH → Prop} {o : Nat} {C F Nu Co : Int → Int} {n r f : Int} {g : Gr} (hn : 1 ≤ n ∧ n ≤ 8) (hA : ag n C g) (hg : rgn n g) (hF : ∀ c, 0 ≤ c → c < 5 → F c = fp n g c) (k : ∀ v Nu' Co', v = sc n (tD n g) → (0 ≤ v ∧ v < 1000) → (v = 0 → ∀ c, 0 ≤ c → c < 5 → fp n g c ≠ -1 → ∀ i j, 0 ≤ i → i < 5 → 0 ≤ j → j < 5 → Nu' (25 * c + 5 * i + j) = nu n g i j c) → Q (some (vI v)) (hcol h o C F Nu' Co' n r f)) : MC mX0_wrongCounts [vR o] (hcol h o C F Nu Co n r f) Q := by
  refine mc_start mX0_wrongCounts RX0 "wrongCounts" ⟨rfl, rfl, by decide +kernel⟩ [some (vR o), none, none, none] ⟨3, rfl⟩ rfl (fun X cx hRm hNS hRet => ?_)
  refine aw_iconst cx 1 dX0_wrongCounts_0 rfl ?_
  refine aw_istore_n cx 2 1 dX0_wrongCounts_1 rfl rfl ⟨Nat.le_of_ble_eq_true rfl, Nat.le_of_ble_eq_true rfl⟩ rfl ?_
  dsimp only [List.set]
  have lp2 : ∀ (kf : Nat) (a : Int) (Na Nc : Int → Int), (n - a < (kf : Int)) → (0 ≤ a ∧ a ≤ n) → (∀ x y, 0 ≤ x → x < n → 0 ≤ y → y < n → x < a → tD n g x y = 0) → (∀ c, 0 ≤ c → c < 5 → fp n g c ≠ -1 → fp n g c / 8 < a → ∀ i j, 0 ≤ i → i < 5 → 0 ≤ j → j < 5 → Na (25 * c + 5 * i + j) = nu n g i j c) → AW X 2 [some (vR o), some (vI a), none, none] [] (hcol h o C F Na Nc n r f) := by
    intro kf
    induction kf with
    | zero =>
      intro a Na Nc hk ha hz hN
      exfalso
      omega
    | succ kf ih2 =>
      intro a Na Nc hk ha hz hN
      refine aw_iload_n cx 3 dX0_wrongCounts_2 rfl rfl ?_
      refine aw_aload_n cx 4 dX0_wrongCounts_3 rfl rfl ?_
      refine aw_getfield cx 7 dX0_wrongCounts_4 rfl fdX0_24 (by first | assumption | exact hc_0 | exact hc_1 | exact hc_2 | exact hc_3 | exact hc_4 | exact zz_gs _ _ _) (by rfl) ?_
      refine aw_icmp_ge cx 10 83 dX0_wrongCounts_7 rfl (by decide) ⟨⟨by omega, by omega⟩, ⟨by omega, by omega⟩⟩ (fun c7 => ?_) (fun c7 => ?_)
      · refine aw_iconst cx 84 dX0_wrongCounts_83 rfl ?_
        refine aw_ireturn cx dX0_wrongCounts_84 ?_
        refine hRet _ _ True.intro rfl ?_
        exact k _ _ _ (by rw [sc_zero (by omega) (fun x y x0 x1 y0 y1 => hz x y x0 x1 y0 y1 (by omega))]) ⟨by decide, by decide⟩ (fun _ c c0 c1 c2 => hN c c0 c1 c2 (by have := fp_col (n := n) (g := g) ⟨by omega, by omega⟩ c2; omega))
      · refine aw_iconst cx 11 dX0_wrongCounts_10 rfl ?_
        refine aw_istore_n cx 12 2 dX0_wrongCounts_11 rfl rfl ⟨Nat.le_of_ble_eq_true rfl, Nat.le_of_ble_eq_true rfl⟩ rfl ?_
        dsimp only [List.set]
        have lp12 : ∀ (kf : Nat) (b : Int) (Nb Nd : Int → Int), (n - b < (kf : Int)) → (0 ≤ b ∧ b ≤ n) → (∀ y, 0 ≤ y → y < b → tD n g a y = 0) → (∀ c, 0 ≤ c → c < 5 → fp n g c ≠ -1 → (fp n g c / 8 < a ∨ (fp n g c / 8 = a ∧ fp n g c % 8 < b)) → ∀ i j, 0 ≤ i → i < 5 → 0 ≤ j → j < 5 → Nb (25 * c + 5 * i + j) = nu n g i j c) → AW X 12 [some (vR o), some (vI a), some (vI b), none] [] (hcol h o C F Nb Nd n r f) := by
          intro kf
          induction kf with
          | zero =>
            intro b Nb Nd hk hb hy hN2
            exfalso
            omega
          | succ kf ih12 =>
            intro b Nb Nd hk hb hy hN2
            refine aw_iload_n cx 13 dX0_wrongCounts_12 rfl rfl ?_
            refine aw_aload_n cx 14 dX0_wrongCounts_13 rfl rfl ?_
            refine aw_getfield cx 17 dX0_wrongCounts_14 rfl fdX0_24 (by first | assumption | exact hc_0 | exact hc_1 | exact hc_2 | exact hc_3 | exact hc_4 | exact zz_gs _ _ _) (by rfl) ?_
            refine aw_icmp_ge cx 20 77 dX0_wrongCounts_17 rfl (by decide) ⟨⟨by omega, by omega⟩, ⟨by omega, by omega⟩⟩ (fun c17 => ?_) (fun c17 => ?_)
            · refine aw_iinc cx 80 dX0_wrongCounts_77 rfl rfl (Nat.le_of_ble_eq_true rfl) rfl ?_
              dsimp only [List.set]
              refine aw_goto cx 2 dX0_wrongCounts_80 (by decide) ?_
              exact aw_weak (ih2 (a + 1) _ _ (by omega) ⟨by omega, by omega⟩ (fun x y x0 x1 y0 y1 hl => by
                by_cases e : x = a
                · rw [e]
                  exact hy y y0 (by omega)
                · exact hz x y x0 x1 y0 y1 (by omega)) (fun c c0 c1 c2 c3 => hN2 c c0 c1 c2 (by have := fp_col (n := n) (g := g) ⟨by omega, by omega⟩ c2; omega))) ⟨rfl, rfl, True.intro⟩
            · refine aw_aload_n cx 21 dX0_wrongCounts_20 rfl rfl ?_
              refine aw_iload_n cx 22 dX0_wrongCounts_21 rfl rfl ?_
              refine aw_iload_n cx 23 dX0_wrongCounts_22 rfl rfl ?_
              refine aw_V2v cx 26 mX0_colourOf (ci := 0) dX0_wrongCounts_23 rfl okmX0_colourOf lkX0_41 (by first | assumption | exact hc_0 | exact hc_1 | exact hc_2 | exact hc_3 | exact hc_4 | exact zz_gs _ _ _) ⟨rfl, by decide⟩ (zz_rc0 mX0_wrongCounts hRm hNS rfl rfl) (Nat.le_of_ble_eq_true rfl) ?_
              refine s_X0_colourOf (by first | assumption | exact hc_0 | exact hc_1 | exact hc_2 | exact hc_3 | exact hc_4 | exact (hc_x (by omega)).trans (by first | assumption | exact hc_0 | exact hc_1 | exact hc_2 | exact hc_3 | exact hc_4)) (by first | assumption | exact hc_0 | exact hc_1 | exact hc_2 | exact hc_3 | exact hc_4 | exact (hc_x (by omega)).trans (by first | assumption | exact hc_0 | exact hc_1 | exact hc_2 | exact hc_3 | exact hc_4)) ⟨by omega, by omega⟩ ⟨by omega, by omega⟩ (fun v23 e23 => ⟨_, rfl, ?_⟩)
              have q23 := hA a b (by omega) (by omega) (by omega) (by omega)
              have w23 := hg a b (by omega) (by omega) (by omega) (by omega)
              rw [q23] at e23
              refine aw_istore_n cx 27 3 dX0_wrongCounts_26 rfl rfl ⟨Nat.le_of_ble_eq_true rfl, Nat.le_of_ble_eq_true rfl⟩ rfl ?_
              dsimp only [List.set]
              refine aw_aload_n cx 28 dX0_wrongCounts_27 rfl rfl ?_
              refine aw_iload_n cx 29 dX0_wrongCounts_28 rfl rfl ?_
              refine aw_iload_n cx 30 dX0_wrongCounts_29 rfl rfl ?_
              refine aw_V2n cx 33 mX0_countBetween (ci := 0) dX0_wrongCounts_30 rfl okmX0_countBetween lkX0_80 (by first | assumption | exact hc_0 | exact hc_1 | exact hc_2 | exact hc_3 | exact hc_4 | exact zz_gs _ _ _) ⟨rfl, by decide⟩ (zz_rc0 mX0_wrongCounts hRm hNS rfl rfl) (Nat.le_of_ble_eq_true rfl) ?_
              refine s_X0_countBetween hn hA hg ⟨by omega, by omega⟩ ⟨by omega, by omega⟩ (fun Co30 e30 => ⟨rfl, ?_⟩)
              have f30 := hF v23 (by omega) (by omega)
              have b30 := fp_b (n := n) (g := g) ⟨by omega, by omega⟩ v23
              refine aw_aload_n cx 34 dX0_wrongCounts_33 rfl rfl ?_
              refine aw_getfield cx 37 dX0_wrongCounts_34 rfl fdX0_15 (by first | assumption | exact hc_0 | exact hc_1 | exact hc_2 | exact hc_3 | exact hc_4 | exact zz_gs _ _ _) (by rfl) ?_
              refine aw_iload_n cx 38 dX0_wrongCounts_37 rfl rfl ?_
              refine aw_iaload cx 39 dX0_wrongCounts_38 rfl (by first | assumption | exact hc_0 | exact hc_1 | exact hc_2 | exact hc_3 | exact hc_4 | exact zz_gs _ _ _) ⟨by omega, by omega⟩ (by decide) ?_
              refine aw_iload_n cx 40 dX0_wrongCounts_39 rfl rfl ?_
              refine aw_bipush cx 42 dX0_wrongCounts_40 rfl (by decide +kernel) ?_
              refine aw_imul cx 43 dX0_wrongCounts_42 rfl ?_
              refine aw_iload_n cx 44 dX0_wrongCounts_43 rfl rfl ?_
              refine aw_iadd cx 45 dX0_wrongCounts_44 rfl ?_
              refine aw_icmp_ne cx 48 56 dX0_wrongCounts_45 rfl (by decide) ⟨⟨by omega, by omega⟩, ⟨by omega, by omega⟩⟩ (fun c45 => ?_) (fun c45 => ?_)
              · have p45 := fp_le (n := n) (g := g) ⟨by omega, by omega⟩ (a := a) (b := b) ⟨by omega, by omega⟩ ⟨by omega, by omega⟩ (by rw [← e23]; omega)
                rw [← e23] at p45
                have o45 : fp n g v23 ≠ -1 := by rw [e23]; exact fp_occ ⟨by omega, by omega⟩ ⟨by omega, by omega⟩ ⟨by omega, by omega⟩
                have n45 := hN2 v23 (by omega) (by omega) o45 p45
                have r45 : ∀ y, 0 ≤ y → y < 25 → R32 (Co30 y) ∧ R32 (Nb (25 * v23 + y)) := by
                  intro y y0 y1
                  have h3 := e30 (y / 5) (y % 5) (by omega) (by omega) (by omega) (by omega)
                  have h4 := n45 (y / 5) (y % 5) (by omega) (by omega) (by omega) (by omega)
                  rw [show 5 * (y / 5) + y % 5 = y by omega] at h3
                  rw [show 25 * v23 + 5 * (y / 5) + y % 5 = 25 * v23 + y by omega] at h4
                  have h5 := cn_b (n := n) (by omega) g a b (y / 5) (y % 5)
                  have h6 := nu_b (n := n) (g := g) (by omega) (y / 5) (y % 5) v23
                  constructor <;> constructor <;> omega
                refine aw_aload_n cx 57 dX0_wrongCounts_56 rfl rfl ?_
                refine aw_iload_n cx 58 dX0_wrongCounts_57 rfl rfl ?_
                refine aw_V1v cx 61 mX0_countsAreKept (ci := 0) dX0_wrongCounts_58 rfl okmX0_countsAreKept lkX0_88 (by first | assumption | exact hc_0 | exact hc_1 | exact hc_2 | exact hc_3 | exact hc_4 | exact zz_gs _ _ _) ⟨rfl, by decide⟩ (zz_rc0 mX0_wrongCounts hRm hNS rfl rfl) (Nat.le_of_ble_eq_true rfl) ?_
                refine s_X0_countsAreKept ⟨by omega, by omega⟩ (by assumption) (fun v58 e58 => ⟨_, rfl, ?_⟩)
                refine aw_if_ne cx 64 71 dX0_wrongCounts_61 rfl (by decide) ⟨by omega, by omega⟩ (fun c61 => ?_) (fun c61 => ?_)
                · have t71 : tD n g a b = 0 := by
                    rcases e58 with ⟨_, h9⟩ | ⟨h9, _⟩
                    · refine tD_0 (fun i j i0 i1 j0 j1 => ?_)
                      rw [← e30 i j i0 i1 j0 j1, ← h9 (5 * i + j) (by omega) (by omega), ← e23, ← n45 i j i0 i1 j0 j1, show 25 * v23 + (5 * i + j) = 25 * v23 + 5 * i + j by omega]
                    · exact absurd h9 c61
                  have n71 : ∀ c, 0 ≤ c → c < 5 → fp n g c ≠ -1 → (fp n g c / 8 < a ∨ (fp n g c / 8 = a ∧ fp n g c % 8 < b + 1)) → ∀ i j, 0 ≤ i → i < 5 → 0 ≤ j → j < 5 → Nb (25 * c + 5 * i + j) = nu n g i j c := by
                    intro c c0 c1 c2 c3 i j i0 i1 j0 j1
                    refine hN2 c c0 c1 c2 ?_ i j i0 i1 j0 j1
                    have h7 := fp_col (n := n) (g := g) ⟨by omega, by omega⟩ c2
                    by_cases e8 : fp n g c / 8 = a ∧ fp n g c % 8 = b
                    · rw [e8.1, e8.2] at h7
                      have h8 : c = v23 := by omega
                      rw [h8] at e8
                      omega
                    · omega
                  refine aw_iinc cx 74 dX0_wrongCounts_71 rfl rfl (Nat.le_of_ble_eq_true rfl) rfl ?_
                  dsimp only [List.set]
                  refine aw_goto cx 12 dX0_wrongCounts_74 (by decide) ?_
                  exact aw_weak (ih12 (b + 1) _ _ (by omega) ⟨by omega, by omega⟩ (fun y y0 y1 => by
                    by_cases e : y = b
                    · rw [e]
                      exact t71
                    · exact hy y y0 (by omega)) n71) ⟨rfl, rfl, rfl, True.intro⟩
                · have h1 : tD n g a b = 400 + 10 * a + b := by
                    rcases e58 with ⟨h9, _⟩ | ⟨_, y, y0, y1, h9⟩
                    · omega
                    · refine tD_1 (i := y / 5) (j := y % 5) ⟨by omega, by omega⟩ ⟨by omega, by omega⟩ (fun h10 => h9 ?_)
                      have h3 := e30 (y / 5) (y % 5) (by omega) (by omega) (by omega) (by omega)
                      have h4 := n45 (y / 5) (y % 5) (by omega) (by omega) (by omega) (by omega)
                      rw [show 5 * (y / 5) + y % 5 = y by omega] at h3
                      rw [show 25 * v23 + 5 * (y / 5) + y % 5 = 25 * v23 + y by omega] at h4
                      rw [h3, h4, e23]
                      exact h10.symm
                  refine aw_iconst cx 65 dX0_wrongCounts_64 rfl ?_
                  refine aw_iload_n cx 66 dX0_wrongCounts_65 rfl rfl ?_
                  refine aw_iload_n cx 67 dX0_wrongCounts_66 rfl rfl ?_
                  refine aw_S3v cx 70 mX0_failureAt dX0_wrongCounts_67 rfl okmX0_failureAt lkX0_72 (zz_rc0 mX0_wrongCounts hRm hNS rfl rfl) (Nat.le_of_ble_eq_true rfl) ?_
                  refine s_X0_failureAt (fun v67 e67 => ⟨_, rfl, ?_⟩)
                  refine aw_ireturn cx dX0_wrongCounts_70 ?_
                  refine hRet _ _ True.intro rfl ?_
                  exact k _ _ _ (by
                    rw [e67, sc_first (t := tD n g) (a := a) (b := b) ⟨by omega, by omega⟩ ⟨by omega, by omega⟩ (fun x y x0 x1 y0 y1 hl => by
                      rcases hl with hl | ⟨e, hl⟩
                      · exact hz x y x0 x1 y0 y1 hl
                      · rw [e]
                        exact hy y y0 hl) (by omega), h1]
                    omega) ⟨by omega, by omega⟩ (fun q => by exfalso; omega)
              · refine aw_aload_n cx 49 dX0_wrongCounts_48 rfl rfl ?_
                refine aw_iload_n cx 50 dX0_wrongCounts_49 rfl rfl ?_
                refine aw_V1n cx 53 mX0_keepCounts (ci := 0) dX0_wrongCounts_50 rfl okmX0_keepCounts lkX0_84 (by first | assumption | exact hc_0 | exact hc_1 | exact hc_2 | exact hc_3 | exact hc_4 | exact zz_gs _ _ _) ⟨rfl, by decide⟩ (zz_rc0 mX0_wrongCounts hRm hNS rfl rfl) (Nat.le_of_ble_eq_true rfl) ?_
                refine s_X0_keepCounts ⟨by omega, by omega⟩ (fun Nu50 y50 z50 => ⟨rfl, ?_⟩)
                have q50 : fp n g (g a b) = 8 * a + b := by rw [← e23, ← f30, c45]; omega
                have t71 : tD n g a b = 0 := tD_0 (fun i j i0 i1 j0 j1 => by
                  unfold nu
                  rw [q50, show (8 * a + b) / 8 = a by omega, show (8 * a + b) % 8 = b by omega])
                have n71 : ∀ c, 0 ≤ c → c < 5 → fp n g c ≠ -1 → (fp n g c / 8 < a ∨ (fp n g c / 8 = a ∧ fp n g c % 8 < b + 1)) → ∀ i j, 0 ≤ i → i < 5 → 0 ≤ j → j < 5 → Nu50 (25 * c + 5 * i + j) = nu n g i j c := by
                  intro c c0 c1 c2 c3 i j i0 i1 j0 j1
                  by_cases ec : c = v23
                  · rw [ec, show 25 * v23 + 5 * i + j = 25 * v23 + (5 * i + j) by omega, y50 _ (by omega) (by omega), e30 i j i0 i1 j0 j1]
                    unfold nu
                    rw [e23, q50, show (8 * a + b) / 8 = a by omega, show (8 * a + b) % 8 = b by omega]
                  · rw [z50 _ (by omega)]
                    refine hN2 c c0 c1 c2 ?_ i j i0 i1 j0 j1
                    have h7 := fp_col (n := n) (g := g) ⟨by omega, by omega⟩ c2
                    by_cases e8 : fp n g c / 8 = a ∧ fp n g c % 8 = b
                    · rw [e8.1, e8.2] at h7
                      omega
                    · omega
                refine aw_goto cx 71 dX0_wrongCounts_53 (by decide) ?_
                refine aw_iinc cx 74 dX0_wrongCounts_71 rfl rfl (Nat.le_of_ble_eq_true rfl) rfl ?_
                dsimp only [List.set]
                refine aw_goto cx 12 dX0_wrongCounts_74 (by decide) ?_
                exact aw_weak (ih12 (b + 1) _ _ (by omega) ⟨by omega, by omega⟩ (fun y y0 y1 => by
                  by_cases e : y = b
                  · rw [e]
                    exact t71
                  · exact hy y y0 (by omega)) n71) ⟨rfl, rfl, rfl, True.intro⟩
        exact aw_weak (lp12 (n.toNat + 1) 0 Na Nc (by omega) ⟨by omega, by omega⟩ (fun y y0 y1 => by omega) (fun c c0 c1 c2 c3 => hN c c0 c1 c2 (by have := fp_col (n := n) (g := g) ⟨by omega, by omega⟩ c2; omega))) ⟨rfl, rfl, rfl, True.intro⟩
  exact aw_weak (lp2 (n.toNat + 1) 0 Nu Co (by omega) ⟨by omega, by omega⟩ (fun x y x0 x1 y0 y1 hl => by omega) (fun c c0 c1 c2 c3 => by have := fp_col (n := n) (g := g) ⟨by omega, by omega⟩ c2; omega)) ⟨rfl, rfl, True.intro⟩
set_option maxRecDepth 100000 in
set_option maxHeartbeats 4000000 in
theorem s_X0_firstFailure {h : AH} {Q : Option AV → AH → Prop} {o : Nat} {C F Nu Co : Int → Int} {n r f : Int} {g : Gr} (hn : 1 ≤ n ∧ n ≤ 8) (hA : ag n C g) (hg : rgn n g) (hF : ∀ c, 0 ≤ c → c < 5 → F c = fp n g c) (hr : r = rk n g) (k : ∀ v Nu' Co', v = fl n g → (0 ≤ v ∧ v < 1000) → (v = 0 → ∀ i j k, 0 ≤ i → i < 5 → 0 ≤ j → j < 5 → 0 ≤ k → k < rk n g → Nu' (25 * k + 5 * i + j) = nu n g i j k) → Q (some (vI v)) (hcol h o C F Nu' Co' n r f)) : MC mX0_firstFailure [vR o] (hcol h o C F Nu Co n r f) Q := by
  refine mc_start mX0_firstFailure RX0 "firstFailure" ⟨rfl, rfl, by decide +kernel⟩ [some (vR o), none] ⟨1, rfl⟩ rfl (fun X cx hRm hNS hRet => ?_)
  refine aw_aload_n cx 1 dX0_firstFailure_0 rfl rfl ?_
  refine aw_V0v cx 4 mX0_misplacedZero (ci := 0) dX0_firstFailure_1 rfl okmX0_misplacedZero lkX0_60 (by first | assumption | exact hc_0 | exact hc_1 | exact hc_2 | exact hc_3 | exact hc_4 | exact zz_gs _ _ _) ⟨rfl, by decide⟩ (zz_rc0 mX0_firstFailure hRm hNS rfl rfl) (Nat.le_of_ble_eq_true rfl) ?_
  refine s_X0_misplacedZero hn hA hg (fun v1 e1 w1 => ⟨_, rfl, ?_⟩)
  refine aw_istore_n cx 5 1 dX0_firstFailure_4 rfl rfl ⟨Nat.le_of_ble_eq_true rfl, Nat.le_of_ble_eq_true rfl⟩ rfl ?_
  dsimp only [List.set]
  refine aw_iload_n cx 6 dX0_firstFailure_5 rfl rfl ?_
  refine aw_if_ne cx 9 14 dX0_firstFailure_6 rfl (by decide) ⟨by omega, by omega⟩ (fun c6 => ?_) (fun c6 => ?_)
  · refine aw_iload_n cx 15 dX0_firstFailure_14 rfl rfl ?_
    refine aw_if_ne cx 18 23 dX0_firstFailure_15 rfl (by decide) ⟨by omega, by omega⟩ (fun c15 => ?_) (fun c15 => ?_)
    · first
      | (exfalso; omega)
      | (refine aw_iload_n cx 24 dX0_firstFailure_23 rfl rfl ?_
         refine aw_if_ne cx 27 32 dX0_firstFailure_24 rfl (by decide) ⟨by omega, by omega⟩ (fun c24 => ?_) (fun c24 => ?_)
         · first
           | (exfalso; omega)
           | (refine aw_iload_n cx 33 dX0_firstFailure_32 rfl rfl ?_
              refine aw_ireturn cx dX0_firstFailure_33 ?_
              refine hRet _ _ True.intro rfl ?_
              first
              | exact k _ _ _ (by unfold fl; rw [if_pos (by omega)]; omega) ⟨by omega, by omega⟩ (fun q => by exfalso; omega)
              | exact k _ _ _ (by unfold fl; rw [if_neg (by omega), if_pos (by omega)]; omega) ⟨by omega, by omega⟩ (fun q => by exfalso; omega)
              | exact k _ _ _ (by unfold fl; rw [if_neg (by omega), if_neg (by omega), if_pos (by omega)]; omega) ⟨by omega, by omega⟩ (fun q => by exfalso; omega)
              | exact k _ _ _ (by unfold fl; rw [if_neg (by omega), if_neg (by omega), if_neg (by omega)]; omega) ⟨by omega, by omega⟩ (fun q i j l i0 i1 j0 j1 l0 l1 => z28 q l l0 (by have := rk_b (n := n) (g := g) (by omega) hg; omega) (tB_z (by omega) l l0 (by have := rk_b (n := n) (g := g) (by omega) hg; omega) l1) i j i0 i1 j0 j1))
         · first
           | (exfalso; omega)
           | (refine aw_aload_n cx 28 dX0_firstFailure_27 rfl rfl ?_
              refine aw_V0v cx 31 mX0_wrongCounts (ci := 0) dX0_firstFailure_28 rfl okmX0_wrongCounts lkX0_69 (by first | assumption | exact hc_0 | exact hc_1 | exact hc_2 | exact hc_3 | exact hc_4 | exact zz_gs _ _ _) ⟨rfl, by decide⟩ (zz_rc0 mX0_firstFailure hRm hNS rfl rfl) (Nat.le_of_ble_eq_true rfl) ?_
              refine s_X0_wrongCounts hn hA hg hF (fun v28 Nu28 Co28 e28 w28 z28 => ⟨_, rfl, ?_⟩)
              refine aw_istore_n cx 32 1 dX0_firstFailure_31 rfl rfl ⟨Nat.le_of_ble_eq_true rfl, Nat.le_of_ble_eq_true rfl⟩ rfl ?_
              dsimp only [List.set]
              refine aw_iload_n cx 33 dX0_firstFailure_32 rfl rfl ?_
              refine aw_ireturn cx dX0_firstFailure_33 ?_
              refine hRet _ _ True.intro rfl ?_
              first
              | exact k _ _ _ (by unfold fl; rw [if_pos (by omega)]; omega) ⟨by omega, by omega⟩ (fun q => by exfalso; omega)
              | exact k _ _ _ (by unfold fl; rw [if_neg (by omega), if_pos (by omega)]; omega) ⟨by omega, by omega⟩ (fun q => by exfalso; omega)
              | exact k _ _ _ (by unfold fl; rw [if_neg (by omega), if_neg (by omega), if_pos (by omega)]; omega) ⟨by omega, by omega⟩ (fun q => by exfalso; omega)
              | exact k _ _ _ (by unfold fl; rw [if_neg (by omega), if_neg (by omega), if_neg (by omega)]; omega) ⟨by omega, by omega⟩ (fun q i j l i0 i1 j0 j1 l0 l1 => z28 q l l0 (by have := rk_b (n := n) (g := g) (by omega) hg; omega) (tB_z (by omega) l l0 (by have := rk_b (n := n) (g := g) (by omega) hg; omega) l1) i j i0 i1 j0 j1)))
    · first
      | (exfalso; omega)
      | (refine aw_aload_n cx 19 dX0_firstFailure_18 rfl rfl ?_
         refine aw_V0v cx 22 mX0_wrongReversal (ci := 0) dX0_firstFailure_19 rfl okmX0_wrongReversal lkX0_66 (by first | assumption | exact hc_0 | exact hc_1 | exact hc_2 | exact hc_3 | exact hc_4 | exact zz_gs _ _ _) ⟨rfl, by decide⟩ (zz_rc0 mX0_firstFailure hRm hNS rfl rfl) (Nat.le_of_ble_eq_true rfl) ?_
         refine s_X0_wrongReversal hn hA hg hF (fun v19 e19 w19 => ⟨_, rfl, ?_⟩)
         refine aw_istore_n cx 23 1 dX0_firstFailure_22 rfl rfl ⟨Nat.le_of_ble_eq_true rfl, Nat.le_of_ble_eq_true rfl⟩ rfl ?_
         dsimp only [List.set]
         refine aw_iload_n cx 24 dX0_firstFailure_23 rfl rfl ?_
         refine aw_if_ne cx 27 32 dX0_firstFailure_24 rfl (by decide) ⟨by omega, by omega⟩ (fun c24 => ?_) (fun c24 => ?_)
         · first
           | (exfalso; omega)
           | (refine aw_iload_n cx 33 dX0_firstFailure_32 rfl rfl ?_
              refine aw_ireturn cx dX0_firstFailure_33 ?_
              refine hRet _ _ True.intro rfl ?_
              first
              | exact k _ _ _ (by unfold fl; rw [if_pos (by omega)]; omega) ⟨by omega, by omega⟩ (fun q => by exfalso; omega)
              | exact k _ _ _ (by unfold fl; rw [if_neg (by omega), if_pos (by omega)]; omega) ⟨by omega, by omega⟩ (fun q => by exfalso; omega)
              | exact k _ _ _ (by unfold fl; rw [if_neg (by omega), if_neg (by omega), if_pos (by omega)]; omega) ⟨by omega, by omega⟩ (fun q => by exfalso; omega)
              | exact k _ _ _ (by unfold fl; rw [if_neg (by omega), if_neg (by omega), if_neg (by omega)]; omega) ⟨by omega, by omega⟩ (fun q i j l i0 i1 j0 j1 l0 l1 => z28 q l l0 (by have := rk_b (n := n) (g := g) (by omega) hg; omega) (tB_z (by omega) l l0 (by have := rk_b (n := n) (g := g) (by omega) hg; omega) l1) i j i0 i1 j0 j1))
         · first
           | (exfalso; omega)
           | (refine aw_aload_n cx 28 dX0_firstFailure_27 rfl rfl ?_
              refine aw_V0v cx 31 mX0_wrongCounts (ci := 0) dX0_firstFailure_28 rfl okmX0_wrongCounts lkX0_69 (by first | assumption | exact hc_0 | exact hc_1 | exact hc_2 | exact hc_3 | exact hc_4 | exact zz_gs _ _ _) ⟨rfl, by decide⟩ (zz_rc0 mX0_firstFailure hRm hNS rfl rfl) (Nat.le_of_ble_eq_true rfl) ?_
              refine s_X0_wrongCounts hn hA hg hF (fun v28 Nu28 Co28 e28 w28 z28 => ⟨_, rfl, ?_⟩)
              refine aw_istore_n cx 32 1 dX0_firstFailure_31 rfl rfl ⟨Nat.le_of_ble_eq_true rfl, Nat.le_of_ble_eq_true rfl⟩ rfl ?_
              dsimp only [List.set]
              refine aw_iload_n cx 33 dX0_firstFailure_32 rfl rfl ?_
              refine aw_ireturn cx dX0_firstFailure_33 ?_
              refine hRet _ _ True.intro rfl ?_
              first
              | exact k _ _ _ (by unfold fl; rw [if_pos (by omega)]; omega) ⟨by omega, by omega⟩ (fun q => by exfalso; omega)
              | exact k _ _ _ (by unfold fl; rw [if_neg (by omega), if_pos (by omega)]; omega) ⟨by omega, by omega⟩ (fun q => by exfalso; omega)
              | exact k _ _ _ (by unfold fl; rw [if_neg (by omega), if_neg (by omega), if_pos (by omega)]; omega) ⟨by omega, by omega⟩ (fun q => by exfalso; omega)
              | exact k _ _ _ (by unfold fl; rw [if_neg (by omega), if_neg (by omega), if_neg (by omega)]; omega) ⟨by omega, by omega⟩ (fun q i j l i0 i1 j0 j1 l0 l1 => z28 q l l0 (by have := rk_b (n := n) (g := g) (by omega) hg; omega) (tB_z (by omega) l l0 (by have := rk_b (n := n) (g := g) (by omega) hg; omega) l1) i j i0 i1 j0 j1)))
  · refine aw_aload_n cx 10 dX0_firstFailure_9 rfl rfl ?_
    refine aw_V0v cx 13 mX0_missingColour (ci := 0) dX0_firstFailure_10 rfl okmX0_missingColour lkX0_63 (by first | assumption | exact hc_0 | exact hc_1 | exact hc_2 | exact hc_3 | exact hc_4 | exact zz_gs _ _ _) ⟨rfl, by decide⟩ (zz_rc0 mX0_firstFailure hRm hNS rfl rfl) (Nat.le_of_ble_eq_true rfl) ?_
    refine s_X0_missingColour hn hg hF hr (fun v10 e10 w10 => ⟨_, rfl, ?_⟩)
    refine aw_istore_n cx 14 1 dX0_firstFailure_13 rfl rfl ⟨Nat.le_of_ble_eq_true rfl, Nat.le_of_ble_eq_true rfl⟩ rfl ?_
    dsimp only [List.set]
    refine aw_iload_n cx 15 dX0_firstFailure_14 rfl rfl ?_
    refine aw_if_ne cx 18 23 dX0_firstFailure_15 rfl (by decide) ⟨by omega, by omega⟩ (fun c15 => ?_) (fun c15 => ?_)
    · first
      | (exfalso; omega)
      | (refine aw_iload_n cx 24 dX0_firstFailure_23 rfl rfl ?_
         refine aw_if_ne cx 27 32 dX0_firstFailure_24 rfl (by decide) ⟨by omega, by omega⟩ (fun c24 => ?_) (fun c24 => ?_)
         · first
           | (exfalso; omega)
           | (refine aw_iload_n cx 33 dX0_firstFailure_32 rfl rfl ?_
              refine aw_ireturn cx dX0_firstFailure_33 ?_
              refine hRet _ _ True.intro rfl ?_
              first
              | exact k _ _ _ (by unfold fl; rw [if_pos (by omega)]; omega) ⟨by omega, by omega⟩ (fun q => by exfalso; omega)
              | exact k _ _ _ (by unfold fl; rw [if_neg (by omega), if_pos (by omega)]; omega) ⟨by omega, by omega⟩ (fun q => by exfalso; omega)
              | exact k _ _ _ (by unfold fl; rw [if_neg (by omega), if_neg (by omega), if_pos (by omega)]; omega) ⟨by omega, by omega⟩ (fun q => by exfalso; omega)
              | exact k _ _ _ (by unfold fl; rw [if_neg (by omega), if_neg (by omega), if_neg (by omega)]; omega) ⟨by omega, by omega⟩ (fun q i j l i0 i1 j0 j1 l0 l1 => z28 q l l0 (by have := rk_b (n := n) (g := g) (by omega) hg; omega) (tB_z (by omega) l l0 (by have := rk_b (n := n) (g := g) (by omega) hg; omega) l1) i j i0 i1 j0 j1))
         · first
           | (exfalso; omega)
           | (refine aw_aload_n cx 28 dX0_firstFailure_27 rfl rfl ?_
              refine aw_V0v cx 31 mX0_wrongCounts (ci := 0) dX0_firstFailure_28 rfl okmX0_wrongCounts lkX0_69 (by first | assumption | exact hc_0 | exact hc_1 | exact hc_2 | exact hc_3 | exact hc_4 | exact zz_gs _ _ _) ⟨rfl, by decide⟩ (zz_rc0 mX0_firstFailure hRm hNS rfl rfl) (Nat.le_of_ble_eq_true rfl) ?_
              refine s_X0_wrongCounts hn hA hg hF (fun v28 Nu28 Co28 e28 w28 z28 => ⟨_, rfl, ?_⟩)
              refine aw_istore_n cx 32 1 dX0_firstFailure_31 rfl rfl ⟨Nat.le_of_ble_eq_true rfl, Nat.le_of_ble_eq_true rfl⟩ rfl ?_
              dsimp only [List.set]
              refine aw_iload_n cx 33 dX0_firstFailure_32 rfl rfl ?_
              refine aw_ireturn cx dX0_firstFailure_33 ?_
              refine hRet _ _ True.intro rfl ?_
              first
              | exact k _ _ _ (by unfold fl; rw [if_pos (by omega)]; omega) ⟨by omega, by omega⟩ (fun q => by exfalso; omega)
              | exact k _ _ _ (by unfold fl; rw [if_neg (by omega), if_pos (by omega)]; omega) ⟨by omega, by omega⟩ (fun q => by exfalso; omega)
              | exact k _ _ _ (by unfold fl; rw [if_neg (by omega), if_neg (by omega), if_pos (by omega)]; omega) ⟨by omega, by omega⟩ (fun q => by exfalso; omega)
              | exact k _ _ _ (by unfold fl; rw [if_neg (by omega), if_neg (by omega), if_neg (by omega)]; omega) ⟨by omega, by omega⟩ (fun q i j l i0 i1 j0 j1 l0 l1 => z28 q l l0 (by have := rk_b (n := n) (g := g) (by omega) hg; omega) (tB_z (by omega) l l0 (by have := rk_b (n := n) (g := g) (by omega) hg; omega) l1) i j i0 i1 j0 j1)))
    · first
      | (exfalso; omega)
      | (refine aw_aload_n cx 19 dX0_firstFailure_18 rfl rfl ?_
         refine aw_V0v cx 22 mX0_wrongReversal (ci := 0) dX0_firstFailure_19 rfl okmX0_wrongReversal lkX0_66 (by first | assumption | exact hc_0 | exact hc_1 | exact hc_2 | exact hc_3 | exact hc_4 | exact zz_gs _ _ _) ⟨rfl, by decide⟩ (zz_rc0 mX0_firstFailure hRm hNS rfl rfl) (Nat.le_of_ble_eq_true rfl) ?_
         refine s_X0_wrongReversal hn hA hg hF (fun v19 e19 w19 => ⟨_, rfl, ?_⟩)
         refine aw_istore_n cx 23 1 dX0_firstFailure_22 rfl rfl ⟨Nat.le_of_ble_eq_true rfl, Nat.le_of_ble_eq_true rfl⟩ rfl ?_
         dsimp only [List.set]
         refine aw_iload_n cx 24 dX0_firstFailure_23 rfl rfl ?_
         refine aw_if_ne cx 27 32 dX0_firstFailure_24 rfl (by decide) ⟨by omega, by omega⟩ (fun c24 => ?_) (fun c24 => ?_)
         · first
           | (exfalso; omega)
           | (refine aw_iload_n cx 33 dX0_firstFailure_32 rfl rfl ?_
              refine aw_ireturn cx dX0_firstFailure_33 ?_
              refine hRet _ _ True.intro rfl ?_
              first
              | exact k _ _ _ (by unfold fl; rw [if_pos (by omega)]; omega) ⟨by omega, by omega⟩ (fun q => by exfalso; omega)
              | exact k _ _ _ (by unfold fl; rw [if_neg (by omega), if_pos (by omega)]; omega) ⟨by omega, by omega⟩ (fun q => by exfalso; omega)
              | exact k _ _ _ (by unfold fl; rw [if_neg (by omega), if_neg (by omega), if_pos (by omega)]; omega) ⟨by omega, by omega⟩ (fun q => by exfalso; omega)
              | exact k _ _ _ (by unfold fl; rw [if_neg (by omega), if_neg (by omega), if_neg (by omega)]; omega) ⟨by omega, by omega⟩ (fun q i j l i0 i1 j0 j1 l0 l1 => z28 q l l0 (by have := rk_b (n := n) (g := g) (by omega) hg; omega) (tB_z (by omega) l l0 (by have := rk_b (n := n) (g := g) (by omega) hg; omega) l1) i j i0 i1 j0 j1))
         · first
           | (exfalso; omega)
           | (refine aw_aload_n cx 28 dX0_firstFailure_27 rfl rfl ?_
              refine aw_V0v cx 31 mX0_wrongCounts (ci := 0) dX0_firstFailure_28 rfl okmX0_wrongCounts lkX0_69 (by first | assumption | exact hc_0 | exact hc_1 | exact hc_2 | exact hc_3 | exact hc_4 | exact zz_gs _ _ _) ⟨rfl, by decide⟩ (zz_rc0 mX0_firstFailure hRm hNS rfl rfl) (Nat.le_of_ble_eq_true rfl) ?_
              refine s_X0_wrongCounts hn hA hg hF (fun v28 Nu28 Co28 e28 w28 z28 => ⟨_, rfl, ?_⟩)
              refine aw_istore_n cx 32 1 dX0_firstFailure_31 rfl rfl ⟨Nat.le_of_ble_eq_true rfl, Nat.le_of_ble_eq_true rfl⟩ rfl ?_
              dsimp only [List.set]
              refine aw_iload_n cx 33 dX0_firstFailure_32 rfl rfl ?_
              refine aw_ireturn cx dX0_firstFailure_33 ?_
              refine hRet _ _ True.intro rfl ?_
              first
              | exact k _ _ _ (by unfold fl; rw [if_pos (by omega)]; omega) ⟨by omega, by omega⟩ (fun q => by exfalso; omega)
              | exact k _ _ _ (by unfold fl; rw [if_neg (by omega), if_pos (by omega)]; omega) ⟨by omega, by omega⟩ (fun q => by exfalso; omega)
              | exact k _ _ _ (by unfold fl; rw [if_neg (by omega), if_neg (by omega), if_pos (by omega)]; omega) ⟨by omega, by omega⟩ (fun q => by exfalso; omega)
              | exact k _ _ _ (by unfold fl; rw [if_neg (by omega), if_neg (by omega), if_neg (by omega)]; omega) ⟨by omega, by omega⟩ (fun q i j l i0 i1 j0 j1 l0 l1 => z28 q l l0 (by have := rk_b (n := n) (g := g) (by omega) hg; omega) (tB_z (by omega) l l0 (by have := rk_b (n := n) (g := g) (by omega) hg; omega) l1) i j i0 i1 j0 j1)))
set_option maxRecDepth 100000 in
set_option maxHeartbeats 4000000 in
theorem s_X0_measure {h : AH} {Q : Option AV → AH → Prop} {o : Nat} {C F Nu Co : Int → Int} {n r f : Int} {g : Gr} (hn : 1 ≤ n ∧ n ≤ 8) (hA : ag n C g) (hg : rgn n g) (k : ∀ F' Nu' Co' r' f', msd n g C F' Nu' r' f' → Q none (hcol h o C F' Nu' Co' n r' f')) : MC mX0_measure [vR o] (hcol h o C F Nu Co n r f) Q := by
  refine mc_start mX0_measure RX0 "measure" ⟨rfl, rfl, by decide +kernel⟩ [some (vR o)] ⟨0, rfl⟩ rfl (fun X cx hRm hNS hRet => ?_)
  refine aw_aload_n cx 1 dX0_measure_0 rfl rfl ?_
  refine aw_V0n cx 4 mX0_findFirsts (ci := 0) dX0_measure_1 rfl okmX0_findFirsts lkX0_48 (by first | assumption | exact hc_0 | exact hc_1 | exact hc_2 | exact hc_3 | exact hc_4 | exact zz_gs _ _ _) ⟨rfl, by decide⟩ (zz_rc0 mX0_measure hRm hNS rfl rfl) (Nat.le_of_ble_eq_true rfl) ?_
  refine s_X0_findFirsts hn hA hg (fun F1 e1 => ⟨rfl, ?_⟩)
  refine aw_aload_n cx 5 dX0_measure_4 rfl rfl ?_
  refine aw_aload_n cx 6 dX0_measure_5 rfl rfl ?_
  refine aw_V0v cx 9 mX0_firstFailure (ci := 0) dX0_measure_6 rfl okmX0_firstFailure lkX0_51 (by first | assumption | exact hc_0 | exact hc_1 | exact hc_2 | exact hc_3 | exact hc_4 | exact zz_gs _ _ _) ⟨rfl, by decide⟩ (zz_rc0 mX0_measure hRm hNS rfl rfl) (Nat.le_of_ble_eq_true rfl) ?_
  refine s_X0_firstFailure hn hA hg e1 rfl (fun v6 Nu6 Co6 e6 w6 z6 => ⟨_, rfl, ?_⟩)
  refine aw_putfield cx 12 dX0_measure_9 rfl fdX0_31 (by first | assumption | exact hc_0 | exact hc_1 | exact hc_2 | exact hc_3 | exact hc_4 | exact zz_gs _ _ _) (by exact Nat.le_of_ble_eq_true rfl) rfl ?_
  dsimp only [List.set]
  first | rw [hp_1] | rw [hp_2] | rw [hp_3] | rw [hp_4] | rw [hp_0]
  refine aw_return cx dX0_measure_12 ?_
  refine hRet _ _ rfl rfl ?_
  exact k _ _ _ _ _ ⟨hn, hA, hg, rfl, e6, e1, z6⟩
