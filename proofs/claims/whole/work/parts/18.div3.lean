set_option maxRecDepth 100000 in
set_option maxHeartbeats 4000000 in
theorem s_X1_divide {h : AH} {Q : Option AV → AH → Prop} {w q t : Nat} {C B L Be C2 F2 Nu2 Co2 : Int → Int} {n r f z n2 r2 f2 S : Int} {g : Gr} (hn : 1 ≤ n ∧ n ≤ 8) (hA : ag n C g) (hg : rgn n g) (hq : q + 4 < w ∨ w + 3 < q) (ht : t + 4 < w ∨ w + 3 < t) (hqt : q + 4 < t ∨ t + 4 < q) (hO : zz_get h q = cCol q n r f) (hC : zz_get h (q + 1) = cA 64 C) (k : ∀ B' L' Be' C' F' Nu' Co' r' f', msd (zQ n g S) (gQ n g S) C' F' Nu' r' f' → Q none (hcol (hdiv h w B' L' Be' (zQ n g S)) t C' F' Nu' Co' (zQ n g S) r' f')) : MC mX1_divide [vR w, vR q, vI S, vR t] (hcol (hdiv h w B L Be z) t C2 F2 Nu2 Co2 n2 r2 f2) Q := by
  refine mc_start mX1_divide RX1 "divide" ⟨rfl, rfl, by decide +kernel⟩ [some (vR w), some (vR q), some (vI S), some (vR t), none, none] ⟨2, rfl⟩ rfl (fun X cx hRm hNS hRet => ?_)
  rw [hcd ht]
  have hBI := BI_all (g := g) (S := S) n (by omega)
  have hZ := zQ_b (n := n) (g := g) (S := S) hn
  have hBr : ∀ x, 0 ≤ x → x < n → 0 ≤ (bst g S n).1 x ∧ (bst g S n).1 x < 8 := fun x x0 x1 => by have := hBI.2.1 x x0 x1; unfold zQ at hZ; omega
  refine aw_aload_n cx 1 dX1_divide_0 rfl rfl ?_
  refine aw_aload_n cx 2 dX1_divide_1 rfl rfl ?_
  refine aw_iload_n cx 3 dX1_divide_2 rfl rfl ?_
  refine aw_V2n cx 6 mX1_findBlocks (ci := 1) dX1_divide_3 rfl okmX1_findBlocks lkX1_25 (by first | assumption | exact hc_0 | exact hc_1 | exact hc_2 | exact hc_3 | exact hc_4 | exact (hc_x (by omega)).trans (by first | assumption | exact hd_0 | exact hd_1 | exact hd_2 | exact hd_3 | exact (hd_x (by omega)).trans (by assumption)) | exact hd_0 | exact (hd_x (by omega)).trans ((hc_x (by omega)).trans (by assumption))) ⟨rfl, by decide⟩ (zz_rc0 mX1_divide hRm hNS rfl rfl) (Nat.le_of_ble_eq_true rfl) ?_
  refine s_X1_findBlocks hn hA hg hq (by first | assumption | exact hc_0 | exact hc_1 | exact hc_2 | exact hc_3 | exact hc_4 | exact (hc_x (by omega)).trans (by first | assumption | exact hd_0 | exact hd_1 | exact hd_2 | exact hd_3 | exact (hd_x (by omega)).trans (by assumption)) | exact hd_0 | exact (hd_x (by omega)).trans ((hc_x (by omega)).trans (by assumption))) (by first | assumption | exact hc_0 | exact hc_1 | exact hc_2 | exact hc_3 | exact hc_4 | exact (hc_x (by omega)).trans (by first | assumption | exact hd_0 | exact hd_1 | exact hd_2 | exact hd_3 | exact (hd_x (by omega)).trans (by assumption)) | exact hd_0 | exact (hd_x (by omega)).trans ((hc_x (by omega)).trans (by assumption))) (fun B3 b3 => ⟨rfl, ?_⟩)
  refine aw_aload_n cx 7 dX1_divide_6 rfl rfl ?_
  refine aw_aload_n cx 8 dX1_divide_7 rfl rfl ?_
  refine aw_V1n cx 11 mX1_joinColours (ci := 1) dX1_divide_8 rfl okmX1_joinColours lkX1_29 (by first | assumption | exact hc_0 | exact hc_1 | exact hc_2 | exact hc_3 | exact hc_4 | exact (hc_x (by omega)).trans (by first | assumption | exact hd_0 | exact hd_1 | exact hd_2 | exact hd_3 | exact (hd_x (by omega)).trans (by assumption)) | exact hd_0 | exact (hd_x (by omega)).trans ((hc_x (by omega)).trans (by assumption))) ⟨rfl, by decide⟩ (zz_rc0 mX1_divide hRm hNS rfl rfl) (Nat.le_of_ble_eq_true rfl) ?_
  refine s_X1_joinColours (S := S) hn hA hg hq (by first | assumption | exact hc_0 | exact hc_1 | exact hc_2 | exact hc_3 | exact hc_4 | exact (hc_x (by omega)).trans (by first | assumption | exact hd_0 | exact hd_1 | exact hd_2 | exact hd_3 | exact (hd_x (by omega)).trans (by assumption)) | exact hd_0 | exact (hd_x (by omega)).trans ((hc_x (by omega)).trans (by assumption))) (by first | assumption | exact hc_0 | exact hc_1 | exact hc_2 | exact hc_3 | exact hc_4 | exact (hc_x (by omega)).trans (by first | assumption | exact hd_0 | exact hd_1 | exact hd_2 | exact hd_3 | exact (hd_x (by omega)).trans (by assumption)) | exact hd_0 | exact (hd_x (by omega)).trans ((hc_x (by omega)).trans (by assumption))) True.intro b3 (fun L8 Be8 l8 => ⟨rfl, ?_⟩)
  rw [← hcd ht]
  have LK : ∀ c, 0 ≤ c → c < 5 → 0 ≤ L8 c ∧ L8 c < 5 := fun c c0 c1 => by
    have := (kM_p n g (bst g S n).1 (x := c) ⟨c0, by omega⟩).1
    rw [l8 c c0 c1]
    omega
  have KQ : ∀ c, 0 ≤ c → c < 5 → kN L8 (L8 c) = qk n g S c := fun c c0 c1 => by
    have h1 := (kM_p n g (bst g S n).1 (x := c) ⟨c0, by omega⟩).1
    unfold qk
    rw [l8 c c0 c1]
    exact kN_congr (fun i i0 i1 => l8 i i0 (by omega))
  refine aw_aload_n cx 12 dX1_divide_11 rfl rfl ?_
  refine aw_aload_n cx 13 dX1_divide_12 rfl rfl ?_
  refine aw_getfield cx 16 dX1_divide_13 rfl fdX1_21 (by first | assumption | exact hc_0 | exact hc_1 | exact hc_2 | exact hc_3 | exact hc_4 | exact (hc_x (by omega)).trans (by first | assumption | exact hd_0 | exact hd_1 | exact hd_2 | exact hd_3 | exact (hd_x (by omega)).trans (by assumption)) | exact hd_0 | exact (hd_x (by omega)).trans ((hc_x (by omega)).trans (by assumption))) (by rfl) ?_
  refine aw_putfield cx 19 dX1_divide_16 rfl fdX1_33 (by first | assumption | exact hc_0 | exact hc_1 | exact hc_2 | exact hc_3 | exact hc_4 | exact (hc_x (by omega)).trans (by first | assumption | exact hd_0 | exact hd_1 | exact hd_2 | exact hd_3 | exact (hd_x (by omega)).trans (by assumption)) | exact hd_0 | exact (hd_x (by omega)).trans ((hc_x (by omega)).trans (by assumption))) (by exact Nat.le_of_ble_eq_true rfl) rfl ?_
  dsimp only [List.set]
  first | rw [hp_1] | rw [hp_2] | rw [hp_3] | rw [hp_4] | rw [hp_0]
  refine aw_iconst cx 20 dX1_divide_19 rfl ?_
  refine aw_istore cx 22 dX1_divide_20 rfl ⟨Nat.le_of_ble_eq_true rfl, Nat.le_of_ble_eq_true rfl⟩ rfl ?_
  dsimp only [List.set]
  have lp22 : ∀ (kf : Nat) (a : Int) (Ca : Int → Int), (n - a < (kf : Int)) → (0 ≤ a ∧ a ≤ n) → (∀ x y, 0 ≤ x → x < n → 0 ≤ y → y < n → x < a → Ca (8 * (bst g S n).1 x + (bst g S n).1 y) = qk n g S (g x y)) → AW X 22 [some (vR w), some (vR q), some (vI S), some (vR t), some (vI a), none] [] (hcol (hdiv h w B3 L8 Be8 (zQ n g S)) t Ca F2 Nu2 Co2 (zQ n g S) r2 f2) := by
    intro kf
    induction kf with
    | zero =>
      intro a Ca hk ha hz
      exfalso
      omega
    | succ kf ih22 =>
      intro a Ca hk ha hz
      refine aw_iload cx 24 dX1_divide_22 rfl rfl ?_
      refine aw_aload_n cx 25 dX1_divide_24 rfl rfl ?_
      refine aw_getfield cx 28 dX1_divide_25 rfl fdX1_33 (by first | assumption | exact hc_0 | exact hc_1 | exact hc_2 | exact hc_3 | exact hc_4 | exact (hc_x (by omega)).trans (by first | assumption | exact hd_0 | exact hd_1 | exact hd_2 | exact hd_3 | exact (hd_x (by omega)).trans (by assumption)) | exact hd_0 | exact (hd_x (by omega)).trans ((hc_x (by omega)).trans (by assumption))) (by rfl) ?_
      refine aw_icmp_ge cx 31 85 dX1_divide_28 rfl (by decide) ⟨⟨by omega, by omega⟩, ⟨by omega, by omega⟩⟩ (fun c28 => ?_) (fun c28 => ?_)
      · refine aw_aload_n cx 86 dX1_divide_85 rfl rfl ?_
        have hA2 : ag (zQ n g S) Ca (gQ n g S) := fun x y x0 x1 y0 y1 => by
          have u1 := qr_p (n := n) (g := g) (S := S) (p := x) (by omega) ⟨x0, x1⟩
          have u2 := qr_p (n := n) (g := g) (S := S) (p := y) (by omega) ⟨y0, y1⟩
          have u3 := hz (qr g S n x) (qr g S n y) u1.1.1 u1.1.2 u2.1.1 u2.1.2 (by omega)
          rw [u1.2, u2.2] at u3
          exact u3
        refine aw_V0n cx 89 mX0_measure (ci := 0) dX1_divide_86 rfl okmX0_measure lkX1_48 (by first | assumption | exact hc_0 | exact hc_1 | exact hc_2 | exact hc_3 | exact hc_4 | exact (hc_x (by omega)).trans (by first | assumption | exact hd_0 | exact hd_1 | exact hd_2 | exact hd_3 | exact (hd_x (by omega)).trans (by assumption)) | exact hd_0 | exact (hd_x (by omega)).trans ((hc_x (by omega)).trans (by assumption))) ⟨rfl, by decide⟩ (zz_rc0 mX1_divide hRm hNS rfl rfl) (Nat.le_of_ble_eq_true rfl) ?_
        refine s_X0_measure hZ hA2 (gQ_r hn hg) (fun F86 Nu86 Co86 r86 f86 m86 => ⟨rfl, ?_⟩)
        refine aw_return cx dX1_divide_89 ?_
        refine hRet _ _ rfl rfl ?_
        exact k _ _ _ _ _ _ _ _ _ m86
      · refine aw_iconst cx 32 dX1_divide_31 rfl ?_
        refine aw_istore cx 34 dX1_divide_32 rfl ⟨Nat.le_of_ble_eq_true rfl, Nat.le_of_ble_eq_true rfl⟩ rfl ?_
        dsimp only [List.set]
        have lp34 : ∀ (kf : Nat) (b : Int) (Cb : Int → Int), (n - b < (kf : Int)) → (0 ≤ b ∧ b ≤ n) → (∀ x y, 0 ≤ x → x < n → 0 ≤ y → y < n → lx x y a b → Cb (8 * (bst g S n).1 x + (bst g S n).1 y) = qk n g S (g x y)) → AW X 34 [some (vR w), some (vR q), some (vI S), some (vR t), some (vI a), some (vI b)] [] (hcol (hdiv h w B3 L8 Be8 (zQ n g S)) t Cb F2 Nu2 Co2 (zQ n g S) r2 f2) := by
          intro kf
          induction kf with
          | zero =>
            intro b Cb hk hb hy
            exfalso
            omega
          | succ kf ih34 =>
            intro b Cb hk hb hy
            refine aw_iload cx 36 dX1_divide_34 rfl rfl ?_
            refine aw_aload_n cx 37 dX1_divide_36 rfl rfl ?_
            refine aw_getfield cx 40 dX1_divide_37 rfl fdX1_33 (by first | assumption | exact hc_0 | exact hc_1 | exact hc_2 | exact hc_3 | exact hc_4 | exact (hc_x (by omega)).trans (by first | assumption | exact hd_0 | exact hd_1 | exact hd_2 | exact hd_3 | exact (hd_x (by omega)).trans (by assumption)) | exact hd_0 | exact (hd_x (by omega)).trans ((hc_x (by omega)).trans (by assumption))) (by rfl) ?_
            refine aw_icmp_ge cx 43 79 dX1_divide_40 rfl (by decide) ⟨⟨by omega, by omega⟩, ⟨by omega, by omega⟩⟩ (fun c40 => ?_) (fun c40 => ?_)
            · refine aw_iinc cx 82 dX1_divide_79 rfl rfl (Nat.le_of_ble_eq_true rfl) rfl ?_
              dsimp only [List.set]
              refine aw_goto cx 22 dX1_divide_82 (by decide) ?_
              exact aw_weak (ih22 (a + 1) _ (by omega) ⟨by omega, by omega⟩ (fun x y x0 x1 y0 y1 hl => hy x y x0 x1 y0 y1 (by omega))) (by simp [zz_le])
            · have ea := b3 a (by omega) (by omega)
              have eb := b3 b (by omega) (by omega)
              have ra := hBr a (by omega) (by omega)
              have rb := hBr b (by omega) (by omega)
              refine aw_aload_n cx 44 dX1_divide_43 rfl rfl ?_
              refine aw_aload_n cx 45 dX1_divide_44 rfl rfl ?_
              refine aw_getfield cx 48 dX1_divide_45 rfl fdX1_9 (by first | assumption | exact hc_0 | exact hc_1 | exact hc_2 | exact hc_3 | exact hc_4 | exact (hc_x (by omega)).trans (by first | assumption | exact hd_0 | exact hd_1 | exact hd_2 | exact hd_3 | exact (hd_x (by omega)).trans (by assumption)) | exact hd_0 | exact (hd_x (by omega)).trans ((hc_x (by omega)).trans (by assumption))) (by rfl) ?_
              refine aw_iload cx 50 dX1_divide_48 rfl rfl ?_
              refine aw_iaload cx 51 dX1_divide_50 rfl (by first | assumption | exact hc_0 | exact hc_1 | exact hc_2 | exact hc_3 | exact hc_4 | exact (hc_x (by omega)).trans (by first | assumption | exact hd_0 | exact hd_1 | exact hd_2 | exact hd_3 | exact (hd_x (by omega)).trans (by assumption)) | exact hd_0 | exact (hd_x (by omega)).trans ((hc_x (by omega)).trans (by assumption))) ⟨by omega, by omega⟩ (by decide) ?_
              refine aw_aload_n cx 52 dX1_divide_51 rfl rfl ?_
              refine aw_getfield cx 55 dX1_divide_52 rfl fdX1_9 (by first | assumption | exact hc_0 | exact hc_1 | exact hc_2 | exact hc_3 | exact hc_4 | exact (hc_x (by omega)).trans (by first | assumption | exact hd_0 | exact hd_1 | exact hd_2 | exact hd_3 | exact (hd_x (by omega)).trans (by assumption)) | exact hd_0 | exact (hd_x (by omega)).trans ((hc_x (by omega)).trans (by assumption))) (by rfl) ?_
              refine aw_iload cx 57 dX1_divide_55 rfl rfl ?_
              refine aw_iaload cx 58 dX1_divide_57 rfl (by first | assumption | exact hc_0 | exact hc_1 | exact hc_2 | exact hc_3 | exact hc_4 | exact (hc_x (by omega)).trans (by first | assumption | exact hd_0 | exact hd_1 | exact hd_2 | exact hd_3 | exact (hd_x (by omega)).trans (by assumption)) | exact hd_0 | exact (hd_x (by omega)).trans ((hc_x (by omega)).trans (by assumption))) ⟨by omega, by omega⟩ (by decide) ?_
              refine aw_aload_n cx 59 dX1_divide_58 rfl rfl ?_
              refine aw_aload_n cx 60 dX1_divide_59 rfl rfl ?_
              refine aw_iload cx 62 dX1_divide_60 rfl rfl ?_
              refine aw_iload cx 64 dX1_divide_62 rfl rfl ?_
              refine aw_V2v cx 67 mX0_colourOf (ci := 0) dX1_divide_64 rfl okmX0_colourOf lkX1_36 (by first | assumption | exact hc_0 | exact hc_1 | exact hc_2 | exact hc_3 | exact hc_4 | exact (hc_x (by omega)).trans (by first | assumption | exact hd_0 | exact hd_1 | exact hd_2 | exact hd_3 | exact (hd_x (by omega)).trans (by assumption)) | exact hd_0 | exact (hd_x (by omega)).trans ((hc_x (by omega)).trans (by assumption))) ⟨rfl, by decide⟩ (zz_rc0 mX1_divide hRm hNS rfl rfl) (Nat.le_of_ble_eq_true rfl) ?_
              refine s_X0_colourOf (by first | assumption | exact hc_0 | exact hc_1 | exact hc_2 | exact hc_3 | exact hc_4 | exact (hc_x (by omega)).trans (by first | assumption | exact hd_0 | exact hd_1 | exact hd_2 | exact hd_3 | exact (hd_x (by omega)).trans (by assumption)) | exact hd_0 | exact (hd_x (by omega)).trans ((hc_x (by omega)).trans (by assumption))) (by first | assumption | exact hc_0 | exact hc_1 | exact hc_2 | exact hc_3 | exact hc_4 | exact (hc_x (by omega)).trans (by first | assumption | exact hd_0 | exact hd_1 | exact hd_2 | exact hd_3 | exact (hd_x (by omega)).trans (by assumption)) | exact hd_0 | exact (hd_x (by omega)).trans ((hc_x (by omega)).trans (by assumption))) ⟨by omega, by omega⟩ ⟨by omega, by omega⟩ (fun v64 e64 => ⟨_, rfl, ?_⟩)
              have q64 := hA a b (by omega) (by omega) (by omega) (by omega)
              have w64 := hg a b (by omega) (by omega) (by omega) (by omega)
              refine aw_V1v cx 70 mX1_kindOf (ci := 1) dX1_divide_67 rfl okmX1_kindOf lkX1_40 (by first | assumption | exact hc_0 | exact hc_1 | exact hc_2 | exact hc_3 | exact hc_4 | exact (hc_x (by omega)).trans (by first | assumption | exact hd_0 | exact hd_1 | exact hd_2 | exact hd_3 | exact (hd_x (by omega)).trans (by assumption)) | exact hd_0 | exact (hd_x (by omega)).trans ((hc_x (by omega)).trans (by assumption))) ⟨rfl, by decide⟩ (zz_rc0 mX1_divide hRm hNS rfl rfl) (Nat.le_of_ble_eq_true rfl) ?_
              refine s_X1_kindOf ⟨by omega, by omega⟩ (by first | assumption | exact hc_0 | exact hc_1 | exact hc_2 | exact hc_3 | exact hc_4 | exact (hc_x (by omega)).trans (by first | assumption | exact hd_0 | exact hd_1 | exact hd_2 | exact hd_3 | exact (hd_x (by omega)).trans (by assumption)) | exact hd_0 | exact (hd_x (by omega)).trans ((hc_x (by omega)).trans (by assumption))) (by first | assumption | exact hc_0 | exact hc_1 | exact hc_2 | exact hc_3 | exact hc_4 | exact (hc_x (by omega)).trans (by first | assumption | exact hd_0 | exact hd_1 | exact hd_2 | exact hd_3 | exact (hd_x (by omega)).trans (by assumption)) | exact hd_0 | exact (hd_x (by omega)).trans ((hc_x (by omega)).trans (by assumption))) (by assumption) (fun v67 e67 => ⟨_, rfl, ?_⟩)
              refine aw_V3n cx 73 mX0_paint (ci := 0) dX1_divide_70 rfl okmX0_paint lkX1_44 (by first | assumption | exact hc_0 | exact hc_1 | exact hc_2 | exact hc_3 | exact hc_4 | exact (hc_x (by omega)).trans (by first | assumption | exact hd_0 | exact hd_1 | exact hd_2 | exact hd_3 | exact (hd_x (by omega)).trans (by assumption)) | exact hd_0 | exact (hd_x (by omega)).trans ((hc_x (by omega)).trans (by assumption))) ⟨rfl, by decide⟩ (zz_rc0 mX1_divide hRm hNS rfl rfl) (Nat.le_of_ble_eq_true rfl) ?_
              refine s_X0_paint (by first | assumption | exact hc_0 | exact hc_1 | exact hc_2 | exact hc_3 | exact hc_4 | exact (hc_x (by omega)).trans (by first | assumption | exact hc_0 | exact hc_1 | exact hc_2 | exact hc_3 | exact hc_4)) (by first | assumption | exact hc_0 | exact hc_1 | exact hc_2 | exact hc_3 | exact hc_4 | exact (hc_x (by omega)).trans (by first | assumption | exact hc_0 | exact hc_1 | exact hc_2 | exact hc_3 | exact hc_4)) ⟨by omega, by omega⟩ ⟨by omega, by omega⟩ ⟨rfl, ?_⟩
              rw [hp_1]
              refine aw_iinc cx 76 dX1_divide_73 rfl rfl (Nat.le_of_ble_eq_true rfl) rfl ?_
              dsimp only [List.set]
              refine aw_goto cx 34 dX1_divide_76 (by decide) ?_
              exact aw_weak (ih34 (b + 1) _ (by omega) ⟨by omega, by omega⟩ (fun x y x0 x1 y0 y1 hl => by
                have sx := hBr x x0 x1
                have sy := hBr y y0 y1
                rw [ea, eb, up_at ⟨by omega, by omega⟩ ⟨by omega, by omega⟩]
                by_cases e : (bst g S n).1 x = (bst g S n).1 a ∧ (bst g S n).1 y = (bst g S n).1 b
                · rw [if_pos e, e67, KQ v64 (by omega) (by omega), e64, q64]
                  exact (qk_w hg ⟨x0, x1⟩ ⟨y0, y1⟩ ⟨by omega, by omega⟩ ⟨by omega, by omega⟩ e.1 e.2).symm
                · rw [if_neg e]
                  exact hy x y x0 x1 y0 y1 (by
                    by_cases e2 : x = a ∧ y = b
                    · rw [e2.1, e2.2] at e
                      exact absurd ⟨rfl, rfl⟩ e
                    · omega))) (by simp [zz_le])
        exact aw_weak (lp34 (n.toNat + 1) 0 Ca (by omega) ⟨by omega, by omega⟩ (fun x y x0 x1 y0 y1 hl => hz x y x0 x1 y0 y1 (by omega))) (by simp [zz_le])
  exact aw_weak (lp22 (n.toNat + 1) 0 C2 (by omega) ⟨by omega, by omega⟩ (fun x y x0 x1 y0 y1 hl => by omega)) (by simp [zz_le])
