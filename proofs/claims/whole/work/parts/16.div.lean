/-! Division: the object w and its rows w + 1 .. w + 3 -/
abbrev cDiv (w : Nat) (z : Int) : AC := cO 1 [vR (w + 1), vR (w + 2), vR (w + 3), vI z]
def hdiv (h : AH) (w : Nat) (B L Be : Int → Int) (z : Int) : AH := zz_put (zz_put (zz_put (zz_put h w (cDiv w z)) (w + 1) (cA 8 B)) (w + 2) (cA 5 L)) (w + 3) (cA 64 Be)
section
variable {h : AH} {w : Nat} {B L Be B' L' Be' : Int → Int} {z z' : Int}
theorem hd_0 : zz_get (hdiv h w B L Be z) w = cDiv w z := by
  unfold hdiv
  rw [zz_gn (by omega), zz_gn (by omega), zz_gn (by omega), zz_gs]
theorem hd_1 : zz_get (hdiv h w B L Be z) (w + 1) = cA 8 B := by
  unfold hdiv
  rw [zz_gn (by omega), zz_gn (by omega), zz_gs]
theorem hd_2 : zz_get (hdiv h w B L Be z) (w + 2) = cA 5 L := by
  unfold hdiv
  rw [zz_gn (by omega), zz_gs]
theorem hd_3 : zz_get (hdiv h w B L Be z) (w + 3) = cA 64 Be := by
  unfold hdiv
  rw [zz_gs]
theorem hd_x {k : Nat} (hk : k < w ∨ w + 3 < k) : zz_get (hdiv h w B L Be z) k = zz_get h k := by
  unfold hdiv
  rw [zz_gn (by omega), zz_gn (by omega), zz_gn (by omega), zz_gn (by omega)]
theorem hq_3 : zz_put (hdiv h w B L Be z) (w + 3) (cA 64 Be') = hdiv h w B L Be' z := by
  unfold hdiv
  rw [zz_put_put]
theorem hq_2 : zz_put (hdiv h w B L Be z) (w + 2) (cA 5 L') = hdiv h w B L' Be z := by
  unfold hdiv
  rw [zz_put_comm _ (w + 3) (w + 2) _ _ (by omega), zz_put_put]
theorem hq_1 : zz_put (hdiv h w B L Be z) (w + 1) (cA 8 B') = hdiv h w B' L Be z := by
  unfold hdiv
  rw [zz_put_comm _ (w + 3) (w + 1) _ _ (by omega), zz_put_comm _ (w + 2) (w + 1) _ _ (by omega), zz_put_put]
theorem hq_0 : zz_put (hdiv h w B L Be z) w (cO 1 [vR (w + 1), vR (w + 2), vR (w + 3), vI z']) = hdiv h w B L Be z' := by
  unfold hdiv
  rw [zz_put_comm _ (w + 3) w _ _ (by omega), zz_put_comm _ (w + 2) w _ _ (by omega), zz_put_comm _ (w + 1) w _ _ (by omega), zz_put_put]
theorem hd_in (h0 : zz_get h w = cDiv w z) (h1 : zz_get h (w + 1) = cA 8 B) (h2 : zz_get h (w + 2) = cA 5 L) (h3 : zz_get h (w + 3) = cA 64 Be) : h = hdiv h w B L Be z := by
  unfold hdiv
  rw [zz_put_get h w _ h0, zz_put_get h (w + 1) _ h1, zz_put_get h (w + 2) _ h2, zz_put_get h (w + 3) _ h3]
end
set_option maxRecDepth 100000 in
set_option maxHeartbeats 4000000 in
theorem s_X1_join {h : AH} {Q : Option AV → AH → Prop} {w : Nat} {B L Be : Int → Int} {z a b : Int} (ha : 0 ≤ a ∧ a < 5) (hb : 0 ≤ b ∧ b < 5) (hL : ∀ c, 0 ≤ c → c < 5 → 0 ≤ L c ∧ L c < 5) (k : ∀ L' m, ((a ≤ b ∧ m = a) ∨ (b ≤ a ∧ m = b)) → (∀ c, 0 ≤ c → c < 5 → L' c = if L c = a ∨ L c = b then m else L c) → Q none (hdiv h w B L' Be z)) : MC mX1_join [vR w, vI a, vI b] (hdiv h w B L Be z) Q := by
  refine mc_start mX1_join RX1 "join" ⟨rfl, rfl, by decide +kernel⟩ [some (vR w), some (vI a), some (vI b), none, none] ⟨2, rfl⟩ rfl (fun X cx hRm hNS hRet => ?_)
  refine aw_iload_n cx 1 dX1_join_0 rfl rfl ?_
  refine aw_iload_n cx 2 dX1_join_1 rfl rfl ?_
  refine aw_mmin cx 5 dX1_join_2 rfl lkX1_59 ⟨by rw [hRm]; exact (Nat.le_of_ble_eq_true rfl), by rw [hRm]; exact (Nat.le_of_ble_eq_true rfl)⟩ (zz_rm0 hNS rfl) (by constructor <;> constructor <;> omega) (fun v2 e2 => ?_)
  refine aw_istore_n cx 6 3 dX1_join_5 rfl rfl ⟨Nat.le_of_ble_eq_true rfl, Nat.le_of_ble_eq_true rfl⟩ rfl ?_
  dsimp only [List.set]
  refine aw_iconst cx 7 dX1_join_6 rfl ?_
  refine aw_istore cx 9 dX1_join_7 rfl ⟨Nat.le_of_ble_eq_true rfl, Nat.le_of_ble_eq_true rfl⟩ rfl ?_
  dsimp only [List.set]
  have lp9 : ∀ (kf : Nat) (c : Int) (Lc : Int → Int), (5 - c < (kf : Int)) → (0 ≤ c ∧ c ≤ 5) → (∀ y, 0 ≤ y → y < 5 → Lc y = if y < c ∧ (L y = a ∨ L y = b) then v2 else L y) → AW X 9 [some (vR w), some (vI a), some (vI b), some (vI v2), some (vI c)] [] (hdiv h w B Lc Be z) := by
    intro kf
    induction kf with
    | zero =>
      intro c Lc hk hc hy
      exfalso
      omega
    | succ kf ih9 =>
      intro c Lc hk hc hy
      have hlc := hL
      refine aw_iload cx 11 dX1_join_9 rfl rfl ?_
      refine aw_iconst cx 12 dX1_join_11 rfl ?_
      refine aw_icmp_ge cx 15 51 dX1_join_12 rfl (by decide) ⟨⟨by omega, by omega⟩, ⟨by omega, by omega⟩⟩ (fun c12 => ?_) (fun c12 => ?_)
      · refine aw_return cx dX1_join_51 ?_
        refine hRet _ _ rfl rfl ?_
        exact k _ v2 (by omega) (fun y y0 y1 => by rw [hy y y0 y1]; split <;> split <;> first | rfl | omega)
      · have qc := hy c (by omega) (by omega)
        rw [if_neg (by omega)] at qc
        have lc := hL c (by omega) (by omega)
        rw [← qc] at lc
        refine aw_aload_n cx 16 dX1_join_15 rfl rfl ?_
        refine aw_getfield cx 19 dX1_join_16 rfl fdX1_15 (by first | assumption | exact hd_0 | exact hd_1 | exact hd_2 | exact hd_3 | exact (hd_x (by omega)).trans (by first | assumption)) (by rfl) ?_
        refine aw_iload cx 21 dX1_join_19 rfl rfl ?_
        refine aw_iaload cx 22 dX1_join_21 rfl (by first | assumption | exact hd_0 | exact hd_1 | exact hd_2 | exact hd_3 | exact (hd_x (by omega)).trans (by first | assumption)) ⟨by omega, by omega⟩ (by decide) ?_
        refine aw_iload_n cx 23 dX1_join_22 rfl rfl ?_
        refine aw_icmp_eq cx 26 37 dX1_join_23 rfl (by decide) ⟨⟨by omega, by omega⟩, ⟨by omega, by omega⟩⟩ (fun c23 => ?_) (fun c23 => ?_)
        · refine aw_aload_n cx 38 dX1_join_37 rfl rfl ?_
          refine aw_getfield cx 41 dX1_join_38 rfl fdX1_15 (by first | assumption | exact hd_0 | exact hd_1 | exact hd_2 | exact hd_3 | exact (hd_x (by omega)).trans (by first | assumption)) (by rfl) ?_
          refine aw_iload cx 43 dX1_join_41 rfl rfl ?_
          refine aw_iload_n cx 44 dX1_join_43 rfl rfl ?_
          refine aw_iastore cx 45 dX1_join_44 rfl (by first | assumption | exact hd_0 | exact hd_1 | exact hd_2 | exact hd_3 | exact (hd_x (by omega)).trans (by first | assumption)) ⟨by omega, by omega⟩ (by decide) ?_
          first | rw [hq_1] | rw [hq_2] | rw [hq_3] | rw [hq_0]
          refine aw_iinc cx 48 dX1_join_45 rfl rfl (Nat.le_of_ble_eq_true rfl) rfl ?_
          dsimp only [List.set]
          refine aw_goto cx 9 dX1_join_48 (by decide) ?_
          exact ih9 (c + 1) _ (by omega) ⟨by omega, by omega⟩ (fun y y0 y1 => by
            have q := hy y y0 y1
            have qc := hy c (by omega) (by omega)
            rw [if_neg (by omega)] at qc
            first
            | (unfold zz_up
               by_cases e : y = c
               · subst e
                 rw [if_pos rfl, if_pos (by omega)]
               · rw [if_neg e, q]
                 split <;> split <;> first | rfl | omega)
            | (by_cases e : y = c
               · subst e
                 rw [q]
                 split <;> split <;> first | rfl | omega
               · rw [q]
                 split <;> split <;> first | rfl | omega))
        · refine aw_aload_n cx 27 dX1_join_26 rfl rfl ?_
          refine aw_getfield cx 30 dX1_join_27 rfl fdX1_15 (by first | assumption | exact hd_0 | exact hd_1 | exact hd_2 | exact hd_3 | exact (hd_x (by omega)).trans (by first | assumption)) (by rfl) ?_
          refine aw_iload cx 32 dX1_join_30 rfl rfl ?_
          refine aw_iaload cx 33 dX1_join_32 rfl (by first | assumption | exact hd_0 | exact hd_1 | exact hd_2 | exact hd_3 | exact (hd_x (by omega)).trans (by first | assumption)) ⟨by omega, by omega⟩ (by decide) ?_
          refine aw_iload_n cx 34 dX1_join_33 rfl rfl ?_
          refine aw_icmp_ne cx 37 45 dX1_join_34 rfl (by decide) ⟨⟨by omega, by omega⟩, ⟨by omega, by omega⟩⟩ (fun c34 => ?_) (fun c34 => ?_)
          · refine aw_iinc cx 48 dX1_join_45 rfl rfl (Nat.le_of_ble_eq_true rfl) rfl ?_
            dsimp only [List.set]
            refine aw_goto cx 9 dX1_join_48 (by decide) ?_
            exact ih9 (c + 1) _ (by omega) ⟨by omega, by omega⟩ (fun y y0 y1 => by
              have q := hy y y0 y1
              have qc := hy c (by omega) (by omega)
              rw [if_neg (by omega)] at qc
              first
              | (unfold zz_up
                 by_cases e : y = c
                 · subst e
                   rw [if_pos rfl, if_pos (by omega)]
                 · rw [if_neg e, q]
                   split <;> split <;> first | rfl | omega)
              | (by_cases e : y = c
                 · subst e
                   rw [q]
                   split <;> split <;> first | rfl | omega
                 · rw [q]
                   split <;> split <;> first | rfl | omega))
          · refine aw_aload_n cx 38 dX1_join_37 rfl rfl ?_
            refine aw_getfield cx 41 dX1_join_38 rfl fdX1_15 (by first | assumption | exact hd_0 | exact hd_1 | exact hd_2 | exact hd_3 | exact (hd_x (by omega)).trans (by first | assumption)) (by rfl) ?_
            refine aw_iload cx 43 dX1_join_41 rfl rfl ?_
            refine aw_iload_n cx 44 dX1_join_43 rfl rfl ?_
            refine aw_iastore cx 45 dX1_join_44 rfl (by first | assumption | exact hd_0 | exact hd_1 | exact hd_2 | exact hd_3 | exact (hd_x (by omega)).trans (by first | assumption)) ⟨by omega, by omega⟩ (by decide) ?_
            first | rw [hq_1] | rw [hq_2] | rw [hq_3] | rw [hq_0]
            refine aw_iinc cx 48 dX1_join_45 rfl rfl (Nat.le_of_ble_eq_true rfl) rfl ?_
            dsimp only [List.set]
            refine aw_goto cx 9 dX1_join_48 (by decide) ?_
            exact ih9 (c + 1) _ (by omega) ⟨by omega, by omega⟩ (fun y y0 y1 => by
              have q := hy y y0 y1
              have qc := hy c (by omega) (by omega)
              rw [if_neg (by omega)] at qc
              first
              | (unfold zz_up
                 by_cases e : y = c
                 · subst e
                   rw [if_pos rfl, if_pos (by omega)]
                 · rw [if_neg e, q]
                   split <;> split <;> first | rfl | omega)
              | (by_cases e : y = c
                 · subst e
                   rw [q]
                   split <;> split <;> first | rfl | omega
                 · rw [q]
                   split <;> split <;> first | rfl | omega))
  exact lp9 6 0 L (by omega) ⟨by omega, by omega⟩ (fun y y0 y1 => by rw [if_neg (by omega)])
set_option maxRecDepth 100000 in
set_option maxHeartbeats 4000000 in
theorem s_X1_kindOf {h : AH} {Q : Option AV → AH → Prop} {w : Nat} {L : Int → Int} {z c : Int} (hc : 0 ≤ c ∧ c < 5) (hW0 : zz_get h w = cDiv w z) (hW2 : zz_get h (w + 2) = cA 5 L) (hL : ∀ c, 0 ≤ c → c < 5 → 0 ≤ L c ∧ L c < 5) (k : ∀ v, v = kN L (L c) → Q (some (vI v)) h) : MC mX1_kindOf [vR w, vI c] h Q := by
  refine mc_start mX1_kindOf RX1 "kindOf" ⟨rfl, rfl, by decide +kernel⟩ [some (vR w), some (vI c), none, none] ⟨2, rfl⟩ rfl (fun X cx hRm hNS hRet => ?_)
  have hlc := hL c hc.1 hc.2
  refine aw_iconst cx 1 dX1_kindOf_0 rfl ?_
  refine aw_istore_n cx 2 2 dX1_kindOf_1 rfl rfl ⟨Nat.le_of_ble_eq_true rfl, Nat.le_of_ble_eq_true rfl⟩ rfl ?_
  dsimp only [List.set]
  refine aw_iconst cx 3 dX1_kindOf_2 rfl ?_
  refine aw_istore_n cx 4 3 dX1_kindOf_3 rfl rfl ⟨Nat.le_of_ble_eq_true rfl, Nat.le_of_ble_eq_true rfl⟩ rfl ?_
  dsimp only [List.set]
  have lp4 : ∀ (kf : Nat) (s i : Int), (L c - i < (kf : Int)) → (0 ≤ i ∧ i ≤ L c) → s = kN L i → AW X 4 [some (vR w), some (vI c), some (vI s), some (vI i)] [] (h) := by
    intro kf
    induction kf with
    | zero =>
      intro s i hk hi hs
      exfalso
      omega
    | succ kf ih4 =>
      intro s i hk hi hs
      refine aw_iload_n cx 5 dX1_kindOf_4 rfl rfl ?_
      refine aw_aload_n cx 6 dX1_kindOf_5 rfl rfl ?_
      refine aw_getfield cx 9 dX1_kindOf_6 rfl fdX1_15 (by first | assumption | exact hc_0 | exact hc_1 | exact hc_2 | exact hc_3 | exact hc_4 | exact zz_gs _ _ _ | exact (hc_x (by omega)).trans (by first | assumption | exact hc_0 | exact hc_1 | exact hc_2 | exact hc_3 | exact hc_4 | exact zz_gs _ _ _) | exact (zz_gn (by omega)).trans (by first | assumption | exact hc_0 | exact hc_1 | exact hc_2 | exact hc_3 | exact hc_4 | exact zz_gs _ _ _)) (by rfl) ?_
      refine aw_iload_n cx 10 dX1_kindOf_9 rfl rfl ?_
      refine aw_iaload cx 11 dX1_kindOf_10 rfl (by first | assumption | exact hc_0 | exact hc_1 | exact hc_2 | exact hc_3 | exact hc_4 | exact zz_gs _ _ _ | exact (hc_x (by omega)).trans (by first | assumption | exact hc_0 | exact hc_1 | exact hc_2 | exact hc_3 | exact hc_4 | exact zz_gs _ _ _) | exact (zz_gn (by omega)).trans (by first | assumption | exact hc_0 | exact hc_1 | exact hc_2 | exact hc_3 | exact hc_4 | exact zz_gs _ _ _)) ⟨by omega, by omega⟩ (by decide) ?_
      refine aw_icmp_ge cx 14 33 dX1_kindOf_11 rfl (by decide) ⟨⟨by omega, by omega⟩, ⟨by omega, by omega⟩⟩ (fun c11 => ?_) (fun c11 => ?_)
      · refine aw_iload_n cx 34 dX1_kindOf_33 rfl rfl ?_
        refine aw_ireturn cx dX1_kindOf_34 ?_
        refine hRet _ _ True.intro rfl ?_
        exact k _ (by rw [hs, show i = L c by omega])
      · have hli := hL i (by omega) (by omega)
        refine aw_aload_n cx 15 dX1_kindOf_14 rfl rfl ?_
        refine aw_getfield cx 18 dX1_kindOf_15 rfl fdX1_15 (by first | assumption | exact hc_0 | exact hc_1 | exact hc_2 | exact hc_3 | exact hc_4 | exact zz_gs _ _ _ | exact (hc_x (by omega)).trans (by first | assumption | exact hc_0 | exact hc_1 | exact hc_2 | exact hc_3 | exact hc_4 | exact zz_gs _ _ _) | exact (zz_gn (by omega)).trans (by first | assumption | exact hc_0 | exact hc_1 | exact hc_2 | exact hc_3 | exact hc_4 | exact zz_gs _ _ _)) (by rfl) ?_
        refine aw_iload_n cx 19 dX1_kindOf_18 rfl rfl ?_
        refine aw_iaload cx 20 dX1_kindOf_19 rfl (by first | assumption | exact hc_0 | exact hc_1 | exact hc_2 | exact hc_3 | exact hc_4 | exact zz_gs _ _ _ | exact (hc_x (by omega)).trans (by first | assumption | exact hc_0 | exact hc_1 | exact hc_2 | exact hc_3 | exact hc_4 | exact zz_gs _ _ _) | exact (zz_gn (by omega)).trans (by first | assumption | exact hc_0 | exact hc_1 | exact hc_2 | exact hc_3 | exact hc_4 | exact zz_gs _ _ _)) ⟨by omega, by omega⟩ (by decide) ?_
        refine aw_iload_n cx 21 dX1_kindOf_20 rfl rfl ?_
        refine aw_icmp_ne cx 24 27 dX1_kindOf_21 rfl (by decide) ⟨⟨by omega, by omega⟩, ⟨by omega, by omega⟩⟩ (fun c21 => ?_) (fun c21 => ?_)
        · refine aw_iinc cx 30 dX1_kindOf_27 rfl rfl (Nat.le_of_ble_eq_true rfl) rfl ?_
          dsimp only [List.set]
          refine aw_goto cx 4 dX1_kindOf_30 (by decide) ?_
          exact ih4 _ (i + 1) (by omega) ⟨by omega, by omega⟩ (by rw [kN_s hi.1]; split <;> omega)
        · refine aw_iinc cx 27 dX1_kindOf_24 rfl rfl (Nat.le_of_ble_eq_true rfl) rfl ?_
          dsimp only [List.set]
          refine aw_iinc cx 30 dX1_kindOf_27 rfl rfl (Nat.le_of_ble_eq_true rfl) rfl ?_
          dsimp only [List.set]
          refine aw_goto cx 4 dX1_kindOf_30 (by decide) ?_
          exact ih4 _ (i + 1) (by omega) ⟨by omega, by omega⟩ (by rw [kN_s hi.1]; split <;> omega)
  exact lp4 6 0 0 (by omega) ⟨by omega, by omega⟩ rfl
set_option maxRecDepth 100000 in
set_option maxHeartbeats 4000000 in
theorem s_X1_findBlocks {h : AH} {Q : Option AV → AH → Prop} {w q : Nat} {C B L Be : Int → Int} {n r f z : Int} {g : Gr} {S : Int} (hn : 1 ≤ n ∧ n ≤ 8) (hA : ag n C g) (hg : rgn n g) (hq : q + 4 < w ∨ w + 3 < q) (hO : zz_get h q = cCol q n r f) (hC : zz_get h (q + 1) = cA 64 C) (k : ∀ B', (∀ x, 0 ≤ x → x < n → B' x = (bst g S n).1 x) → Q none (hdiv h w B' L Be (zQ n g S))) : MC mX1_findBlocks [vR w, vR q, vI S] (hdiv h w B L Be z) Q := by
  refine mc_start mX1_findBlocks RX1 "findBlocks" ⟨rfl, rfl, by decide +kernel⟩ [some (vR w), some (vR q), some (vI S), none, none] ⟨2, rfl⟩ rfl (fun X cx hRm hNS hRet => ?_)
  refine aw_aload_n cx 1 dX1_findBlocks_0 rfl rfl ?_
  refine aw_iconst cx 2 dX1_findBlocks_1 rfl ?_
  refine aw_putfield cx 5 dX1_findBlocks_2 rfl fdX1_21 (by first | assumption | exact hd_0 | exact hd_1 | exact hd_2 | exact hd_3 | exact (hd_x (by omega)).trans (by first | assumption)) (by exact Nat.le_of_ble_eq_true rfl) rfl ?_
  dsimp only [List.set]
  first | rw [hq_1] | rw [hq_2] | rw [hq_3] | rw [hq_0]
  refine aw_iconst cx 6 dX1_findBlocks_5 rfl ?_
  refine aw_istore_n cx 7 3 dX1_findBlocks_6 rfl rfl ⟨Nat.le_of_ble_eq_true rfl, Nat.le_of_ble_eq_true rfl⟩ rfl ?_
  dsimp only [List.set]
  have lp7 : ∀ (kf : Nat) (b z1 : Int) (Bb : Int → Int), (n - b < (kf : Int)) → (0 ≤ b ∧ b ≤ n) → z1 = (bst g S b).2 → (∀ x, 0 ≤ x → x < b → Bb x = (bst g S b).1 x) → AW X 7 [some (vR w), some (vR q), some (vI S), some (vI b), none] [] (hdiv h w Bb L Be z1) := by
    intro kf
    induction kf with
    | zero =>
      intro b z1 Bb hk hb hz hB
      exfalso
      omega
    | succ kf ih7 =>
      intro b z1 Bb hk hb hz hB
      have hBI := BI_all (g := g) (S := S) b hb.1
      refine aw_iload_n cx 8 dX1_findBlocks_7 rfl rfl ?_
      refine aw_aload_n cx 9 dX1_findBlocks_8 rfl rfl ?_
      refine aw_getfield cx 12 dX1_findBlocks_9 rfl fdX1_33 (by first | assumption | exact hd_0 | exact hd_1 | exact hd_2 | exact hd_3 | exact (hd_x (by omega)).trans (by first | assumption)) (by rfl) ?_
      refine aw_icmp_ge cx 15 96 dX1_findBlocks_12 rfl (by decide) ⟨⟨by omega, by omega⟩, ⟨by omega, by omega⟩⟩ (fun c12 => ?_) (fun c12 => ?_)
      · refine aw_return cx dX1_findBlocks_96 ?_
        refine hRet _ _ rfl rfl ?_
        have e96 : b = n := by omega
        rw [e96] at hz hB
        rw [hz]
        exact k _ hB
      · refine aw_aload_n cx 16 dX1_findBlocks_15 rfl rfl ?_
        refine aw_getfield cx 19 dX1_findBlocks_16 rfl fdX1_9 (by first | assumption | exact hd_0 | exact hd_1 | exact hd_2 | exact hd_3 | exact (hd_x (by omega)).trans (by first | assumption)) (by rfl) ?_
        refine aw_iload_n cx 20 dX1_findBlocks_19 rfl rfl ?_
        refine aw_aload_n cx 21 dX1_findBlocks_20 rfl rfl ?_
        refine aw_getfield cx 24 dX1_findBlocks_21 rfl fdX1_21 (by first | assumption | exact hd_0 | exact hd_1 | exact hd_2 | exact hd_3 | exact (hd_x (by omega)).trans (by first | assumption)) (by rfl) ?_
        refine aw_iastore cx 25 dX1_findBlocks_24 rfl (by first | assumption | exact hd_0 | exact hd_1 | exact hd_2 | exact hd_3 | exact (hd_x (by omega)).trans (by first | assumption)) ⟨by omega, by omega⟩ (by decide) ?_
        first | rw [hq_1] | rw [hq_2] | rw [hq_3] | rw [hq_0]
        refine aw_iconst cx 26 dX1_findBlocks_25 rfl ?_
        refine aw_istore cx 28 dX1_findBlocks_26 rfl ⟨Nat.le_of_ble_eq_true rfl, Nat.le_of_ble_eq_true rfl⟩ rfl ?_
        dsimp only [List.set]
        have lp28 : ∀ (kf : Nat) (a : Int) (Bx : Int → Int), (b - a < (kf : Int)) → (0 ≤ a ∧ a ≤ b) → (∀ x, 0 ≤ x → x < b → Bx x = (bst g S b).1 x) → Bx b = bv g S (bst g S b).1 (bst g S b).2 b a → AW X 28 [some (vR w), some (vR q), some (vI S), some (vI b), some (vI a)] [] (hdiv h w Bx L Be z1) := by
          intro kf
          induction kf with
          | zero =>
            intro a Bx hk ha ho hv
            exfalso
            omega
          | succ kf ih28 =>
            intro a Bx hk ha ho hv
            refine aw_iload cx 30 dX1_findBlocks_28 rfl rfl ?_
            refine aw_iload_n cx 31 dX1_findBlocks_30 rfl rfl ?_
            refine aw_icmp_ge cx 34 67 dX1_findBlocks_31 rfl (by decide) ⟨⟨by omega, by omega⟩, ⟨by omega, by omega⟩⟩ (fun c31 => ?_) (fun c31 => ?_)
            · have hv2 : Bx b = bv g S (bst g S b).1 (bst g S b).2 b b := by rw [hv, show a = b by omega]
              have hv3 := BI_v (g := g) (S := S) hb.1 hBI ⟨hb.1, Int.le_refl _⟩
              rw [← hv2] at hv3
              have hz3 := hBI.1
              refine aw_aload_n cx 68 dX1_findBlocks_67 rfl rfl ?_
              refine aw_getfield cx 71 dX1_findBlocks_68 rfl fdX1_9 (by first | assumption | exact hd_0 | exact hd_1 | exact hd_2 | exact hd_3 | exact (hd_x (by omega)).trans (by first | assumption)) (by rfl) ?_
              refine aw_iload_n cx 72 dX1_findBlocks_71 rfl rfl ?_
              refine aw_iaload cx 73 dX1_findBlocks_72 rfl (by first | assumption | exact hd_0 | exact hd_1 | exact hd_2 | exact hd_3 | exact (hd_x (by omega)).trans (by first | assumption)) ⟨by omega, by omega⟩ (by decide) ?_
              refine aw_aload_n cx 74 dX1_findBlocks_73 rfl rfl ?_
              refine aw_getfield cx 77 dX1_findBlocks_74 rfl fdX1_21 (by first | assumption | exact hd_0 | exact hd_1 | exact hd_2 | exact hd_3 | exact (hd_x (by omega)).trans (by first | assumption)) (by rfl) ?_
              refine aw_icmp_ne cx 80 90 dX1_findBlocks_77 rfl (by decide) ⟨⟨by omega, by omega⟩, ⟨by omega, by omega⟩⟩ (fun c77 => ?_) (fun c77 => ?_)
              · refine aw_iinc cx 93 dX1_findBlocks_90 rfl rfl (Nat.le_of_ble_eq_true rfl) rfl ?_
                dsimp only [List.set]
                refine aw_goto cx 7 dX1_findBlocks_93 (by decide) ?_
                exact aw_weak (ih7 (b + 1) _ _ (by omega) ⟨by omega, by omega⟩ (by
                  rw [bst_s hb.1]
                  show _ = if bv g S (bst g S b).1 (bst g S b).2 b b = (bst g S b).2 then (bst g S b).2 + 1 else (bst g S b).2
                  first | (rw [if_pos (by omega)]; omega) | (rw [if_neg (by omega)]; omega)) (fun x x0 x1 => by
                  rw [bst_s hb.1]
                  show _ = zz_up (bst g S b).1 b (bv g S (bst g S b).1 (bst g S b).2 b b) x
                  unfold zz_up
                  by_cases e : x = b
                  · rw [if_pos e, e]
                    exact hv2
                  · rw [if_neg e]
                    exact ho x x0 (by omega))) (by simp [zz_le])
              · refine aw_aload_n cx 81 dX1_findBlocks_80 rfl rfl ?_
                refine aw_dup cx 82 dX1_findBlocks_81 rfl rfl ?_
                refine aw_getfield cx 85 dX1_findBlocks_82 rfl fdX1_21 (by first | assumption | exact hd_0 | exact hd_1 | exact hd_2 | exact hd_3 | exact (hd_x (by omega)).trans (by first | assumption)) (by rfl) ?_
                refine aw_iconst cx 86 dX1_findBlocks_85 rfl ?_
                refine aw_iadd cx 87 dX1_findBlocks_86 rfl ?_
                refine aw_putfield cx 90 dX1_findBlocks_87 rfl fdX1_21 (by first | assumption | exact hd_0 | exact hd_1 | exact hd_2 | exact hd_3 | exact (hd_x (by omega)).trans (by first | assumption)) (by exact Nat.le_of_ble_eq_true rfl) rfl ?_
                dsimp only [List.set]
                first | rw [hq_1] | rw [hq_2] | rw [hq_3] | rw [hq_0]
                refine aw_iinc cx 93 dX1_findBlocks_90 rfl rfl (Nat.le_of_ble_eq_true rfl) rfl ?_
                dsimp only [List.set]
                refine aw_goto cx 7 dX1_findBlocks_93 (by decide) ?_
                exact aw_weak (ih7 (b + 1) _ _ (by omega) ⟨by omega, by omega⟩ (by
                  rw [bst_s hb.1]
                  show _ = if bv g S (bst g S b).1 (bst g S b).2 b b = (bst g S b).2 then (bst g S b).2 + 1 else (bst g S b).2
                  first | (rw [if_pos (by omega)]; omega) | (rw [if_neg (by omega)]; omega)) (fun x x0 x1 => by
                  rw [bst_s hb.1]
                  show _ = zz_up (bst g S b).1 b (bv g S (bst g S b).1 (bst g S b).2 b b) x
                  unfold zz_up
                  by_cases e : x = b
                  · rw [if_pos e, e]
                    exact hv2
                  · rw [if_neg e]
                    exact ho x x0 (by omega))) (by simp [zz_le])
            · refine aw_iload_n cx 35 dX1_findBlocks_34 rfl rfl ?_
              refine aw_aload_n cx 36 dX1_findBlocks_35 rfl rfl ?_
              refine aw_iload cx 38 dX1_findBlocks_36 rfl rfl ?_
              refine aw_iload_n cx 39 dX1_findBlocks_38 rfl rfl ?_
              refine aw_V2v cx 42 mX0_colourOf (ci := 0) dX1_findBlocks_39 rfl okmX0_colourOf lkX1_36 (by first | assumption | exact hd_0 | exact hd_1 | exact hd_2 | exact hd_3 | exact (hd_x (by omega)).trans (by first | assumption)) ⟨rfl, by decide⟩ (zz_rc0 mX1_findBlocks hRm hNS rfl rfl) (Nat.le_of_ble_eq_true rfl) ?_
              refine s_X0_colourOf (by first | assumption | exact hd_0 | exact hd_1 | exact hd_2 | exact hd_3 | exact (hd_x (by omega)).trans (by first | assumption)) (by first | assumption | exact hd_0 | exact hd_1 | exact hd_2 | exact hd_3 | exact (hd_x (by omega)).trans (by first | assumption)) ⟨by omega, by omega⟩ ⟨by omega, by omega⟩ (fun v39 e39 => ⟨_, rfl, ?_⟩)
              refine aw_S2v cx 45 mX0_has dX1_findBlocks_42 rfl okmX0_has lkX1_51 (zz_rc0 mX1_findBlocks hRm hNS rfl rfl) (Nat.le_of_ble_eq_true rfl) ?_
              refine s_X0_has (fun v42 e42 => ⟨_, rfl, ?_⟩)
              refine aw_if_eq cx 48 61 dX1_findBlocks_45 rfl (by decide) ⟨by omega, by omega⟩ (fun c45 => ?_) (fun c45 => ?_)
              · refine aw_iinc cx 64 dX1_findBlocks_61 rfl rfl (Nat.le_of_ble_eq_true rfl) rfl ?_
                dsimp only [List.set]
                refine aw_goto cx 28 dX1_findBlocks_64 (by decide) ?_
                first
                | exact ih28 (a + 1) _ (by omega) ⟨by omega, by omega⟩ (fun x x0 x1 => by
                    rw [zz_up_n _ _ (by omega)]
                    exact ho x x0 x1) (by
                    rw [zz_up_s, bv_s ha.1, if_pos (by rw [← hA a b (by omega) (by omega) (by omega) (by omega), ← e39]; exact (e42.resolve_right (fun q9 => c45 q9.1)).2)]
                    exact ho a (by omega) (by omega))
                | exact ih28 (a + 1) _ (by omega) ⟨by omega, by omega⟩ ho (by
                    rw [bv_s ha.1, if_neg (fun q9 => by
                      rw [← hA a b (by omega) (by omega) (by omega) (by omega), ← e39] at q9
                      rcases e42 with q8 | q8
                      · omega
                      · exact q8.2 q9)]
                    exact hv)
              · refine aw_aload_n cx 49 dX1_findBlocks_48 rfl rfl ?_
                refine aw_getfield cx 52 dX1_findBlocks_49 rfl fdX1_9 (by first | assumption | exact hd_0 | exact hd_1 | exact hd_2 | exact hd_3 | exact (hd_x (by omega)).trans (by first | assumption)) (by rfl) ?_
                refine aw_iload_n cx 53 dX1_findBlocks_52 rfl rfl ?_
                refine aw_aload_n cx 54 dX1_findBlocks_53 rfl rfl ?_
                refine aw_getfield cx 57 dX1_findBlocks_54 rfl fdX1_9 (by first | assumption | exact hd_0 | exact hd_1 | exact hd_2 | exact hd_3 | exact (hd_x (by omega)).trans (by first | assumption)) (by rfl) ?_
                refine aw_iload cx 59 dX1_findBlocks_57 rfl rfl ?_
                refine aw_iaload cx 60 dX1_findBlocks_59 rfl (by first | assumption | exact hd_0 | exact hd_1 | exact hd_2 | exact hd_3 | exact (hd_x (by omega)).trans (by first | assumption)) ⟨by omega, by omega⟩ (by decide) ?_
                refine aw_iastore cx 61 dX1_findBlocks_60 rfl (by first | assumption | exact hd_0 | exact hd_1 | exact hd_2 | exact hd_3 | exact (hd_x (by omega)).trans (by first | assumption)) ⟨by omega, by omega⟩ (by decide) ?_
                first | rw [hq_1] | rw [hq_2] | rw [hq_3] | rw [hq_0]
                refine aw_iinc cx 64 dX1_findBlocks_61 rfl rfl (Nat.le_of_ble_eq_true rfl) rfl ?_
                dsimp only [List.set]
                refine aw_goto cx 28 dX1_findBlocks_64 (by decide) ?_
                first
                | exact ih28 (a + 1) _ (by omega) ⟨by omega, by omega⟩ (fun x x0 x1 => by
                    rw [zz_up_n _ _ (by omega)]
                    exact ho x x0 x1) (by
                    rw [zz_up_s, bv_s ha.1, if_pos (by rw [← hA a b (by omega) (by omega) (by omega) (by omega), ← e39]; exact (e42.resolve_right (fun q9 => c45 q9.1)).2)]
                    exact ho a (by omega) (by omega))
                | exact ih28 (a + 1) _ (by omega) ⟨by omega, by omega⟩ ho (by
                    rw [bv_s ha.1, if_neg (fun q9 => by
                      rw [← hA a b (by omega) (by omega) (by omega) (by omega), ← e39] at q9
                      rcases e42 with q8 | q8
                      · omega
                      · exact q8.2 q9)]
                    exact hv)
        exact aw_weak (lp28 (b.toNat + 1) 0 _ (by omega) ⟨by omega, by omega⟩ (fun x x0 x1 => by
          rw [zz_up_n _ _ (by omega)]
          exact hB x x0 x1) (by rw [zz_up_s, hz]; rfl)) (by simp [zz_le])
  exact aw_weak (lp7 (n.toNat + 1) 0 0 _ (by omega) ⟨by omega, by omega⟩ rfl (fun x x0 x1 => by omega)) (by simp [zz_le])
