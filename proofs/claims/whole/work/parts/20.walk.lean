/-! Walk: the object w and its rows w + 1 .. w + 3 -/
abbrev cWk (w : Nat) (a : Int) : AC := cO 2 [vR (w + 1), vR (w + 2), vR (w + 3), vJ a]
def hwk (h : AH) (w : Nat) (S Y N : Int → Int) (a : Int) : AH := zz_put (zz_put (zz_put (zz_put h w (cWk w a)) (w + 1) (cL 5 S)) (w + 2) (cL 8 Y)) (w + 3) (cL 8 N)
section
variable {h : AH} {w : Nat} {S Y N S' Y' N' : Int → Int} {a a' : Int}
theorem hw_0 : zz_get (hwk h w S Y N a) w = cWk w a := by
  unfold hwk
  rw [zz_gn (by omega), zz_gn (by omega), zz_gn (by omega), zz_gs]
theorem hw_1 : zz_get (hwk h w S Y N a) (w + 1) = cL 5 S := by
  unfold hwk
  rw [zz_gn (by omega), zz_gn (by omega), zz_gs]
theorem hw_2 : zz_get (hwk h w S Y N a) (w + 2) = cL 8 Y := by
  unfold hwk
  rw [zz_gn (by omega), zz_gs]
theorem hw_3 : zz_get (hwk h w S Y N a) (w + 3) = cL 8 N := by
  unfold hwk
  rw [zz_gs]
theorem hw_x {k : Nat} (hk : k < w ∨ w + 3 < k) : zz_get (hwk h w S Y N a) k = zz_get h k := by
  unfold hwk
  rw [zz_gn (by omega), zz_gn (by omega), zz_gn (by omega), zz_gn (by omega)]
theorem hv_3 : zz_put (hwk h w S Y N a) (w + 3) (cL 8 N') = hwk h w S Y N' a := by
  unfold hwk
  rw [zz_put_put]
theorem hv_2 : zz_put (hwk h w S Y N a) (w + 2) (cL 8 Y') = hwk h w S Y' N a := by
  unfold hwk
  rw [zz_put_comm _ (w + 3) (w + 2) _ _ (by omega), zz_put_put]
theorem hv_1 : zz_put (hwk h w S Y N a) (w + 1) (cL 5 S') = hwk h w S' Y N a := by
  unfold hwk
  rw [zz_put_comm _ (w + 3) (w + 1) _ _ (by omega), zz_put_comm _ (w + 2) (w + 1) _ _ (by omega), zz_put_put]
theorem hv_0 : zz_put (hwk h w S Y N a) w (cO 2 [vR (w + 1), vR (w + 2), vR (w + 3), vJ a']) = hwk h w S Y N a' := by
  unfold hwk
  rw [zz_put_comm _ (w + 3) w _ _ (by omega), zz_put_comm _ (w + 2) w _ _ (by omega), zz_put_comm _ (w + 1) w _ _ (by omega), zz_put_put]
theorem hw_in (h0 : zz_get h w = cWk w a) (h1 : zz_get h (w + 1) = cL 5 S) (h2 : zz_get h (w + 2) = cL 8 Y) (h3 : zz_get h (w + 3) = cL 8 N) : h = hwk h w S Y N a := by
  unfold hwk
  rw [zz_put_get h w _ h0, zz_put_get h (w + 1) _ h1, zz_put_get h (w + 2) _ h2, zz_put_get h (w + 3) _ h3]
end
set_option maxRecDepth 100000 in
set_option maxHeartbeats 4000000 in
theorem s_X0_degreeOf2 {h : AH} {Q : Option AV → AH → Prop} {o : Nat} {C : Int → Int} {n r f : Int} {g : Gr} (hO : zz_get h o = cCol o n r f) (hC : zz_get h (o + 1) = cA 64 C) (hn : 1 ≤ n ∧ n ≤ 8) (hA : ag n C g) (hg : rgn n g) {i : Int} (hi : 0 ≤ i ∧ i < 5) (k : ∀ v, v = dg n g i → Q (some (vI v)) h) : MC mX0_degreeOf [vR o, vI i] h Q := by
  refine mc_start mX0_degreeOf RX0 "degreeOf" ⟨rfl, rfl, by decide +kernel⟩ [some (vR o), some (vI i), none, none] ⟨2, rfl⟩ rfl (fun X cx hRm hNS hRet => ?_)
  refine aw_iconst cx 1 dX0_degreeOf_0 rfl ?_
  refine aw_istore_n cx 2 2 dX0_degreeOf_1 rfl rfl ⟨Nat.le_of_ble_eq_true rfl, Nat.le_of_ble_eq_true rfl⟩ rfl ?_
  dsimp only [List.set]
  refine aw_iconst cx 3 dX0_degreeOf_2 rfl ?_
  refine aw_istore_n cx 4 3 dX0_degreeOf_3 rfl rfl ⟨Nat.le_of_ble_eq_true rfl, Nat.le_of_ble_eq_true rfl⟩ rfl ?_
  dsimp only [List.set]
  have lp4 : ∀ (kf : Nat) (b s : Int), (n - b < (kf : Int)) → (0 ≤ b ∧ b ≤ n) → s = dg b g i → AW X 4 [some (vR o), some (vI i), some (vI s), some (vI b)] [] (h) := by
    intro kf
    induction kf with
    | zero =>
      intro b s hk hb hs
      exfalso
      omega
    | succ kf ih4 =>
      intro b s hk hb hs
      refine aw_iload_n cx 5 dX0_degreeOf_4 rfl rfl ?_
      refine aw_aload_n cx 6 dX0_degreeOf_5 rfl rfl ?_
      refine aw_getfield cx 9 dX0_degreeOf_6 rfl fdX0_24 (by first | assumption | exact hc_0 | exact hc_1 | exact hc_2 | exact hc_3 | exact hc_4 | exact zz_gs _ _ _) (by rfl) ?_
      refine aw_icmp_ge cx 12 31 dX0_degreeOf_9 rfl (by decide) ⟨⟨by omega, by omega⟩, ⟨by omega, by omega⟩⟩ (fun c9 => ?_) (fun c9 => ?_)
      · refine aw_iload_n cx 32 dX0_degreeOf_31 rfl rfl ?_
        refine aw_ireturn cx dX0_degreeOf_32 ?_
        refine hRet _ _ True.intro rfl ?_
        exact k _ (by rw [hs, show b = n by omega])
      · refine aw_aload_n cx 13 dX0_degreeOf_12 rfl rfl ?_
        refine aw_iconst cx 14 dX0_degreeOf_13 rfl ?_
        refine aw_iload_n cx 15 dX0_degreeOf_14 rfl rfl ?_
        refine aw_V2v cx 18 mX0_colourOf (ci := 0) dX0_degreeOf_15 rfl okmX0_colourOf lkX0_41 (by first | assumption | exact hc_0 | exact hc_1 | exact hc_2 | exact hc_3 | exact hc_4 | exact zz_gs _ _ _) ⟨rfl, by decide⟩ (zz_rc0 mX0_degreeOf hRm hNS rfl rfl) (Nat.le_of_ble_eq_true rfl) ?_
        refine s_X0_colourOf (by first | assumption | exact hw_0 | exact hw_1 | exact hw_2 | exact hw_3 | exact (hw_x (by omega)).trans (by first | assumption)) (by first | assumption | exact hw_0 | exact hw_1 | exact hw_2 | exact hw_3 | exact (hw_x (by omega)).trans (by first | assumption)) ⟨by omega, by omega⟩ ⟨by omega, by omega⟩ (fun v15 e15 => ⟨_, rfl, ?_⟩)
        have q15 := hA 0 b (by omega) (by omega) (by omega) (by omega)
        have w15 := hg 0 b (by omega) (by omega) (by omega) (by omega)
        have u15 := dg_b hb.1 g i
        refine aw_iload_n cx 19 dX0_degreeOf_18 rfl rfl ?_
        refine aw_icmp_ne cx 22 25 dX0_degreeOf_19 rfl (by decide) ⟨⟨by omega, by omega⟩, ⟨by omega, by omega⟩⟩ (fun c19 => ?_) (fun c19 => ?_)
        · refine aw_iinc cx 28 dX0_degreeOf_25 rfl rfl (Nat.le_of_ble_eq_true rfl) rfl ?_
          dsimp only [List.set]
          refine aw_goto cx 4 dX0_degreeOf_28 (by decide) ?_
          exact ih4 (b + 1) _ (by omega) ⟨by omega, by omega⟩ (by rw [dg_s hb.1]; split <;> omega)
        · refine aw_iinc cx 25 dX0_degreeOf_22 rfl rfl (Nat.le_of_ble_eq_true rfl) rfl ?_
          dsimp only [List.set]
          refine aw_iinc cx 28 dX0_degreeOf_25 rfl rfl (Nat.le_of_ble_eq_true rfl) rfl ?_
          dsimp only [List.set]
          refine aw_goto cx 4 dX0_degreeOf_28 (by decide) ?_
          exact ih4 (b + 1) _ (by omega) ⟨by omega, by omega⟩ (by rw [dg_s hb.1]; split <;> omega)
  exact lp4 (n.toNat + 1) 0 0 (by omega) ⟨by omega, by omega⟩ rfl
set_option maxRecDepth 100000 in
set_option maxHeartbeats 4000000 in
theorem s_X3_commonDivisor {h : AH} {Q : Option AV → AH → Prop} {x0 y0 : Int} (hx0 : (0 ≤ x0 ∧ x0 < 9223372036854775808)) (hy0 : (0 ≤ y0 ∧ y0 < 9223372036854775808)) (k : ∀ v, v = gd x0 y0 → Q (some (vJ v)) h) : MC mX3_commonDivisor [vJ x0, vJ y0] h Q := by
  refine mc_start mX3_commonDivisor RX3 "commonDivisor" ⟨rfl, rfl, by decide +kernel⟩ [some (vJ x0), none, some (vJ y0), none, none, none, none, none, none, none, none] ⟨7, rfl⟩ rfl (fun X cx hRm hNS hRet => ?_)
  refine aw_lload_n cx 1 dX3_commonDivisor_0 rfl rfl ?_
  refine aw_lstore cx 3 dX3_commonDivisor_1 rfl ⟨Nat.le_of_ble_eq_true rfl, Nat.le_of_ble_eq_true rfl⟩ rfl ?_
  dsimp only [List.set]
  refine aw_lload_n cx 4 dX3_commonDivisor_3 rfl rfl ?_
  refine aw_lstore cx 6 dX3_commonDivisor_4 rfl ⟨Nat.le_of_ble_eq_true rfl, Nat.le_of_ble_eq_true rfl⟩ rfl ?_
  dsimp only [List.set]
  refine aw_iconst cx 7 dX3_commonDivisor_6 rfl ?_
  refine aw_istore cx 9 dX3_commonDivisor_7 rfl ⟨Nat.le_of_ble_eq_true rfl, Nat.le_of_ble_eq_true rfl⟩ rfl ?_
  dsimp only [List.set]
  have lp9 : ∀ (kf : Nat) (i x y : Int), (200 - i < (kf : Int)) → (0 ≤ i ∧ i ≤ 200) → (0 ≤ x ∧ x < 9223372036854775808) → (0 ≤ y ∧ y < 9223372036854775808) → gd x y = gd x0 y0 → (i % 2 = 0 → y < hb i) → (i % 2 = 1 → y < x ∧ x < hb i) → AW X 9 [some (vJ x0), none, some (vJ y0), none, some (vJ x), none, some (vJ y), none, some (vI i), none, none] [] (h) := by
    intro kf
    induction kf with
    | zero =>
      intro i x y hk hi hx hy hgd p0 p1
      exfalso
      omega
    | succ kf ih9 =>
      intro i x y hk hi hx hy hgd p0 p1
      refine aw_iload cx 11 dX3_commonDivisor_9 rfl rfl ?_
      refine aw_sipush cx 14 dX3_commonDivisor_11 rfl (by decide +kernel) ?_
      refine aw_icmp_ge cx 17 45 dX3_commonDivisor_14 rfl (by decide) ⟨⟨by omega, by omega⟩, ⟨by omega, by omega⟩⟩ (fun c14 => ?_) (fun c14 => ?_)
      · exfalso
        rw [show i = 200 by omega] at p0
        have q := p0 (by decide)
        rw [hb_200] at q
        omega
      · refine aw_lload cx 19 dX3_commonDivisor_17 rfl rfl ?_
        refine aw_lconst cx 20 0 dX3_commonDivisor_19 rfl (by decide +kernel) ?_
        refine aw_lcmp cx 21 dX3_commonDivisor_20 rfl (Or.inr ⟨⟨by omega, by omega⟩, ⟨by omega, by omega⟩⟩) ?_
        refine aw_if_eq cx 24 45 dX3_commonDivisor_21 rfl (by decide) (zz_cmp_r _ _) (fun c21 => ?_) (fun c21 => ?_)
        · rw [zz_cmp_eq] at c21
          refine aw_lload cx 47 dX3_commonDivisor_45 rfl rfl ?_
          refine aw_lreturn cx dX3_commonDivisor_47 ?_
          refine hRet _ _ True.intro rfl ?_
          exact k _ (by rw [← hgd, c21, gd_0 hx.1])
        · rw [zz_cmp_eq] at c21
          have em := em_b (x := x) (y := y) (by omega)
          refine aw_lload cx 26 dX3_commonDivisor_24 rfl rfl ?_
          refine aw_lload cx 28 dX3_commonDivisor_26 rfl rfl ?_
          refine aw_lremN cx 29 dX3_commonDivisor_28 rfl ⟨by omega, by omega, by omega, by omega⟩ ?_
          refine aw_lstore cx 31 dX3_commonDivisor_29 rfl ⟨Nat.le_of_ble_eq_true rfl, Nat.le_of_ble_eq_true rfl⟩ rfl ?_
          dsimp only [List.set]
          refine aw_lload cx 33 dX3_commonDivisor_31 rfl rfl ?_
          refine aw_lstore cx 35 dX3_commonDivisor_33 rfl ⟨Nat.le_of_ble_eq_true rfl, Nat.le_of_ble_eq_true rfl⟩ rfl ?_
          dsimp only [List.set]
          refine aw_lload cx 37 dX3_commonDivisor_35 rfl rfl ?_
          refine aw_lstore cx 39 dX3_commonDivisor_37 rfl ⟨Nat.le_of_ble_eq_true rfl, Nat.le_of_ble_eq_true rfl⟩ rfl ?_
          dsimp only [List.set]
          refine aw_iinc cx 42 dX3_commonDivisor_39 rfl rfl (Nat.le_of_ble_eq_true rfl) rfl ?_
          dsimp only [List.set]
          refine aw_goto cx 9 dX3_commonDivisor_42 (by decide) ?_
          exact aw_weak (ih9 (i + 1) y (x % y) (by omega) ⟨by omega, by omega⟩ ⟨by omega, by omega⟩ ⟨by omega, by omega⟩ ((gd_s hx.1 (by omega)).trans hgd) (fun q => by
            have q1 := p1 (by omega)
            have q2 := em_h (x := x) (y := y) (by omega) q1.1
            rw [hb_s hi.1, if_pos (by omega)]
            omega) (fun q => by
            have q1 := p0 (by omega)
            rw [hb_s hi.1, if_neg (by omega)]
            omega)) (by simp [zz_le])
  exact lp9 201 0 x0 y0 (by omega) ⟨by omega, by omega⟩ hx0 hy0 rfl (fun _ => hy0.2) (fun q => by omega)
set_option maxRecDepth 100000 in
set_option maxHeartbeats 4000000 in
theorem s_X3_commonMultiple {h : AH} {Q : Option AV → AH → Prop} {x y : Int} (hx : 0 < x ∧ x < 1000) (hy : 0 ≤ y ∧ y < 1000) (k : ∀ v, v = x / gd x y * y → Q (some (vJ v)) h) : MC mX3_commonMultiple [vJ x, vJ y] h Q := by
  refine mc_start mX3_commonMultiple RX3 "commonMultiple" ⟨rfl, rfl, by decide +kernel⟩ [some (vJ x), none, some (vJ y), none, none, none] ⟨2, rfl⟩ rfl (fun X cx hRm hNS hRet => ?_)
  have hgb := gd_b1 (x := x) (y := y) hx.1 hy.1
  refine aw_lload_n cx 1 dX3_commonMultiple_0 rfl rfl ?_
  refine aw_lload_n cx 2 dX3_commonMultiple_1 rfl rfl ?_
  refine aw_S2v cx 5 mX3_commonDivisor dX3_commonMultiple_2 rfl okmX3_commonDivisor lkX3_54 (zz_rc0 mX3_commonMultiple hRm hNS rfl rfl) (Nat.le_of_ble_eq_true rfl) ?_
  refine s_X3_commonDivisor ⟨by omega, by omega⟩ ⟨by omega, by omega⟩ (fun v2 e2 => ⟨_, rfl, ?_⟩)
  refine aw_lstore cx 7 dX3_commonMultiple_5 rfl ⟨Nat.le_of_ble_eq_true rfl, Nat.le_of_ble_eq_true rfl⟩ rfl ?_
  dsimp only [List.set]
  refine aw_lload cx 9 dX3_commonMultiple_7 rfl rfl ?_
  refine aw_lconst cx 10 0 dX3_commonMultiple_9 rfl (by decide +kernel) ?_
  refine aw_lcmp cx 11 dX3_commonMultiple_10 rfl (Or.inr ⟨⟨by omega, by omega⟩, ⟨by omega, by omega⟩⟩) ?_
  refine aw_if_ne cx 14 18 dX3_commonMultiple_11 rfl (by decide) (zz_cmp_r _ _) (fun c11 => ?_) (fun c11 => ?_)
  · rw [zz_cmp_eq] at c11
    refine aw_lload_n cx 19 dX3_commonMultiple_18 rfl rfl ?_
    refine aw_lload cx 21 dX3_commonMultiple_19 rfl rfl ?_
    refine aw_ldivN cx 22 dX3_commonMultiple_21 rfl ⟨by omega, by omega, by omega, by omega⟩ ?_
    refine aw_lload_n cx 23 dX3_commonMultiple_22 rfl rfl ?_
    refine aw_lmul cx 24 dX3_commonMultiple_23 rfl ?_
    refine aw_lreturn cx dX3_commonMultiple_24 ?_
    refine hRet _ _ True.intro rfl ?_
    exact k _ (by rw [e2])
  · rw [zz_cmp_eq] at c11
    exfalso
    omega
set_option maxRecDepth 100000 in
set_option maxHeartbeats 4000000 in
theorem s_X3_share {h : AH} {Q : Option AV → AH → Prop} {w q u : Nat} {C S Y N V : Int → Int} {n r f a : Int} {g : Gr} (hn : 1 ≤ n ∧ n ≤ 8) (hA : ag n C g) (hg : rgn n g) (hE : evn n g) (hr : r = rk n g) (hq : q + 4 < w ∨ w + 3 < q) (hO : zz_get h q = cCol q n r f) (hC : zz_get h (q + 1) = cA 64 C) (hu : u < w ∨ w + 3 < u) (hV : zz_get h u = cA 5 V) (hVI : wtI V) (k : ∀ S', (∀ c, 0 ≤ c → c < rk n g → S' c = sh n g V c) → Q (some (vJ (wt V (rk n g) * LL n g))) (hwk h w S' Y N a)) : MC mX3_share [vR w, vR q, vR u] (hwk h w S Y N a) Q := by
  refine mc_start mX3_share RX3 "share" ⟨rfl, rfl, by decide +kernel⟩ [some (vR w), some (vR q), some (vR u), none, none, none, none, none, none] ⟨6, rfl⟩ rfl (fun X cx hRm hNS hRet => ?_)
  have hR := rk_b (n := n) (g := g) (by omega) hg
  have hLL : 1 ≤ LL n g ∧ LL n g ≤ 12 := lm_b hE (rk n g) (by omega) (Int.le_refl _)
  refine aw_lconst cx 1 1 dX3_share_0 rfl (by decide +kernel) ?_
  refine aw_lstore_n cx 2 3 dX3_share_1 rfl rfl ⟨Nat.le_of_ble_eq_true rfl, Nat.le_of_ble_eq_true rfl⟩ rfl ?_
  dsimp only [List.set]
  refine aw_iconst cx 3 dX3_share_2 rfl ?_
  refine aw_istore cx 5 dX3_share_3 rfl ⟨Nat.le_of_ble_eq_true rfl, Nat.le_of_ble_eq_true rfl⟩ rfl ?_
  dsimp only [List.set]
  have lp5 : ∀ (kf : Nat) (c m : Int), (r - c < (kf : Int)) → (0 ≤ c ∧ c ≤ r) → m = lm n g c → AW X 5 [some (vR w), some (vR q), some (vR u), some (vJ m), none, some (vI c), none, none, none] [] ((hwk h w S Y N a)) := by
    intro kf
    induction kf with
    | zero =>
      intro c m hk hc hm
      exfalso
      omega
    | succ kf ih5 =>
      intro c m hk hc hm
      have hm1 := lm_b hE c (by omega) (by omega)
      refine aw_iload cx 7 dX3_share_5 rfl rfl ?_
      refine aw_aload_n cx 8 dX3_share_7 rfl rfl ?_
      refine aw_getfield cx 11 dX3_share_8 rfl fdX3_33 (by first | assumption | exact hw_0 | exact hw_1 | exact hw_2 | exact hw_3 | exact (hw_x (by omega)).trans (by first | assumption)) (by rfl) ?_
      refine aw_icmp_ge cx 14 32 dX3_share_11 rfl (by decide) ⟨⟨by omega, by omega⟩, ⟨by omega, by omega⟩⟩ (fun c11 => ?_) (fun c11 => ?_)
      · have mr : m = LL n g := by rw [hm, show c = rk n g by omega]
        refine aw_lconst cx 33 0 dX3_share_32 rfl (by decide +kernel) ?_
        refine aw_lstore cx 35 dX3_share_33 rfl ⟨Nat.le_of_ble_eq_true rfl, Nat.le_of_ble_eq_true rfl⟩ rfl ?_
        dsimp only [List.set]
        refine aw_iconst cx 36 dX3_share_35 rfl ?_
        refine aw_istore cx 38 dX3_share_36 rfl ⟨Nat.le_of_ble_eq_true rfl, Nat.le_of_ble_eq_true rfl⟩ rfl ?_
        dsimp only [List.set]
        have lp38 : ∀ (kf : Nat) (c2 s : Int) (Sc : Int → Int), (r - c2 < (kf : Int)) → (0 ≤ c2 ∧ c2 ≤ r) → s = wt V c2 → (∀ y, 0 ≤ y → y < c2 → Sc y = sh n g V y) → AW X 38 [some (vR w), some (vR q), some (vR u), some (vJ m), none, some (vJ s), none, some (vI c2), none] [] (hwk h w Sc Y N a) := by
          intro kf
          induction kf with
          | zero =>
            intro c2 s Sc hk hc2 hs hS
            exfalso
            omega
          | succ kf ih38 =>
            intro c2 s Sc hk hc2 hs hS
            refine aw_iload cx 40 dX3_share_38 rfl rfl ?_
            refine aw_aload_n cx 41 dX3_share_40 rfl rfl ?_
            refine aw_getfield cx 44 dX3_share_41 rfl fdX3_33 (by first | assumption | exact hw_0 | exact hw_1 | exact hw_2 | exact hw_3 | exact (hw_x (by omega)).trans (by first | assumption)) (by rfl) ?_
            refine aw_icmp_ge cx 47 98 dX3_share_44 rfl (by decide) ⟨⟨by omega, by omega⟩, ⟨by omega, by omega⟩⟩ (fun c44 => ?_) (fun c44 => ?_)
            · refine aw_lload cx 100 dX3_share_98 rfl rfl ?_
              refine aw_lload_n cx 101 dX3_share_100 rfl rfl ?_
              refine aw_lmul cx 102 dX3_share_101 rfl ?_
              refine aw_lreturn cx dX3_share_102 ?_
              refine hRet _ _ True.intro rfl ?_
              rw [hs, mr, show c2 = rk n g by omega]
              exact k _ (by rw [show c2 = rk n g by omega] at hS; exact hS)
            · refine aw_aload_n cx 48 dX3_share_47 rfl rfl ?_
              refine aw_iload cx 50 dX3_share_48 rfl rfl ?_
              refine aw_V1v cx 53 mX0_degreeOf (ci := 0) dX3_share_50 rfl okmX0_degreeOf lkX3_39 (by first | assumption | exact hw_0 | exact hw_1 | exact hw_2 | exact hw_3 | exact (hw_x (by omega)).trans (by first | assumption)) ⟨rfl, by decide⟩ (zz_rc0 mX3_share hRm hNS rfl rfl) (Nat.le_of_ble_eq_true rfl) ?_
              refine s_X0_degreeOf2 (by first | assumption | exact hw_0 | exact hw_1 | exact hw_2 | exact hw_3 | exact (hw_x (by omega)).trans (by first | assumption)) (by first | assumption | exact hw_0 | exact hw_1 | exact hw_2 | exact hw_3 | exact (hw_x (by omega)).trans (by first | assumption)) hn hA hg ⟨by omega, by omega⟩ (fun v50 e50 => ⟨_, rfl, ?_⟩)
              have d50 := ev_dpos hE (c := c2) ⟨by omega, by omega⟩
              have d51 := dg_b (n := n) (by omega) g c2
              have d52 := hVI c2 (by omega) (by omega)
              refine aw_istore cx 55 dX3_share_53 rfl ⟨Nat.le_of_ble_eq_true rfl, Nat.le_of_ble_eq_true rfl⟩ rfl ?_
              dsimp only [List.set]
              refine aw_aload_n cx 56 dX3_share_55 rfl rfl ?_
              refine aw_getfield cx 59 dX3_share_56 rfl fdX3_9 (by first | assumption | exact hw_0 | exact hw_1 | exact hw_2 | exact hw_3 | exact (hw_x (by omega)).trans (by first | assumption)) (by rfl) ?_
              refine aw_iload cx 61 dX3_share_59 rfl rfl ?_
              refine aw_iload cx 63 dX3_share_61 rfl rfl ?_
              refine aw_if_ne cx 66 70 dX3_share_63 rfl (by decide) ⟨by omega, by omega⟩ (fun c63 => ?_) (fun c63 => ?_)
              · refine aw_aload_n cx 71 dX3_share_70 rfl rfl ?_
                refine aw_iload cx 73 dX3_share_71 rfl rfl ?_
                refine aw_iaload cx 74 dX3_share_73 rfl (by first | assumption | exact hw_0 | exact hw_1 | exact hw_2 | exact hw_3 | exact (hw_x (by omega)).trans (by first | assumption)) ⟨by omega, by omega⟩ (by decide) ?_
                refine aw_i2l cx 75 dX3_share_74 rfl ⟨by omega, by omega⟩ ?_
                refine aw_lload_n cx 76 dX3_share_75 rfl rfl ?_
                refine aw_iload cx 78 dX3_share_76 rfl rfl ?_
                refine aw_i2l cx 79 dX3_share_78 rfl ⟨by omega, by omega⟩ ?_
                refine aw_ldivN cx 80 dX3_share_79 rfl ⟨by omega, by omega, by omega, by omega⟩ ?_
                refine aw_lmul cx 81 dX3_share_80 rfl ?_
                refine aw_lastore cx 82 dX3_share_81 rfl (by first | assumption | exact hw_0 | exact hw_1 | exact hw_2 | exact hw_3 | exact (hw_x (by omega)).trans (by first | assumption)) ⟨by omega, by omega⟩ (by decide) ?_
                first | rw [hv_1] | rw [hv_2] | rw [hv_3] | rw [hv_0]
                refine aw_lload cx 84 dX3_share_82 rfl rfl ?_
                refine aw_aload_n cx 85 dX3_share_84 rfl rfl ?_
                refine aw_iload cx 87 dX3_share_85 rfl rfl ?_
                refine aw_iaload cx 88 dX3_share_87 rfl (by first | assumption | exact hw_0 | exact hw_1 | exact hw_2 | exact hw_3 | exact (hw_x (by omega)).trans (by first | assumption)) ⟨by omega, by omega⟩ (by decide) ?_
                refine aw_i2l cx 89 dX3_share_88 rfl ⟨by omega, by omega⟩ ?_
                refine aw_ladd cx 90 dX3_share_89 rfl ?_
                refine aw_lstore cx 92 dX3_share_90 rfl ⟨Nat.le_of_ble_eq_true rfl, Nat.le_of_ble_eq_true rfl⟩ rfl ?_
                dsimp only [List.set]
                refine aw_iinc cx 95 dX3_share_92 rfl rfl (Nat.le_of_ble_eq_true rfl) rfl ?_
                dsimp only [List.set]
                refine aw_goto cx 38 dX3_share_95 (by decide) ?_
                exact aw_weak (ih38 (c2 + 1) (s + V c2) _ (by omega) ⟨by omega, by omega⟩ (by rw [wt_s hc2.1, hs]) (fun y y0 y1 => by
                  unfold zz_up
                  by_cases e : y = c2
                  · rw [if_pos e, e]
                    unfold sh
                    rw [← mr, e50]
                  · rw [if_neg e]
                    exact hS y y0 (by omega))) (by simp [zz_le])
              · exfalso
                omega
        exact aw_weak (lp38 6 0 0 S (by omega) ⟨by omega, by omega⟩ rfl (fun y y0 y1 => by omega)) (by simp [zz_le])
      · refine aw_lload_n cx 15 dX3_share_14 rfl rfl ?_
        refine aw_aload_n cx 16 dX3_share_15 rfl rfl ?_
        refine aw_iload cx 18 dX3_share_16 rfl rfl ?_
        refine aw_V1v cx 21 mX0_degreeOf (ci := 0) dX3_share_18 rfl okmX0_degreeOf lkX3_39 (by first | assumption | exact hw_0 | exact hw_1 | exact hw_2 | exact hw_3 | exact (hw_x (by omega)).trans (by first | assumption)) ⟨rfl, by decide⟩ (zz_rc0 mX3_share hRm hNS rfl rfl) (Nat.le_of_ble_eq_true rfl) ?_
        refine s_X0_degreeOf2 (by first | assumption | exact hw_0 | exact hw_1 | exact hw_2 | exact hw_3 | exact (hw_x (by omega)).trans (by first | assumption)) (by first | assumption | exact hw_0 | exact hw_1 | exact hw_2 | exact hw_3 | exact (hw_x (by omega)).trans (by first | assumption)) hn hA hg ⟨by omega, by omega⟩ (fun v18 e18 => ⟨_, rfl, ?_⟩)
        have d18 := ev_dpos hE (c := c) ⟨by omega, by omega⟩
        have d19 := dg_b (n := n) (by omega) g c
        refine aw_i2l cx 22 dX3_share_21 rfl ⟨by omega, by omega⟩ ?_
        refine aw_S2v cx 25 mX3_commonMultiple dX3_share_22 rfl okmX3_commonMultiple lkX3_43 (zz_rc0 mX3_share hRm hNS rfl rfl) (Nat.le_of_ble_eq_true rfl) ?_
        refine s_X3_commonMultiple ⟨by omega, by omega⟩ ⟨by omega, by omega⟩ (fun v22 e22 => ⟨_, rfl, ?_⟩)
        refine aw_lstore_n cx 26 3 dX3_share_25 rfl rfl ⟨Nat.le_of_ble_eq_true rfl, Nat.le_of_ble_eq_true rfl⟩ rfl ?_
        dsimp only [List.set]
        refine aw_iinc cx 29 dX3_share_26 rfl rfl (Nat.le_of_ble_eq_true rfl) rfl ?_
        dsimp only [List.set]
        refine aw_goto cx 5 dX3_share_29 (by decide) ?_
        exact ih5 (c + 1) _ (by omega) ⟨by omega, by omega⟩ (by rw [e22, hm, e18, lm_s hc.1])
  exact lp5 6 0 1 (by omega) ⟨by omega, by omega⟩ rfl
set_option maxRecDepth 100000 in
set_option maxHeartbeats 4000000 in
theorem s_X3_step {h : AH} {Q : Option AV → AH → Prop} {w q : Nat} {C S Y N V : Int → Int} {n r f a : Int} {g : Gr} (hn : 1 ≤ n ∧ n ≤ 8) (hA : ag n C g) (hg : rgn n g) (hE : evn n g) (hr : r = rk n g) (hq : q + 4 < w ∨ w + 3 < q) (hO : zz_get h q = cCol q n r f) (hC : zz_get h (q + 1) = cA 64 C) (hS : ∀ c, 0 ≤ c → c < rk n g → S c = sh n g V c) (k : ∀ Y' N', (∀ x, 0 ≤ x → x < n → Y' x = wys n g V Y x n) → Q none (hwk h w S Y' N' a)) : MC mX3_step [vR w, vR q] (hwk h w S Y N a) Q := by
  refine mc_start mX3_step RX3 "step" ⟨rfl, rfl, by decide +kernel⟩ [some (vR w), some (vR q), none, none] ⟨2, rfl⟩ rfl (fun X cx hRm hNS hRet => ?_)
  have hR := rk_b (n := n) (g := g) (by omega) hg
  refine aw_iconst cx 1 dX3_step_0 rfl ?_
  refine aw_istore_n cx 2 2 dX3_step_1 rfl rfl ⟨Nat.le_of_ble_eq_true rfl, Nat.le_of_ble_eq_true rfl⟩ rfl ?_
  dsimp only [List.set]
  have lp2 : ∀ (kf : Nat) (b : Int) (Nb : Int → Int), (n - b < (kf : Int)) → (0 ≤ b ∧ b ≤ n) → (∀ x, 0 ≤ x → x < b → Nb x = wys n g V Y x n) → AW X 2 [some (vR w), some (vR q), some (vI b), none] [] (hwk h w S Y Nb a) := by
    intro kf
    induction kf with
    | zero =>
      intro b Nb hk hb hN
      exfalso
      omega
    | succ kf ih2 =>
      intro b Nb hk hb hN
      refine aw_iload_n cx 3 dX3_step_2 rfl rfl ?_
      refine aw_aload_n cx 4 dX3_step_3 rfl rfl ?_
      refine aw_getfield cx 7 dX3_step_4 rfl fdX3_47 (by first | assumption | exact hw_0 | exact hw_1 | exact hw_2 | exact hw_3 | exact (hw_x (by omega)).trans (by first | assumption)) (by rfl) ?_
      refine aw_icmp_ge cx 10 66 dX3_step_7 rfl (by decide) ⟨⟨by omega, by omega⟩, ⟨by omega, by omega⟩⟩ (fun c7 => ?_) (fun c7 => ?_)
      · refine aw_iconst cx 67 dX3_step_66 rfl ?_
        refine aw_istore_n cx 68 2 dX3_step_67 rfl rfl ⟨Nat.le_of_ble_eq_true rfl, Nat.le_of_ble_eq_true rfl⟩ rfl ?_
        dsimp only [List.set]
        have lp68 : ∀ (kf : Nat) (b2 : Int) (Yb : Int → Int), (n - b2 < (kf : Int)) → (0 ≤ b2 ∧ b2 ≤ n) → (∀ x, 0 ≤ x → x < b2 → Yb x = wys n g V Y x n) → AW X 68 [some (vR w), some (vR q), some (vI b2), none] [] (hwk h w S Yb Nb a) := by
          intro kf
          induction kf with
          | zero =>
            intro b2 Yb hk hb2 hY
            exfalso
            omega
          | succ kf ih68 =>
            intro b2 Yb hk hb2 hY
            refine aw_iload_n cx 69 dX3_step_68 rfl rfl ?_
            refine aw_aload_n cx 70 dX3_step_69 rfl rfl ?_
            refine aw_getfield cx 73 dX3_step_70 rfl fdX3_47 (by first | assumption | exact hw_0 | exact hw_1 | exact hw_2 | exact hw_3 | exact (hw_x (by omega)).trans (by first | assumption)) (by rfl) ?_
            refine aw_icmp_ge cx 76 94 dX3_step_73 rfl (by decide) ⟨⟨by omega, by omega⟩, ⟨by omega, by omega⟩⟩ (fun c73 => ?_) (fun c73 => ?_)
            · refine aw_return cx dX3_step_94 ?_
              refine hRet _ _ rfl rfl ?_
              exact k _ _ (by rw [show b2 = n by omega] at hY; exact hY)
            · refine aw_aload_n cx 77 dX3_step_76 rfl rfl ?_
              refine aw_getfield cx 80 dX3_step_77 rfl fdX3_15 (by first | assumption | exact hw_0 | exact hw_1 | exact hw_2 | exact hw_3 | exact (hw_x (by omega)).trans (by first | assumption)) (by rfl) ?_
              refine aw_iload_n cx 81 dX3_step_80 rfl rfl ?_
              refine aw_aload_n cx 82 dX3_step_81 rfl rfl ?_
              refine aw_getfield cx 85 dX3_step_82 rfl fdX3_18 (by first | assumption | exact hw_0 | exact hw_1 | exact hw_2 | exact hw_3 | exact (hw_x (by omega)).trans (by first | assumption)) (by rfl) ?_
              refine aw_iload_n cx 86 dX3_step_85 rfl rfl ?_
              refine aw_laload cx 87 dX3_step_86 rfl (by first | assumption | exact hw_0 | exact hw_1 | exact hw_2 | exact hw_3 | exact (hw_x (by omega)).trans (by first | assumption)) ⟨by omega, by omega⟩ (by decide) ?_
              refine aw_lastore cx 88 dX3_step_87 rfl (by first | assumption | exact hw_0 | exact hw_1 | exact hw_2 | exact hw_3 | exact (hw_x (by omega)).trans (by first | assumption)) ⟨by omega, by omega⟩ (by decide) ?_
              first | rw [hv_1] | rw [hv_2] | rw [hv_3] | rw [hv_0]
              refine aw_iinc cx 91 dX3_step_88 rfl rfl (Nat.le_of_ble_eq_true rfl) rfl ?_
              dsimp only [List.set]
              refine aw_goto cx 68 dX3_step_91 (by decide) ?_
              exact ih68 (b2 + 1) _ (by omega) ⟨by omega, by omega⟩ (fun x x0 x1 => by
                unfold zz_up
                by_cases e : x = b2
                · rw [if_pos e, e]
                  exact hN b2 (by omega) (by omega)
                · rw [if_neg e]
                  exact hY x x0 (by omega))
        exact aw_weak (lp68 (n.toNat + 1) 0 Y (by omega) ⟨by omega, by omega⟩ (fun x x0 x1 => by omega)) (by simp [zz_le])
      · refine aw_aload_n cx 11 dX3_step_10 rfl rfl ?_
        refine aw_getfield cx 14 dX3_step_11 rfl fdX3_18 (by first | assumption | exact hw_0 | exact hw_1 | exact hw_2 | exact hw_3 | exact (hw_x (by omega)).trans (by first | assumption)) (by rfl) ?_
        refine aw_iload_n cx 15 dX3_step_14 rfl rfl ?_
        refine aw_lconst cx 16 0 dX3_step_15 rfl (by decide +kernel) ?_
        refine aw_lastore cx 17 dX3_step_16 rfl (by first | assumption | exact hw_0 | exact hw_1 | exact hw_2 | exact hw_3 | exact (hw_x (by omega)).trans (by first | assumption)) ⟨by omega, by omega⟩ (by decide) ?_
        first | rw [hv_1] | rw [hv_2] | rw [hv_3] | rw [hv_0]
        refine aw_iconst cx 18 dX3_step_17 rfl ?_
        refine aw_istore_n cx 19 3 dX3_step_18 rfl rfl ⟨Nat.le_of_ble_eq_true rfl, Nat.le_of_ble_eq_true rfl⟩ rfl ?_
        dsimp only [List.set]
        have lp19 : ∀ (kf : Nat) (a1 : Int) (Nx : Int → Int), (n - a1 < (kf : Int)) → (0 ≤ a1 ∧ a1 ≤ n) → (∀ x, 0 ≤ x → x < b → Nx x = wys n g V Y x n) → Nx b = wys n g V Y b a1 → AW X 19 [some (vR w), some (vR q), some (vI b), some (vI a1)] [] (hwk h w S Y Nx a) := by
          intro kf
          induction kf with
          | zero =>
            intro a1 Nx hk ha1 hx1 hx2
            exfalso
            omega
          | succ kf ih19 =>
            intro a1 Nx hk ha1 hx1 hx2
            refine aw_iload_n cx 20 dX3_step_19 rfl rfl ?_
            refine aw_aload_n cx 21 dX3_step_20 rfl rfl ?_
            refine aw_getfield cx 24 dX3_step_21 rfl fdX3_47 (by first | assumption | exact hw_0 | exact hw_1 | exact hw_2 | exact hw_3 | exact (hw_x (by omega)).trans (by first | assumption)) (by rfl) ?_
            refine aw_icmp_ge cx 27 60 dX3_step_24 rfl (by decide) ⟨⟨by omega, by omega⟩, ⟨by omega, by omega⟩⟩ (fun c24 => ?_) (fun c24 => ?_)
            · refine aw_iinc cx 63 dX3_step_60 rfl rfl (Nat.le_of_ble_eq_true rfl) rfl ?_
              dsimp only [List.set]
              refine aw_goto cx 2 dX3_step_63 (by decide) ?_
              exact aw_weak (ih2 (b + 1) _ (by omega) ⟨by omega, by omega⟩ (fun x x0 x1 => by
                by_cases e : x = b
                · rw [e, hx2, show a1 = n by omega]
                · exact hx1 x x0 (by omega))) (by simp [zz_le])
            · refine aw_aload_n cx 28 dX3_step_27 rfl rfl ?_
              refine aw_getfield cx 31 dX3_step_28 rfl fdX3_18 (by first | assumption | exact hw_0 | exact hw_1 | exact hw_2 | exact hw_3 | exact (hw_x (by omega)).trans (by first | assumption)) (by rfl) ?_
              refine aw_iload_n cx 32 dX3_step_31 rfl rfl ?_
              refine aw_dup2 cx 33 dX3_step_32 rfl ⟨rfl, rfl⟩ ?_
              refine aw_laload cx 34 dX3_step_33 rfl (by first | assumption | exact hw_0 | exact hw_1 | exact hw_2 | exact hw_3 | exact (hw_x (by omega)).trans (by first | assumption)) ⟨by omega, by omega⟩ (by decide) ?_
              refine aw_aload_n cx 35 dX3_step_34 rfl rfl ?_
              refine aw_getfield cx 38 dX3_step_35 rfl fdX3_15 (by first | assumption | exact hw_0 | exact hw_1 | exact hw_2 | exact hw_3 | exact (hw_x (by omega)).trans (by first | assumption)) (by rfl) ?_
              refine aw_iload_n cx 39 dX3_step_38 rfl rfl ?_
              refine aw_laload cx 40 dX3_step_39 rfl (by first | assumption | exact hw_0 | exact hw_1 | exact hw_2 | exact hw_3 | exact (hw_x (by omega)).trans (by first | assumption)) ⟨by omega, by omega⟩ (by decide) ?_
              refine aw_aload_n cx 41 dX3_step_40 rfl rfl ?_
              refine aw_getfield cx 44 dX3_step_41 rfl fdX3_9 (by first | assumption | exact hw_0 | exact hw_1 | exact hw_2 | exact hw_3 | exact (hw_x (by omega)).trans (by first | assumption)) (by rfl) ?_
              refine aw_aload_n cx 45 dX3_step_44 rfl rfl ?_
              refine aw_iload_n cx 46 dX3_step_45 rfl rfl ?_
              refine aw_iload_n cx 47 dX3_step_46 rfl rfl ?_
              refine aw_V2v cx 50 mX0_colourOf (ci := 0) dX3_step_47 rfl okmX0_colourOf lkX3_50 (by first | assumption | exact hw_0 | exact hw_1 | exact hw_2 | exact hw_3 | exact (hw_x (by omega)).trans (by first | assumption)) ⟨rfl, by decide⟩ (zz_rc0 mX3_step hRm hNS rfl rfl) (Nat.le_of_ble_eq_true rfl) ?_
              refine s_X0_colourOf (by first | assumption | exact hw_0 | exact hw_1 | exact hw_2 | exact hw_3 | exact (hw_x (by omega)).trans (by first | assumption)) (by first | assumption | exact hw_0 | exact hw_1 | exact hw_2 | exact hw_3 | exact (hw_x (by omega)).trans (by first | assumption)) ⟨by omega, by omega⟩ ⟨by omega, by omega⟩ (fun v47 e47 => ⟨_, rfl, ?_⟩)
              have q47 := hA a1 b (by omega) (by omega) (by omega) (by omega)
              have w47 := hg a1 b (by omega) (by omega) (by omega) (by omega)
              have r47 := rk_gt (n := n) (g := g) (by omega) (a := a1) (b := b) ⟨by omega, by omega⟩ ⟨by omega, by omega⟩
              refine aw_laload cx 51 dX3_step_50 rfl (by first | assumption | exact hw_0 | exact hw_1 | exact hw_2 | exact hw_3 | exact (hw_x (by omega)).trans (by first | assumption)) ⟨by omega, by omega⟩ (by decide) ?_
              refine aw_lmul cx 52 dX3_step_51 rfl ?_
              refine aw_ladd cx 53 dX3_step_52 rfl ?_
              refine aw_lastore cx 54 dX3_step_53 rfl (by first | assumption | exact hw_0 | exact hw_1 | exact hw_2 | exact hw_3 | exact (hw_x (by omega)).trans (by first | assumption)) ⟨by omega, by omega⟩ (by decide) ?_
              first | rw [hv_1] | rw [hv_2] | rw [hv_3] | rw [hv_0]
              refine aw_iinc cx 57 dX3_step_54 rfl rfl (Nat.le_of_ble_eq_true rfl) rfl ?_
              dsimp only [List.set]
              refine aw_goto cx 19 dX3_step_57 (by decide) ?_
              exact ih19 (a1 + 1) _ (by omega) ⟨by omega, by omega⟩ (fun x x0 x1 => by
                rw [zz_up_n _ _ (by omega)]
                exact hx1 x x0 x1) (by rw [zz_up_s, wys_s ha1.1, hx2, e47, q47, hS _ w47.1 r47])
        exact aw_weak (lp19 (n.toNat + 1) 0 _ (by omega) ⟨by omega, by omega⟩ (fun x x0 x1 => by
          rw [zz_up_n _ _ (by omega)]
          exact hN x x0 x1) (by rw [zz_up_s]; rfl)) (by simp [zz_le])
  exact aw_weak (lp2 (n.toNat + 1) 0 N (by omega) ⟨by omega, by omega⟩ (fun x x0 x1 => by omega)) (by simp [zz_le])
set_option maxRecDepth 100000 in
set_option maxHeartbeats 4000000 in
theorem s_X3_go {h : AH} {Q : Option AV → AH → Prop} {w q u : Nat} {C S Y N V : Int → Int} {n r f a t : Int} {g : Gr} (hn : 1 ≤ n ∧ n ≤ 8) (hA : ag n C g) (hg : rgn n g) (hE : evn n g) (hr : r = rk n g) (hq : q + 4 < w ∨ w + 3 < q) (hO : zz_get h q = cCol q n r f) (hC : zz_get h (q + 1) = cA 64 C) (hu : u < w ∨ w + 3 < u) (hV : zz_get h u = cA 5 V) (hVI : wtI V) (ht : 0 ≤ t ∧ t ≤ 6) (k : ∀ S' Y' N', (∀ x, 0 ≤ x → x < n → Y' x = wy n g V t x) → Q none (hwk h w S' Y' N' (AL n g V t))) : MC mX3_go [vR w, vR q, vR u, vI t] (hwk h w S Y N a) Q := by
  refine mc_start mX3_go RX3 "go" ⟨rfl, rfl, by decide +kernel⟩ [some (vR w), some (vR q), some (vR u), some (vI t), none, none, none] ⟨3, rfl⟩ rfl (fun X cx hRm hNS hRet => ?_)
  refine aw_aload_n cx 1 dX3_go_0 rfl rfl ?_
  refine aw_aload_n cx 2 dX3_go_1 rfl rfl ?_
  refine aw_aload_n cx 3 dX3_go_2 rfl rfl ?_
  refine aw_V2v cx 6 mX3_share (ci := 2) dX3_go_3 rfl okmX3_share lkX3_25 (by first | assumption | exact hw_0 | exact hw_1 | exact hw_2 | exact hw_3 | exact (hw_x (by omega)).trans (by first | assumption)) ⟨rfl, by decide⟩ (zz_rc0 mX3_go hRm hNS rfl rfl) (Nat.le_of_ble_eq_true rfl) ?_
  refine s_X3_share hn hA hg hE hr hq (by first | assumption | exact hw_0 | exact hw_1 | exact hw_2 | exact hw_3 | exact (hw_x (by omega)).trans (by first | assumption)) (by first | assumption | exact hw_0 | exact hw_1 | exact hw_2 | exact hw_3 | exact (hw_x (by omega)).trans (by first | assumption)) hu (by first | assumption | exact hw_0 | exact hw_1 | exact hw_2 | exact hw_3 | exact (hw_x (by omega)).trans (by first | assumption)) hVI (fun S3 s3 => ⟨_, rfl, ?_⟩)
  refine aw_lstore cx 8 dX3_go_6 rfl ⟨Nat.le_of_ble_eq_true rfl, Nat.le_of_ble_eq_true rfl⟩ rfl ?_
  dsimp only [List.set]
  refine aw_iconst cx 9 dX3_go_8 rfl ?_
  refine aw_istore cx 11 dX3_go_9 rfl ⟨Nat.le_of_ble_eq_true rfl, Nat.le_of_ble_eq_true rfl⟩ rfl ?_
  dsimp only [List.set]
  have lp11 : ∀ (kf : Nat) (b : Int) (Yb : Int → Int), (8 - b < (kf : Int)) → (0 ≤ b ∧ b ≤ 8) → (∀ x, 0 ≤ x → x < b → Yb x = if x = 0 then 1 else 0) → AW X 11 [some (vR w), some (vR q), some (vR u), some (vI t), some (vJ (wt V (rk n g) * LL n g)), none, some (vI b)] [] (hwk h w S3 Yb N a) := by
    intro kf
    induction kf with
    | zero =>
      intro b Yb hk hb hY
      exfalso
      omega
    | succ kf ih11 =>
      intro b Yb hk hb hY
      refine aw_iload cx 13 dX3_go_11 rfl rfl ?_
      refine aw_bipush cx 15 dX3_go_13 rfl (by decide +kernel) ?_
      refine aw_icmp_ge cx 18 41 dX3_go_15 rfl (by decide) ⟨⟨by omega, by omega⟩, ⟨by omega, by omega⟩⟩ (fun c15 => ?_) (fun c15 => ?_)
      · refine aw_aload_n cx 42 dX3_go_41 rfl rfl ?_
        refine aw_lconst cx 43 1 dX3_go_42 rfl (by decide +kernel) ?_
        refine aw_putfield cx 46 dX3_go_43 rfl fdX3_21 (by first | assumption | exact hw_0 | exact hw_1 | exact hw_2 | exact hw_3 | exact (hw_x (by omega)).trans (by first | assumption)) (by exact Nat.le_of_ble_eq_true rfl) rfl ?_
        dsimp only [List.set]
        first | rw [hv_1] | rw [hv_2] | rw [hv_3] | rw [hv_0]
        refine aw_iconst cx 47 dX3_go_46 rfl ?_
        refine aw_istore cx 49 dX3_go_47 rfl ⟨Nat.le_of_ble_eq_true rfl, Nat.le_of_ble_eq_true rfl⟩ rfl ?_
        dsimp only [List.set]
        have lp49 : ∀ (kf : Nat) (s al1 : Int) (Ys Ns : Int → Int), (t - s < (kf : Int)) → (0 ≤ s ∧ s ≤ t) → al1 = AL n g V s → (∀ x, 0 ≤ x → x < n → Ys x = wy n g V s x) → AW X 49 [some (vR w), some (vR q), some (vR u), some (vI t), some (vJ (wt V (rk n g) * LL n g)), none, some (vI s)] [] (hwk h w S3 Ys Ns al1) := by
          intro kf
          induction kf with
          | zero =>
            intro s al1 Ys Ns hk hs hal hYs
            exfalso
            omega
          | succ kf ih49 =>
            intro s al1 Ys Ns hk hs hal hYs
            refine aw_iload cx 51 dX3_go_49 rfl rfl ?_
            refine aw_iload_n cx 52 dX3_go_51 rfl rfl ?_
            refine aw_icmp_ge cx 55 77 dX3_go_52 rfl (by decide) ⟨⟨by omega, by omega⟩, ⟨by omega, by omega⟩⟩ (fun c52 => ?_) (fun c52 => ?_)
            · refine aw_return cx dX3_go_77 ?_
              refine hRet _ _ rfl rfl ?_
              rw [hal, show s = t by omega]
              exact k _ _ _ (by rw [show s = t by omega] at hYs; exact hYs)
            · refine aw_aload_n cx 56 dX3_go_55 rfl rfl ?_
              refine aw_aload_n cx 57 dX3_go_56 rfl rfl ?_
              refine aw_V1n cx 60 mX3_step (ci := 2) dX3_go_57 rfl okmX3_step lkX3_29 (by first | assumption | exact hw_0 | exact hw_1 | exact hw_2 | exact hw_3 | exact (hw_x (by omega)).trans (by first | assumption)) ⟨rfl, by decide⟩ (zz_rc0 mX3_go hRm hNS rfl rfl) (Nat.le_of_ble_eq_true rfl) ?_
              refine s_X3_step hn hA hg hE hr hq (by first | assumption | exact hw_0 | exact hw_1 | exact hw_2 | exact hw_3 | exact (hw_x (by omega)).trans (by first | assumption)) (by first | assumption | exact hw_0 | exact hw_1 | exact hw_2 | exact hw_3 | exact (hw_x (by omega)).trans (by first | assumption)) s3 (fun Y57 N57 y57 => ⟨rfl, ?_⟩)
              refine aw_aload_n cx 61 dX3_go_60 rfl rfl ?_
              refine aw_dup cx 62 dX3_go_61 rfl rfl ?_
              refine aw_getfield cx 65 dX3_go_62 rfl fdX3_21 (by first | assumption | exact hw_0 | exact hw_1 | exact hw_2 | exact hw_3 | exact (hw_x (by omega)).trans (by first | assumption)) (by rfl) ?_
              refine aw_lload cx 67 dX3_go_65 rfl rfl ?_
              refine aw_lmul cx 68 dX3_go_67 rfl ?_
              refine aw_putfield cx 71 dX3_go_68 rfl fdX3_21 (by first | assumption | exact hw_0 | exact hw_1 | exact hw_2 | exact hw_3 | exact (hw_x (by omega)).trans (by first | assumption)) (by exact Nat.le_of_ble_eq_true rfl) rfl ?_
              dsimp only [List.set]
              first | rw [hv_1] | rw [hv_2] | rw [hv_3] | rw [hv_0]
              refine aw_iinc cx 74 dX3_go_71 rfl rfl (Nat.le_of_ble_eq_true rfl) rfl ?_
              dsimp only [List.set]
              refine aw_goto cx 49 dX3_go_74 (by decide) ?_
              exact ih49 (s + 1) _ _ _ (by omega) ⟨by omega, by omega⟩ (by rw [hal]; exact (al_s hs.1).symm) (fun x x0 x1 => by
                rw [wy_s hs.1, y57 x x0 x1]
                exact wys_congr hYs)
        exact lp49 7 0 1 Yb N (by omega) ⟨by omega, by omega⟩ rfl (fun x x0 x1 => by rw [wy_0]; exact hY x x0 (by omega))
      · refine aw_aload_n cx 19 dX3_go_18 rfl rfl ?_
        refine aw_getfield cx 22 dX3_go_19 rfl fdX3_15 (by first | assumption | exact hw_0 | exact hw_1 | exact hw_2 | exact hw_3 | exact (hw_x (by omega)).trans (by first | assumption)) (by rfl) ?_
        refine aw_iload cx 24 dX3_go_22 rfl rfl ?_
        refine aw_iload cx 26 dX3_go_24 rfl rfl ?_
        refine aw_if_ne cx 29 33 dX3_go_26 rfl (by decide) ⟨by omega, by omega⟩ (fun c26 => ?_) (fun c26 => ?_)
        · refine aw_lconst cx 34 0 dX3_go_33 rfl (by decide +kernel) ?_
          refine aw_lastore cx 35 dX3_go_34 rfl (by first | assumption | exact hw_0 | exact hw_1 | exact hw_2 | exact hw_3 | exact (hw_x (by omega)).trans (by first | assumption)) ⟨by omega, by omega⟩ (by decide) ?_
          first | rw [hv_1] | rw [hv_2] | rw [hv_3] | rw [hv_0]
          refine aw_iinc cx 38 dX3_go_35 rfl rfl (Nat.le_of_ble_eq_true rfl) rfl ?_
          dsimp only [List.set]
          refine aw_goto cx 11 dX3_go_38 (by decide) ?_
          exact ih11 (b + 1) _ (by omega) ⟨by omega, by omega⟩ (fun x x0 x1 => by
            unfold zz_up
            by_cases e : x = b
            · rw [if_pos e]
              first | rw [if_pos (by omega)] | rw [if_neg (by omega)]
            · rw [if_neg e]
              exact hY x x0 (by omega))
        · refine aw_lconst cx 30 1 dX3_go_29 rfl (by decide +kernel) ?_
          refine aw_goto cx 34 dX3_go_30 (by decide) ?_
          refine aw_lastore cx 35 dX3_go_34 rfl (by first | assumption | exact hw_0 | exact hw_1 | exact hw_2 | exact hw_3 | exact (hw_x (by omega)).trans (by first | assumption)) ⟨by omega, by omega⟩ (by decide) ?_
          first | rw [hv_1] | rw [hv_2] | rw [hv_3] | rw [hv_0]
          refine aw_iinc cx 38 dX3_go_35 rfl rfl (Nat.le_of_ble_eq_true rfl) rfl ?_
          dsimp only [List.set]
          refine aw_goto cx 11 dX3_go_38 (by decide) ?_
          exact ih11 (b + 1) _ (by omega) ⟨by omega, by omega⟩ (fun x x0 x1 => by
            unfold zz_up
            by_cases e : x = b
            · rw [if_pos e]
              first | rw [if_pos (by omega)] | rw [if_neg (by omega)]
            · rw [if_neg e]
              exact hY x x0 (by omega))
  exact lp11 9 0 Y (by omega) ⟨by omega, by omega⟩ (fun x x0 x1 => by omega)
set_option maxRecDepth 100000 in
set_option maxHeartbeats 4000000 in
theorem s_X3_waysTo {h : AH} {Q : Option AV → AH → Prop} {w q : Nat} {C S Y N : Int → Int} {n r f a i : Int} {g : Gr} (hn : 1 ≤ n ∧ n ≤ 8) (hA : ag n C g) (hg : rgn n g) (hq : q + 4 < w ∨ w + 3 < q) (hO : zz_get h q = cCol q n r f) (hC : zz_get h (q + 1) = cA 64 C) (hi : 0 ≤ i ∧ i < 5) (k : ∀ v, v = upw g Y i n → Q (some (vJ v)) (hwk h w S Y N a)) : MC mX3_waysTo [vR w, vR q, vI i] (hwk h w S Y N a) Q := by
  refine mc_start mX3_waysTo RX3 "waysTo" ⟨rfl, rfl, by decide +kernel⟩ [some (vR w), some (vR q), some (vI i), none, none, none] ⟨3, rfl⟩ rfl (fun X cx hRm hNS hRet => ?_)
  refine aw_lconst cx 1 0 dX3_waysTo_0 rfl (by decide +kernel) ?_
  refine aw_lstore_n cx 2 3 dX3_waysTo_1 rfl rfl ⟨Nat.le_of_ble_eq_true rfl, Nat.le_of_ble_eq_true rfl⟩ rfl ?_
  dsimp only [List.set]
  refine aw_iconst cx 3 dX3_waysTo_2 rfl ?_
  refine aw_istore cx 5 dX3_waysTo_3 rfl ⟨Nat.le_of_ble_eq_true rfl, Nat.le_of_ble_eq_true rfl⟩ rfl ?_
  dsimp only [List.set]
  have lp5 : ∀ (kf : Nat) (b s : Int), (n - b < (kf : Int)) → (0 ≤ b ∧ b ≤ n) → s = upw g Y i b → AW X 5 [some (vR w), some (vR q), some (vI i), some (vJ s), none, some (vI b)] [] ((hwk h w S Y N a)) := by
    intro kf
    induction kf with
    | zero =>
      intro b s hk hb hs
      exfalso
      omega
    | succ kf ih5 =>
      intro b s hk hb hs
      refine aw_iload cx 7 dX3_waysTo_5 rfl rfl ?_
      refine aw_aload_n cx 8 dX3_waysTo_7 rfl rfl ?_
      refine aw_getfield cx 11 dX3_waysTo_8 rfl fdX3_47 (by first | assumption | exact hw_0 | exact hw_1 | exact hw_2 | exact hw_3 | exact (hw_x (by omega)).trans (by first | assumption)) (by rfl) ?_
      refine aw_icmp_ge cx 14 41 dX3_waysTo_11 rfl (by decide) ⟨⟨by omega, by omega⟩, ⟨by omega, by omega⟩⟩ (fun c11 => ?_) (fun c11 => ?_)
      · refine aw_lload_n cx 42 dX3_waysTo_41 rfl rfl ?_
        refine aw_lreturn cx dX3_waysTo_42 ?_
        refine hRet _ _ True.intro rfl ?_
        exact k _ (by rw [hs, show b = n by omega])
      · refine aw_aload_n cx 15 dX3_waysTo_14 rfl rfl ?_
        refine aw_iconst cx 16 dX3_waysTo_15 rfl ?_
        refine aw_iload cx 18 dX3_waysTo_16 rfl rfl ?_
        refine aw_V2v cx 21 mX0_colourOf (ci := 0) dX3_waysTo_18 rfl okmX0_colourOf lkX3_50 (by first | assumption | exact hw_0 | exact hw_1 | exact hw_2 | exact hw_3 | exact (hw_x (by omega)).trans (by first | assumption)) ⟨rfl, by decide⟩ (zz_rc0 mX3_waysTo hRm hNS rfl rfl) (Nat.le_of_ble_eq_true rfl) ?_
        refine s_X0_colourOf (by first | assumption | exact hw_0 | exact hw_1 | exact hw_2 | exact hw_3 | exact (hw_x (by omega)).trans (by first | assumption)) (by first | assumption | exact hw_0 | exact hw_1 | exact hw_2 | exact hw_3 | exact (hw_x (by omega)).trans (by first | assumption)) ⟨by omega, by omega⟩ ⟨by omega, by omega⟩ (fun v18 e18 => ⟨_, rfl, ?_⟩)
        have q18 := hA 0 b (by omega) (by omega) (by omega) (by omega)
        have w18 := hg 0 b (by omega) (by omega) (by omega) (by omega)
        refine aw_iload_n cx 22 dX3_waysTo_21 rfl rfl ?_
        refine aw_icmp_ne cx 25 35 dX3_waysTo_22 rfl (by decide) ⟨⟨by omega, by omega⟩, ⟨by omega, by omega⟩⟩ (fun c22 => ?_) (fun c22 => ?_)
        · refine aw_iinc cx 38 dX3_waysTo_35 rfl rfl (Nat.le_of_ble_eq_true rfl) rfl ?_
          dsimp only [List.set]
          refine aw_goto cx 5 dX3_waysTo_38 (by decide) ?_
          exact ih5 (b + 1) _ (by omega) ⟨by omega, by omega⟩ (by rw [upw_s hb.1]; first | (rw [if_pos (by omega)]; omega) | (rw [if_neg (by omega)]; omega))
        · refine aw_lload_n cx 26 dX3_waysTo_25 rfl rfl ?_
          refine aw_aload_n cx 27 dX3_waysTo_26 rfl rfl ?_
          refine aw_getfield cx 30 dX3_waysTo_27 rfl fdX3_15 (by first | assumption | exact hw_0 | exact hw_1 | exact hw_2 | exact hw_3 | exact (hw_x (by omega)).trans (by first | assumption)) (by rfl) ?_
          refine aw_iload cx 32 dX3_waysTo_30 rfl rfl ?_
          refine aw_laload cx 33 dX3_waysTo_32 rfl (by first | assumption | exact hw_0 | exact hw_1 | exact hw_2 | exact hw_3 | exact (hw_x (by omega)).trans (by first | assumption)) ⟨by omega, by omega⟩ (by decide) ?_
          refine aw_ladd cx 34 dX3_waysTo_33 rfl ?_
          refine aw_lstore_n cx 35 3 dX3_waysTo_34 rfl rfl ⟨Nat.le_of_ble_eq_true rfl, Nat.le_of_ble_eq_true rfl⟩ rfl ?_
          dsimp only [List.set]
          refine aw_iinc cx 38 dX3_waysTo_35 rfl rfl (Nat.le_of_ble_eq_true rfl) rfl ?_
          dsimp only [List.set]
          refine aw_goto cx 5 dX3_waysTo_38 (by decide) ?_
          exact ih5 (b + 1) _ (by omega) ⟨by omega, by omega⟩ (by rw [upw_s hb.1]; first | (rw [if_pos (by omega)]; omega) | (rw [if_neg (by omega)]; omega))
  exact lp5 (n.toNat + 1) 0 0 (by omega) ⟨by omega, by omega⟩ rfl
