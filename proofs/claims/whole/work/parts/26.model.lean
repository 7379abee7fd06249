/-! the model: its object 20 and its rows 21 .. 29 -/
abbrev cM (n tr : Int) : AC := cO 4 [vI 0, vJ tr, vI n, vR 21, vR 22, vR 23, vR 24, vR 25, vR 26, vR 27, vR 28, vR 29]
def hmd (h : AH) (n tr : Int) (C K V A B L D T U : Int → Int) : AH := zz_put (zz_put (zz_put (zz_put (zz_put (zz_put (zz_put (zz_put (zz_put (zz_put h 20 (cM n tr)) 21 (cA 64 C)) 22 (cA 64 K)) 23 (cA 5 V)) 24 (cA 5 A)) 25 (cA 5 B)) 26 (cA 8 L)) 27 (cA 5 D)) 28 (cL 8 T)) 29 (cL 8 U)
section
variable {h : AH} {n tr n' tr' : Int} {C K V A B L D T U C' K' V' A' B' L' D' T' U' : Int → Int}
theorem mm_0 : zz_get (hmd h n tr C K V A B L D T U) 20 = cM n tr := by
  unfold hmd
  rw [zz_gn (by omega), zz_gn (by omega), zz_gn (by omega), zz_gn (by omega), zz_gn (by omega), zz_gn (by omega), zz_gn (by omega), zz_gn (by omega), zz_gn (by omega), zz_gs]
theorem mm_1 : zz_get (hmd h n tr C K V A B L D T U) 21 = cA 64 C := by
  unfold hmd
  rw [zz_gn (by omega), zz_gn (by omega), zz_gn (by omega), zz_gn (by omega), zz_gn (by omega), zz_gn (by omega), zz_gn (by omega), zz_gn (by omega), zz_gs]
theorem mm_2 : zz_get (hmd h n tr C K V A B L D T U) 22 = cA 64 K := by
  unfold hmd
  rw [zz_gn (by omega), zz_gn (by omega), zz_gn (by omega), zz_gn (by omega), zz_gn (by omega), zz_gn (by omega), zz_gn (by omega), zz_gs]
theorem mm_3 : zz_get (hmd h n tr C K V A B L D T U) 23 = cA 5 V := by
  unfold hmd
  rw [zz_gn (by omega), zz_gn (by omega), zz_gn (by omega), zz_gn (by omega), zz_gn (by omega), zz_gn (by omega), zz_gs]
theorem mm_4 : zz_get (hmd h n tr C K V A B L D T U) 24 = cA 5 A := by
  unfold hmd
  rw [zz_gn (by omega), zz_gn (by omega), zz_gn (by omega), zz_gn (by omega), zz_gn (by omega), zz_gs]
theorem mm_5 : zz_get (hmd h n tr C K V A B L D T U) 25 = cA 5 B := by
  unfold hmd
  rw [zz_gn (by omega), zz_gn (by omega), zz_gn (by omega), zz_gn (by omega), zz_gs]
theorem mm_6 : zz_get (hmd h n tr C K V A B L D T U) 26 = cA 8 L := by
  unfold hmd
  rw [zz_gn (by omega), zz_gn (by omega), zz_gn (by omega), zz_gs]
theorem mm_7 : zz_get (hmd h n tr C K V A B L D T U) 27 = cA 5 D := by
  unfold hmd
  rw [zz_gn (by omega), zz_gn (by omega), zz_gs]
theorem mm_8 : zz_get (hmd h n tr C K V A B L D T U) 28 = cL 8 T := by
  unfold hmd
  rw [zz_gn (by omega), zz_gs]
theorem mm_9 : zz_get (hmd h n tr C K V A B L D T U) 29 = cL 8 U := by
  unfold hmd
  rw [zz_gs]
theorem mm_x {k : Nat} (hk : k < 20 ∨ 29 < k) : zz_get (hmd h n tr C K V A B L D T U) k = zz_get h k := by
  unfold hmd
  rw [zz_gn (by omega), zz_gn (by omega), zz_gn (by omega), zz_gn (by omega), zz_gn (by omega), zz_gn (by omega), zz_gn (by omega), zz_gn (by omega), zz_gn (by omega), zz_gn (by omega)]
theorem my_1 : zz_put (hmd h n tr C K V A B L D T U) 21 (cA 64 C') = (hmd h n tr C' K V A B L D T U) := by
  unfold hmd
  rw [zz_put_comm _ 29 21 _ _ (by omega), zz_put_comm _ 28 21 _ _ (by omega), zz_put_comm _ 27 21 _ _ (by omega), zz_put_comm _ 26 21 _ _ (by omega), zz_put_comm _ 25 21 _ _ (by omega), zz_put_comm _ 24 21 _ _ (by omega), zz_put_comm _ 23 21 _ _ (by omega), zz_put_comm _ 22 21 _ _ (by omega), zz_put_put]
theorem my_2 : zz_put (hmd h n tr C K V A B L D T U) 22 (cA 64 K') = (hmd h n tr C K' V A B L D T U) := by
  unfold hmd
  rw [zz_put_comm _ 29 22 _ _ (by omega), zz_put_comm _ 28 22 _ _ (by omega), zz_put_comm _ 27 22 _ _ (by omega), zz_put_comm _ 26 22 _ _ (by omega), zz_put_comm _ 25 22 _ _ (by omega), zz_put_comm _ 24 22 _ _ (by omega), zz_put_comm _ 23 22 _ _ (by omega), zz_put_put]
theorem my_3 : zz_put (hmd h n tr C K V A B L D T U) 23 (cA 5 V') = (hmd h n tr C K V' A B L D T U) := by
  unfold hmd
  rw [zz_put_comm _ 29 23 _ _ (by omega), zz_put_comm _ 28 23 _ _ (by omega), zz_put_comm _ 27 23 _ _ (by omega), zz_put_comm _ 26 23 _ _ (by omega), zz_put_comm _ 25 23 _ _ (by omega), zz_put_comm _ 24 23 _ _ (by omega), zz_put_put]
theorem my_4 : zz_put (hmd h n tr C K V A B L D T U) 24 (cA 5 A') = (hmd h n tr C K V A' B L D T U) := by
  unfold hmd
  rw [zz_put_comm _ 29 24 _ _ (by omega), zz_put_comm _ 28 24 _ _ (by omega), zz_put_comm _ 27 24 _ _ (by omega), zz_put_comm _ 26 24 _ _ (by omega), zz_put_comm _ 25 24 _ _ (by omega), zz_put_put]
theorem my_5 : zz_put (hmd h n tr C K V A B L D T U) 25 (cA 5 B') = (hmd h n tr C K V A B' L D T U) := by
  unfold hmd
  rw [zz_put_comm _ 29 25 _ _ (by omega), zz_put_comm _ 28 25 _ _ (by omega), zz_put_comm _ 27 25 _ _ (by omega), zz_put_comm _ 26 25 _ _ (by omega), zz_put_put]
theorem my_6 : zz_put (hmd h n tr C K V A B L D T U) 26 (cA 8 L') = (hmd h n tr C K V A B L' D T U) := by
  unfold hmd
  rw [zz_put_comm _ 29 26 _ _ (by omega), zz_put_comm _ 28 26 _ _ (by omega), zz_put_comm _ 27 26 _ _ (by omega), zz_put_put]
theorem my_7 : zz_put (hmd h n tr C K V A B L D T U) 27 (cA 5 D') = (hmd h n tr C K V A B L D' T U) := by
  unfold hmd
  rw [zz_put_comm _ 29 27 _ _ (by omega), zz_put_comm _ 28 27 _ _ (by omega), zz_put_put]
theorem my_8 : zz_put (hmd h n tr C K V A B L D T U) 28 (cL 8 T') = (hmd h n tr C K V A B L D T' U) := by
  unfold hmd
  rw [zz_put_comm _ 29 28 _ _ (by omega), zz_put_put]
theorem my_9 : zz_put (hmd h n tr C K V A B L D T U) 29 (cL 8 U') = (hmd h n tr C K V A B L D T U') := by
  unfold hmd
  rw [zz_put_put]
theorem my_0 : zz_put (hmd h n tr C K V A B L D T U) 20 (cO 4 [vI 0, vJ tr', vI n', vR 21, vR 22, vR 23, vR 24, vR 25, vR 26, vR 27, vR 28, vR 29]) = (hmd h n' tr' C K V A B L D T U) := by
  unfold hmd
  rw [zz_put_comm _ 29 20 _ _ (by omega), zz_put_comm _ 28 20 _ _ (by omega), zz_put_comm _ 27 20 _ _ (by omega), zz_put_comm _ 26 20 _ _ (by omega), zz_put_comm _ 25 20 _ _ (by omega), zz_put_comm _ 24 20 _ _ (by omega), zz_put_comm _ 23 20 _ _ (by omega), zz_put_comm _ 22 20 _ _ (by omega), zz_put_comm _ 21 20 _ _ (by omega), zz_put_put]
theorem mm_in (h0 : zz_get h 20 = cM n tr) (h1 : zz_get h 21 = cA 64 C) (h2 : zz_get h 22 = cA 64 K) (h3 : zz_get h 23 = cA 5 V) (h4 : zz_get h 24 = cA 5 A) (h5 : zz_get h 25 = cA 5 B) (h6 : zz_get h 26 = cA 8 L) (h7 : zz_get h 27 = cA 5 D) (h8 : zz_get h 28 = cL 8 T) (h9 : zz_get h 29 = cL 8 U) : h = (hmd h n tr C K V A B L D T U) := by
  unfold hmd
  rw [zz_put_get h 20 _ h0, zz_put_get h 21 _ h1, zz_put_get h 22 _ h2, zz_put_get h 23 _ h3, zz_put_get h 24 _ h4, zz_put_get h 25 _ h5, zz_put_get h 26 _ h6, zz_put_get h 27 _ h7, zz_put_get h 28 _ h8, zz_put_get h 29 _ h9]
end
set_option maxRecDepth 100000 in
set_option maxHeartbeats 4000000 in
theorem s_X5_in {h : AH} {Q : Option AV → AH → Prop} {v0 a b : Int} (h0 : R32 v0) (ha : R32 a) (hb : R32 b) (k : ∀ v, ((v = 1 ∧ a ≤ v0 ∧ v0 ≤ b) ∨ (v = 0 ∧ ¬ (a ≤ v0 ∧ v0 ≤ b))) → Q (some (vI v)) h) : MC mX5_in [vI v0, vI a, vI b] h Q := by
  refine mc_start mX5_in RX5 "in" ⟨rfl, rfl, by decide +kernel⟩ [some (vI v0), some (vI a), some (vI b)] ⟨0, rfl⟩ rfl (fun X cx hRm hNS hRet => ?_)
  refine aw_iload_n cx 1 dX5_in_0 rfl rfl ?_
  refine aw_iload_n cx 2 dX5_in_1 rfl rfl ?_
  refine aw_icmp_lt cx 5 14 dX5_in_2 rfl (by decide) ⟨⟨by omega, by omega⟩, ⟨by omega, by omega⟩⟩ (fun c2 => ?_) (fun c2 => ?_)
  · refine aw_iconst cx 15 dX5_in_14 rfl ?_
    refine aw_ireturn cx dX5_in_15 ?_
    refine hRet _ _ (by first | exact Or.inl rfl | exact Or.inr rfl | assumption) rfl ?_
    exact k _ (by omega)
  · refine aw_iload_n cx 6 dX5_in_5 rfl rfl ?_
    refine aw_iload_n cx 7 dX5_in_6 rfl rfl ?_
    refine aw_icmp_gt cx 10 14 dX5_in_7 rfl (by decide) ⟨⟨by omega, by omega⟩, ⟨by omega, by omega⟩⟩ (fun c7 => ?_) (fun c7 => ?_)
    · refine aw_iconst cx 15 dX5_in_14 rfl ?_
      refine aw_ireturn cx dX5_in_15 ?_
      refine hRet _ _ (by first | exact Or.inl rfl | exact Or.inr rfl | assumption) rfl ?_
      exact k _ (by omega)
    · refine aw_iconst cx 11 dX5_in_10 rfl ?_
      refine aw_goto cx 15 dX5_in_11 (by decide) ?_
      refine aw_ireturn cx dX5_in_15 ?_
      refine hRet _ _ (by first | exact Or.inl rfl | exact Or.inr rfl | assumption) rfl ?_
      exact k _ (by omega)
set_option maxRecDepth 100000 in
set_option maxHeartbeats 4000000 in
theorem s_X5_isPoint {h : AH} {Q : Option AV → AH → Prop} {n tr : Int} {C K V A B L D T U : Int → Int} (hn : 1 ≤ n ∧ n ≤ 8) {a : Int} (ha : R32 a) (k : ∀ v, ((v = 1 ∧ 0 ≤ a ∧ a < n) ∨ (v = 0 ∧ ¬ (0 ≤ a ∧ a < n))) → Q (some (vI v)) (hmd h n tr C K V A B L D T U)) : MC mX5_isPoint [vR 20, vI a] (hmd h n tr C K V A B L D T U) Q := by
  refine mc_start mX5_isPoint RX5 "isPoint" ⟨rfl, rfl, by decide +kernel⟩ [some (vR 20), some (vI a)] ⟨0, rfl⟩ rfl (fun X cx hRm hNS hRet => ?_)
  refine aw_iload_n cx 1 dX5_isPoint_0 rfl rfl ?_
  refine aw_iconst cx 2 dX5_isPoint_1 rfl ?_
  refine aw_aload_n cx 3 dX5_isPoint_2 rfl rfl ?_
  refine aw_getfield cx 6 dX5_isPoint_3 rfl fdX5_7 (by first | exact mm_0 | exact mm_1 | exact mm_2 | exact mm_3 | exact mm_4 | exact mm_5 | exact mm_6 | exact mm_7 | exact mm_8 | exact mm_9) (by rfl) ?_
  refine aw_iconst cx 7 dX5_isPoint_6 rfl ?_
  refine aw_isub cx 8 dX5_isPoint_7 rfl ?_
  refine aw_S3v cx 11 mX5_in dX5_isPoint_8 rfl okmX5_in lkX5_45 (zz_rc0 mX5_isPoint hRm hNS rfl rfl) (Nat.le_of_ble_eq_true rfl) ?_
  refine s_X5_in (by first | assumption | exact ⟨by omega, by omega⟩) (by first | assumption | exact ⟨by omega, by omega⟩) (by first | assumption | exact ⟨by omega, by omega⟩) (fun v8 e8 => ⟨_, rfl, ?_⟩)
  have z8 : v8 = 0 ∨ v8 = 1 := by omega
  have y8 : v8 = 1 ∨ v8 = 0 := by omega
  refine aw_ireturn cx dX5_isPoint_11 ?_
  refine hRet _ _ (by first | exact Or.inl rfl | exact Or.inr rfl | assumption) rfl ?_
  exact k _ (by omega)
set_option maxRecDepth 100000 in
set_option maxHeartbeats 4000000 in
theorem s_X5_hue {h : AH} {Q : Option AV → AH → Prop} {n tr : Int} {C K V A B L D T U : Int → Int} {a b : Int} (ha : 0 ≤ a ∧ a < 8) (hb : 0 ≤ b ∧ b < 8) (k : ∀ v, v = C (8 * a + b) → Q (some (vI v)) (hmd h n tr C K V A B L D T U)) : MC mX5_hue [vR 20, vI a, vI b] (hmd h n tr C K V A B L D T U) Q := by
  refine mc_start mX5_hue RX5 "hue" ⟨rfl, rfl, by decide +kernel⟩ [some (vR 20), some (vI a), some (vI b)] ⟨0, rfl⟩ rfl (fun X cx hRm hNS hRet => ?_)
  refine aw_aload_n cx 1 dX5_hue_0 rfl rfl ?_
  refine aw_getfield cx 4 dX5_hue_1 rfl fdX5_13 (by first | exact mm_0 | exact mm_1 | exact mm_2 | exact mm_3 | exact mm_4 | exact mm_5 | exact mm_6 | exact mm_7 | exact mm_8 | exact mm_9) (by rfl) ?_
  refine aw_bipush cx 6 dX5_hue_4 rfl (by decide +kernel) ?_
  refine aw_iload_n cx 7 dX5_hue_6 rfl rfl ?_
  refine aw_imul cx 8 dX5_hue_7 rfl ?_
  refine aw_iload_n cx 9 dX5_hue_8 rfl rfl ?_
  refine aw_iadd cx 10 dX5_hue_9 rfl ?_
  refine aw_iaload cx 11 dX5_hue_10 rfl (by first | exact mm_0 | exact mm_1 | exact mm_2 | exact mm_3 | exact mm_4 | exact mm_5 | exact mm_6 | exact mm_7 | exact mm_8 | exact mm_9) ⟨by omega, by omega⟩ (by decide) ?_
  refine aw_ireturn cx dX5_hue_11 ?_
  refine hRet _ _ True.intro rfl ?_
  exact k _ rfl
set_option maxRecDepth 100000 in
set_option maxHeartbeats 4000000 in
theorem s_X5_rank {h : AH} {Q : Option AV → AH → Prop} {n tr : Int} {C K V A B L D T U : Int → Int} {g : Gr} (hn : 1 ≤ n ∧ n ≤ 8) (hA : ag n C g) (hg : rgn n g) (k : ∀ v, v = rk n g → Q (some (vI v)) (hmd h n tr C K V A B L D T U)) : MC mX5_rank [vR 20] (hmd h n tr C K V A B L D T U) Q := by
  refine mc_start mX5_rank RX5 "rank" ⟨rfl, rfl, by decide +kernel⟩ [some (vR 20), none, none, none] ⟨3, rfl⟩ rfl (fun X cx hRm hNS hRet => ?_)
  refine aw_iconst cx 1 dX5_rank_0 rfl ?_
  refine aw_istore_n cx 2 1 dX5_rank_1 rfl rfl ⟨Nat.le_of_ble_eq_true rfl, Nat.le_of_ble_eq_true rfl⟩ rfl ?_
  dsimp only [List.set]
  refine aw_iconst cx 3 dX5_rank_2 rfl ?_
  refine aw_istore_n cx 4 2 dX5_rank_3 rfl rfl ⟨Nat.le_of_ble_eq_true rfl, Nat.le_of_ble_eq_true rfl⟩ rfl ?_
  dsimp only [List.set]
  have lp4 : ∀ (kf : Nat) (a s : Int), (n - a < (kf : Int)) → (0 ≤ a ∧ a ≤ n) → s = mx2 n g a → (0 ≤ s ∧ s ≤ 4) → AW X 4 [some (vR 20), some (vI s), some (vI a), none] [] (hmd h n tr C K V A B L D T U) := by
    intro kf
    induction kf with
    | zero =>
      intro a s hk ha hs hb
      exfalso
      omega
    | succ kf ih4 =>
      intro a s hk ha hs hb
      refine aw_iload_n cx 5 dX5_rank_4 rfl rfl ?_
      refine aw_aload_n cx 6 dX5_rank_5 rfl rfl ?_
      refine aw_getfield cx 9 dX5_rank_6 rfl fdX5_7 (by first | exact mm_0 | exact mm_1 | exact mm_2 | exact mm_3 | exact mm_4 | exact mm_5 | exact mm_6 | exact mm_7 | exact mm_8 | exact mm_9) (by rfl) ?_
      refine aw_icmp_ge cx 12 55 dX5_rank_9 rfl (by decide) ⟨⟨by omega, by omega⟩, ⟨by omega, by omega⟩⟩ (fun c9 => ?_) (fun c9 => ?_)
      · refine aw_iload_n cx 56 dX5_rank_55 rfl rfl ?_
        refine aw_iconst cx 57 dX5_rank_56 rfl ?_
        refine aw_iadd cx 58 dX5_rank_57 rfl ?_
        refine aw_ireturn cx dX5_rank_58 ?_
        refine hRet _ _ True.intro rfl ?_
        exact k _ (by rw [hs, show a = n by omega]; unfold rk; omega)
      · refine aw_iconst cx 13 dX5_rank_12 rfl ?_
        refine aw_istore_n cx 14 3 dX5_rank_13 rfl rfl ⟨Nat.le_of_ble_eq_true rfl, Nat.le_of_ble_eq_true rfl⟩ rfl ?_
        dsimp only [List.set]
        have lp14 : ∀ (kf : Nat) (b s1 : Int), (n - b < (kf : Int)) → (0 ≤ b ∧ b ≤ n) → s1 = mx1 b (g a) s → (0 ≤ s1 ∧ s1 ≤ 4) → AW X 14 [some (vR 20), some (vI s1), some (vI a), some (vI b)] [] (hmd h n tr C K V A B L D T U) := by
          intro kf
          induction kf with
          | zero =>
            intro b s1 hk hb1 hs1 hb2
            exfalso
            omega
          | succ kf ih14 =>
            intro b s1 hk hb1 hs1 hb2
            refine aw_iload_n cx 15 dX5_rank_14 rfl rfl ?_
            refine aw_aload_n cx 16 dX5_rank_15 rfl rfl ?_
            refine aw_getfield cx 19 dX5_rank_16 rfl fdX5_7 (by first | exact mm_0 | exact mm_1 | exact mm_2 | exact mm_3 | exact mm_4 | exact mm_5 | exact mm_6 | exact mm_7 | exact mm_8 | exact mm_9) (by rfl) ?_
            refine aw_icmp_ge cx 22 49 dX5_rank_19 rfl (by decide) ⟨⟨by omega, by omega⟩, ⟨by omega, by omega⟩⟩ (fun c19 => ?_) (fun c19 => ?_)
            · refine aw_iinc cx 52 dX5_rank_49 rfl rfl (Nat.le_of_ble_eq_true rfl) rfl ?_
              dsimp only [List.set]
              refine aw_goto cx 4 dX5_rank_52 (by decide) ?_
              exact aw_weak (ih4 (a + 1) s1 (by omega) ⟨by omega, by omega⟩ (by rw [mx2_n ha.1, hs1, show b = n by omega, hs]) ⟨by omega, by omega⟩) (by simp [zz_le])
            · refine aw_aload_n cx 23 dX5_rank_22 rfl rfl ?_
              refine aw_iload_n cx 24 dX5_rank_23 rfl rfl ?_
              refine aw_iload_n cx 25 dX5_rank_24 rfl rfl ?_
              refine aw_V2v cx 28 mX5_hue (ci := 4) dX5_rank_25 rfl okmX5_hue lkX5_53 (by first | exact mm_0 | exact mm_1 | exact mm_2 | exact mm_3 | exact mm_4 | exact mm_5 | exact mm_6 | exact mm_7 | exact mm_8 | exact mm_9) ⟨rfl, by decide⟩ (zz_rc0 mX5_rank hRm hNS rfl rfl) (Nat.le_of_ble_eq_true rfl) ?_
              refine s_X5_hue ⟨by omega, by omega⟩ ⟨by omega, by omega⟩ (fun v25 e25 => ⟨_, rfl, ?_⟩)
              have q25 := hA a b (by omega) (by omega) (by omega) (by omega)
              have w25 := hg a b (by omega) (by omega) (by omega) (by omega)
              refine aw_iload_n cx 29 dX5_rank_28 rfl rfl ?_
              refine aw_icmp_le cx 32 41 dX5_rank_29 rfl (by decide) ⟨⟨by omega, by omega⟩, ⟨by omega, by omega⟩⟩ (fun c29 => ?_) (fun c29 => ?_)
              · refine aw_iload_n cx 42 dX5_rank_41 rfl rfl ?_
                refine aw_istore_n cx 43 1 dX5_rank_42 rfl rfl ⟨Nat.le_of_ble_eq_true rfl, Nat.le_of_ble_eq_true rfl⟩ rfl ?_
                dsimp only [List.set]
                refine aw_iinc cx 46 dX5_rank_43 rfl rfl (Nat.le_of_ble_eq_true rfl) rfl ?_
                dsimp only [List.set]
                refine aw_goto cx 14 dX5_rank_46 (by decide) ?_
                exact ih14 (b + 1) _ (by omega) ⟨by omega, by omega⟩ (by rw [mx1_n hb1.1, ← hs1]; first | (rw [if_pos (by omega)]; omega) | (rw [if_neg (by omega)]; done)) ⟨by omega, by omega⟩
              · refine aw_aload_n cx 33 dX5_rank_32 rfl rfl ?_
                refine aw_iload_n cx 34 dX5_rank_33 rfl rfl ?_
                refine aw_iload_n cx 35 dX5_rank_34 rfl rfl ?_
                refine aw_V2v cx 38 mX5_hue (ci := 4) dX5_rank_35 rfl okmX5_hue lkX5_53 (by first | exact mm_0 | exact mm_1 | exact mm_2 | exact mm_3 | exact mm_4 | exact mm_5 | exact mm_6 | exact mm_7 | exact mm_8 | exact mm_9) ⟨rfl, by decide⟩ (zz_rc0 mX5_rank hRm hNS rfl rfl) (Nat.le_of_ble_eq_true rfl) ?_
                refine s_X5_hue ⟨by omega, by omega⟩ ⟨by omega, by omega⟩ (fun v35 e35 => ⟨_, rfl, ?_⟩)
                refine aw_goto cx 42 dX5_rank_38 (by decide) ?_
                refine aw_istore_n cx 43 1 dX5_rank_42 rfl rfl ⟨Nat.le_of_ble_eq_true rfl, Nat.le_of_ble_eq_true rfl⟩ rfl ?_
                dsimp only [List.set]
                refine aw_iinc cx 46 dX5_rank_43 rfl rfl (Nat.le_of_ble_eq_true rfl) rfl ?_
                dsimp only [List.set]
                refine aw_goto cx 14 dX5_rank_46 (by decide) ?_
                exact ih14 (b + 1) _ (by omega) ⟨by omega, by omega⟩ (by rw [mx1_n hb1.1, ← hs1]; first | (rw [if_pos (by omega)]; omega) | (rw [if_neg (by omega)]; done)) ⟨by omega, by omega⟩
        exact lp14 (n.toNat + 1) 0 s (by omega) ⟨by omega, by omega⟩ rfl hb
  exact lp4 (n.toNat + 1) 0 0 (by omega) ⟨by omega, by omega⟩ rfl ⟨by omega, by omega⟩
set_option maxRecDepth 100000 in
set_option maxHeartbeats 4000000 in
theorem s_X5_between {h : AH} {Q : Option AV → AH → Prop} {n tr : Int} {C K V A B L D T U : Int → Int} {g : Gr} (hn : 1 ≤ n ∧ n ≤ 8) (hA : ag n C g) (hg : rgn n g) {a b i j : Int} (ha : 0 ≤ a ∧ a < n) (hb : 0 ≤ b ∧ b < n) (hi : R32 i) (hj : R32 j) (k : ∀ v, v = cn n g a b i j → Q (some (vI v)) (hmd h n tr C K V A B L D T U)) : MC mX5_between [vR 20, vI a, vI b, vI i, vI j] (hmd h n tr C K V A B L D T U) Q := by
  refine mc_start mX5_between RX5 "between" ⟨rfl, rfl, by decide +kernel⟩ [some (vR 20), some (vI a), some (vI b), some (vI i), some (vI j), none, none] ⟨2, rfl⟩ rfl (fun X cx hRm hNS hRet => ?_)
  refine aw_iconst cx 1 dX5_between_0 rfl ?_
  refine aw_istore cx 3 dX5_between_1 rfl ⟨Nat.le_of_ble_eq_true rfl, Nat.le_of_ble_eq_true rfl⟩ rfl ?_
  dsimp only [List.set]
  refine aw_iconst cx 4 dX5_between_3 rfl ?_
  refine aw_istore cx 6 dX5_between_4 rfl ⟨Nat.le_of_ble_eq_true rfl, Nat.le_of_ble_eq_true rfl⟩ rfl ?_
  dsimp only [List.set]
  have lp6 : ∀ (kf : Nat) (e s : Int), (n - e < (kf : Int)) → (0 ≤ e ∧ e ≤ n) → s = cn e g a b i j → AW X 6 [some (vR 20), some (vI a), some (vI b), some (vI i), some (vI j), some (vI s), some (vI e)] [] (hmd h n tr C K V A B L D T U) := by
    intro kf
    induction kf with
    | zero =>
      intro e s hk he hs
      exfalso
      omega
    | succ kf ih6 =>
      intro e s hk he hs
      refine aw_iload cx 8 dX5_between_6 rfl rfl ?_
      refine aw_aload_n cx 9 dX5_between_8 rfl rfl ?_
      refine aw_getfield cx 12 dX5_between_9 rfl fdX5_7 (by first | exact mm_0 | exact mm_1 | exact mm_2 | exact mm_3 | exact mm_4 | exact mm_5 | exact mm_6 | exact mm_7 | exact mm_8 | exact mm_9) (by rfl) ?_
      refine aw_icmp_ge cx 15 54 dX5_between_12 rfl (by decide) ⟨⟨by omega, by omega⟩, ⟨by omega, by omega⟩⟩ (fun c12 => ?_) (fun c12 => ?_)
      · refine aw_iload cx 56 dX5_between_54 rfl rfl ?_
        refine aw_ireturn cx dX5_between_56 ?_
        refine hRet _ _ True.intro rfl ?_
        exact k _ (by rw [hs, show e = n by omega])
      · refine aw_iload cx 17 dX5_between_15 rfl rfl ?_
        refine aw_aload_n cx 18 dX5_between_17 rfl rfl ?_
        refine aw_iload_n cx 19 dX5_between_18 rfl rfl ?_
        refine aw_iload cx 21 dX5_between_19 rfl rfl ?_
        refine aw_V2v cx 24 mX5_hue (ci := 4) dX5_between_21 rfl okmX5_hue lkX5_53 (by first | exact mm_0 | exact mm_1 | exact mm_2 | exact mm_3 | exact mm_4 | exact mm_5 | exact mm_6 | exact mm_7 | exact mm_8 | exact mm_9) ⟨rfl, by decide⟩ (zz_rc0 mX5_between hRm hNS rfl rfl) (Nat.le_of_ble_eq_true rfl) ?_
        refine s_X5_hue ⟨by omega, by omega⟩ ⟨by omega, by omega⟩ (fun v21 e21 => ⟨_, rfl, ?_⟩)
        have q21 := hA a e (by omega) (by omega) (by omega) (by omega)
        have w21 := hg a e (by omega) (by omega) (by omega) (by omega)
        refine aw_iload_n cx 25 dX5_between_24 rfl rfl ?_
        refine aw_icmp_ne cx 28 44 dX5_between_25 rfl (by decide) ⟨⟨by omega, by omega⟩, ⟨by omega, by omega⟩⟩ (fun c25 => ?_) (fun c25 => ?_)
        · refine aw_iconst cx 45 dX5_between_44 rfl ?_
          refine aw_iadd cx 46 dX5_between_45 rfl ?_
          refine aw_istore cx 48 dX5_between_46 rfl ⟨Nat.le_of_ble_eq_true rfl, Nat.le_of_ble_eq_true rfl⟩ rfl ?_
          dsimp only [List.set]
          refine aw_iinc cx 51 dX5_between_48 rfl rfl (Nat.le_of_ble_eq_true rfl) rfl ?_
          dsimp only [List.set]
          refine aw_goto cx 6 dX5_between_51 (by decide) ?_
          exact ih6 (e + 1) _ (by omega) ⟨by omega, by omega⟩ (by rw [cn_s he.1]; first | (rw [if_pos ⟨by omega, by omega⟩]; omega) | (rw [if_neg (by omega)]; omega))
        · refine aw_aload_n cx 29 dX5_between_28 rfl rfl ?_
          refine aw_iload cx 31 dX5_between_29 rfl rfl ?_
          refine aw_iload_n cx 32 dX5_between_31 rfl rfl ?_
          refine aw_V2v cx 35 mX5_hue (ci := 4) dX5_between_32 rfl okmX5_hue lkX5_53 (by first | exact mm_0 | exact mm_1 | exact mm_2 | exact mm_3 | exact mm_4 | exact mm_5 | exact mm_6 | exact mm_7 | exact mm_8 | exact mm_9) ⟨rfl, by decide⟩ (zz_rc0 mX5_between hRm hNS rfl rfl) (Nat.le_of_ble_eq_true rfl) ?_
          refine s_X5_hue ⟨by omega, by omega⟩ ⟨by omega, by omega⟩ (fun v32 e32 => ⟨_, rfl, ?_⟩)
          have q32 := hA e b (by omega) (by omega) (by omega) (by omega)
          have w32 := hg e b (by omega) (by omega) (by omega) (by omega)
          refine aw_iload cx 37 dX5_between_35 rfl rfl ?_
          refine aw_icmp_ne cx 40 44 dX5_between_37 rfl (by decide) ⟨⟨by omega, by omega⟩, ⟨by omega, by omega⟩⟩ (fun c37 => ?_) (fun c37 => ?_)
          · refine aw_iconst cx 45 dX5_between_44 rfl ?_
            refine aw_iadd cx 46 dX5_between_45 rfl ?_
            refine aw_istore cx 48 dX5_between_46 rfl ⟨Nat.le_of_ble_eq_true rfl, Nat.le_of_ble_eq_true rfl⟩ rfl ?_
            dsimp only [List.set]
            refine aw_iinc cx 51 dX5_between_48 rfl rfl (Nat.le_of_ble_eq_true rfl) rfl ?_
            dsimp only [List.set]
            refine aw_goto cx 6 dX5_between_51 (by decide) ?_
            exact ih6 (e + 1) _ (by omega) ⟨by omega, by omega⟩ (by rw [cn_s he.1]; first | (rw [if_pos ⟨by omega, by omega⟩]; omega) | (rw [if_neg (by omega)]; omega))
          · refine aw_iconst cx 41 dX5_between_40 rfl ?_
            refine aw_goto cx 45 dX5_between_41 (by decide) ?_
            refine aw_iadd cx 46 dX5_between_45 rfl ?_
            refine aw_istore cx 48 dX5_between_46 rfl ⟨Nat.le_of_ble_eq_true rfl, Nat.le_of_ble_eq_true rfl⟩ rfl ?_
            dsimp only [List.set]
            refine aw_iinc cx 51 dX5_between_48 rfl rfl (Nat.le_of_ble_eq_true rfl) rfl ?_
            dsimp only [List.set]
            refine aw_goto cx 6 dX5_between_51 (by decide) ?_
            exact ih6 (e + 1) _ (by omega) ⟨by omega, by omega⟩ (by rw [cn_s he.1]; first | (rw [if_pos ⟨by omega, by omega⟩]; omega) | (rw [if_neg (by omega)]; omega))
  exact lp6 (n.toNat + 1) 0 0 (by omega) ⟨by omega, by omega⟩ rfl
set_option maxRecDepth 100000 in
set_option maxHeartbeats 4000000 in
theorem s_X5_degree {h : AH} {Q : Option AV → AH → Prop} {n tr : Int} {C K V A B L D T U : Int → Int} {g : Gr} (hn : 1 ≤ n ∧ n ≤ 8) (hA : ag n C g) (hg : rgn n g) {i : Int} (hi : R32 i) (k : ∀ v, v = dg n g i → Q (some (vI v)) (hmd h n tr C K V A B L D T U)) : MC mX5_degree [vR 20, vI i] (hmd h n tr C K V A B L D T U) Q := by
  refine mc_start mX5_degree RX5 "degree" ⟨rfl, rfl, by decide +kernel⟩ [some (vR 20), some (vI i), none, none] ⟨2, rfl⟩ rfl (fun X cx hRm hNS hRet => ?_)
  refine aw_iconst cx 1 dX5_degree_0 rfl ?_
  refine aw_istore_n cx 2 2 dX5_degree_1 rfl rfl ⟨Nat.le_of_ble_eq_true rfl, Nat.le_of_ble_eq_true rfl⟩ rfl ?_
  dsimp only [List.set]
  refine aw_iconst cx 3 dX5_degree_2 rfl ?_
  refine aw_istore_n cx 4 3 dX5_degree_3 rfl rfl ⟨Nat.le_of_ble_eq_true rfl, Nat.le_of_ble_eq_true rfl⟩ rfl ?_
  dsimp only [List.set]
  have lp4 : ∀ (kf : Nat) (b s : Int), (n - b < (kf : Int)) → (0 ≤ b ∧ b ≤ n) → s = dg b g i → AW X 4 [some (vR 20), some (vI i), some (vI s), some (vI b)] [] (hmd h n tr C K V A B L D T U) := by
    intro kf
    induction kf with
    | zero =>
      intro b s hk hb hs
      exfalso
      omega
    | succ kf ih4 =>
      intro b s hk hb hs
      refine aw_iload_n cx 5 dX5_degree_4 rfl rfl ?_
      refine aw_aload_n cx 6 dX5_degree_5 rfl rfl ?_
      refine aw_getfield cx 9 dX5_degree_6 rfl fdX5_7 (by first | exact mm_0 | exact mm_1 | exact mm_2 | exact mm_3 | exact mm_4 | exact mm_5 | exact mm_6 | exact mm_7 | exact mm_8 | exact mm_9) (by rfl) ?_
      refine aw_icmp_ge cx 12 36 dX5_degree_9 rfl (by decide) ⟨⟨by omega, by omega⟩, ⟨by omega, by omega⟩⟩ (fun c9 => ?_) (fun c9 => ?_)
      · refine aw_iload_n cx 37 dX5_degree_36 rfl rfl ?_
        refine aw_ireturn cx dX5_degree_37 ?_
        refine hRet _ _ True.intro rfl ?_
        exact k _ (by rw [hs, show b = n by omega])
      · refine aw_iload_n cx 13 dX5_degree_12 rfl rfl ?_
        refine aw_aload_n cx 14 dX5_degree_13 rfl rfl ?_
        refine aw_iconst cx 15 dX5_degree_14 rfl ?_
        refine aw_iload_n cx 16 dX5_degree_15 rfl rfl ?_
        refine aw_V2v cx 19 mX5_hue (ci := 4) dX5_degree_16 rfl okmX5_hue lkX5_53 (by first | exact mm_0 | exact mm_1 | exact mm_2 | exact mm_3 | exact mm_4 | exact mm_5 | exact mm_6 | exact mm_7 | exact mm_8 | exact mm_9) ⟨rfl, by decide⟩ (zz_rc0 mX5_degree hRm hNS rfl rfl) (Nat.le_of_ble_eq_true rfl) ?_
        refine s_X5_hue ⟨by omega, by omega⟩ ⟨by omega, by omega⟩ (fun v16 e16 => ⟨_, rfl, ?_⟩)
        have q16 := hA 0 b (by omega) (by omega) (by omega) (by omega)
        have w16 := hg 0 b (by omega) (by omega) (by omega) (by omega)
        refine aw_iload_n cx 20 dX5_degree_19 rfl rfl ?_
        refine aw_icmp_ne cx 23 27 dX5_degree_20 rfl (by decide) ⟨⟨by omega, by omega⟩, ⟨by omega, by omega⟩⟩ (fun c20 => ?_) (fun c20 => ?_)
        · refine aw_iconst cx 28 dX5_degree_27 rfl ?_
          refine aw_iadd cx 29 dX5_degree_28 rfl ?_
          refine aw_istore_n cx 30 2 dX5_degree_29 rfl rfl ⟨Nat.le_of_ble_eq_true rfl, Nat.le_of_ble_eq_true rfl⟩ rfl ?_
          dsimp only [List.set]
          refine aw_iinc cx 33 dX5_degree_30 rfl rfl (Nat.le_of_ble_eq_true rfl) rfl ?_
          dsimp only [List.set]
          refine aw_goto cx 4 dX5_degree_33 (by decide) ?_
          exact ih4 (b + 1) _ (by omega) ⟨by omega, by omega⟩ (by rw [dg_s hb.1]; first | (rw [if_pos (by omega)]; omega) | (rw [if_neg (by omega)]; omega))
        · refine aw_iconst cx 24 dX5_degree_23 rfl ?_
          refine aw_goto cx 28 dX5_degree_24 (by decide) ?_
          refine aw_iadd cx 29 dX5_degree_28 rfl ?_
          refine aw_istore_n cx 30 2 dX5_degree_29 rfl rfl ⟨Nat.le_of_ble_eq_true rfl, Nat.le_of_ble_eq_true rfl⟩ rfl ?_
          dsimp only [List.set]
          refine aw_iinc cx 33 dX5_degree_30 rfl rfl (Nat.le_of_ble_eq_true rfl) rfl ?_
          dsimp only [List.set]
          refine aw_goto cx 4 dX5_degree_33 (by decide) ?_
          exact ih4 (b + 1) _ (by omega) ⟨by omega, by omega⟩ (by rw [dg_s hb.1]; first | (rw [if_pos (by omega)]; omega) | (rw [if_neg (by omega)]; omega))
  exact lp4 (n.toNat + 1) 0 0 (by omega) ⟨by omega, by omega⟩ rfl
set_option maxRecDepth 100000 in
set_option maxHeartbeats 4000000 in
theorem s_X5_isColour {h : AH} {Q : Option AV → AH → Prop} {n tr : Int} {C K V A B L D T U : Int → Int} {g : Gr} (hn : 1 ≤ n ∧ n ≤ 8) (hA : ag n C g) (hg : rgn n g) {i : Int} (hi : R32 i) (k : ∀ v, ((v = 1 ∧ 0 ≤ i ∧ i < rk n g) ∨ (v = 0 ∧ ¬ (0 ≤ i ∧ i < rk n g))) → Q (some (vI v)) (hmd h n tr C K V A B L D T U)) : MC mX5_isColour [vR 20, vI i] (hmd h n tr C K V A B L D T U) Q := by
  refine mc_start mX5_isColour RX5 "isColour" ⟨rfl, rfl, by decide +kernel⟩ [some (vR 20), some (vI i)] ⟨0, rfl⟩ rfl (fun X cx hRm hNS hRet => ?_)
  have hR := rk_b (n := n) (g := g) (by omega) hg
  refine aw_iload_n cx 1 dX5_isColour_0 rfl rfl ?_
  refine aw_iconst cx 2 dX5_isColour_1 rfl ?_
  refine aw_aload_n cx 3 dX5_isColour_2 rfl rfl ?_
  refine aw_V0v cx 6 mX5_rank (ci := 4) dX5_isColour_3 rfl okmX5_rank lkX5_61 (by first | exact mm_0 | exact mm_1 | exact mm_2 | exact mm_3 | exact mm_4 | exact mm_5 | exact mm_6 | exact mm_7 | exact mm_8 | exact mm_9) ⟨rfl, by decide⟩ (zz_rc0 mX5_isColour hRm hNS rfl rfl) (Nat.le_of_ble_eq_true rfl) ?_
  refine s_X5_rank hn hA hg (fun v3 e3 => ⟨_, rfl, ?_⟩)
  refine aw_iconst cx 7 dX5_isColour_6 rfl ?_
  refine aw_isub cx 8 dX5_isColour_7 rfl ?_
  refine aw_S3v cx 11 mX5_in dX5_isColour_8 rfl okmX5_in lkX5_45 (zz_rc0 mX5_isColour hRm hNS rfl rfl) (Nat.le_of_ble_eq_true rfl) ?_
  refine s_X5_in (by first | assumption | exact ⟨by omega, by omega⟩) (by first | assumption | exact ⟨by omega, by omega⟩) (by first | assumption | exact ⟨by omega, by omega⟩) (fun v8 e8 => ⟨_, rfl, ?_⟩)
  have z8 : v8 = 0 ∨ v8 = 1 := by omega
  have y8 : v8 = 1 ∨ v8 = 0 := by omega
  refine aw_ireturn cx dX5_isColour_11 ?_
  refine hRet _ _ (by first | exact Or.inl rfl | exact Or.inr rfl | assumption) rfl ?_
  exact k _ (by omega)
set_option maxRecDepth 100000 in
set_option maxHeartbeats 4000000 in
theorem s_X5_isSet {h : AH} {Q : Option AV → AH → Prop} {n tr : Int} {C K V A B L D T U : Int → Int} {g : Gr} (hn : 1 ≤ n ∧ n ≤ 8) (hA : ag n C g) (hg : rgn n g) {i : Int} (hi : R32 i) (k : ∀ v, ((v = 1 ∧ 0 ≤ i ∧ i < zz_shl 1 (rk n g)) ∨ (v = 0 ∧ ¬ (0 ≤ i ∧ i < zz_shl 1 (rk n g)))) → Q (some (vI v)) (hmd h n tr C K V A B L D T U)) : MC mX5_isSet [vR 20, vI i] (hmd h n tr C K V A B L D T U) Q := by
  refine mc_start mX5_isSet RX5 "isSet" ⟨rfl, rfl, by decide +kernel⟩ [some (vR 20), some (vI i)] ⟨0, rfl⟩ rfl (fun X cx hRm hNS hRet => ?_)
  have hR := rk_b (n := n) (g := g) (by omega) hg
  have hs := shl_r (R := rk n g) ⟨by omega, by omega⟩
  refine aw_iload_n cx 1 dX5_isSet_0 rfl rfl ?_
  refine aw_iconst cx 2 dX5_isSet_1 rfl ?_
  refine aw_iconst cx 3 dX5_isSet_2 rfl ?_
  refine aw_aload_n cx 4 dX5_isSet_3 rfl rfl ?_
  refine aw_V0v cx 7 mX5_rank (ci := 4) dX5_isSet_4 rfl okmX5_rank lkX5_61 (by first | exact mm_0 | exact mm_1 | exact mm_2 | exact mm_3 | exact mm_4 | exact mm_5 | exact mm_6 | exact mm_7 | exact mm_8 | exact mm_9) ⟨rfl, by decide⟩ (zz_rc0 mX5_isSet hRm hNS rfl rfl) (Nat.le_of_ble_eq_true rfl) ?_
  refine s_X5_rank hn hA hg (fun v4 e4 => ⟨_, rfl, ?_⟩)
  subst e4
  refine aw_ishl cx 8 dX5_isSet_7 rfl ?_
  refine aw_iconst cx 9 dX5_isSet_8 rfl ?_
  refine aw_isub cx 10 dX5_isSet_9 rfl ?_
  refine aw_S3v cx 13 mX5_in dX5_isSet_10 rfl okmX5_in lkX5_45 (zz_rc0 mX5_isSet hRm hNS rfl rfl) (Nat.le_of_ble_eq_true rfl) ?_
  refine s_X5_in (by first | assumption | exact ⟨by omega, by omega⟩) (by first | assumption | exact ⟨by omega, by omega⟩) (by first | assumption | exact ⟨by omega, by omega⟩) (fun v10 e10 => ⟨_, rfl, ?_⟩)
  have z10 : v10 = 0 ∨ v10 = 1 := by omega
  have y10 : v10 = 1 ∨ v10 = 0 := by omega
  refine aw_ireturn cx dX5_isSet_13 ?_
  refine hRet _ _ (by first | exact Or.inl rfl | exact Or.inr rfl | assumption) rfl ?_
  exact k _ (by omega)
set_option maxRecDepth 100000 in
set_option maxHeartbeats 4000000 in
theorem s_X5_weights {h : AH} {Q : Option AV → AH → Prop} {n tr : Int} {C K V A B L D T U : Int → Int} {g : Gr} (hn : 1 ≤ n ∧ n ≤ 8) (hA : ag n C g) (hg : rgn n g) (hV : wtI V) (k : ∀ v, v = wt V (rk n g) → Q (some (vI v)) (hmd h n tr C K V A B L D T U)) : MC mX5_weights [vR 20] (hmd h n tr C K V A B L D T U) Q := by
  refine mc_start mX5_weights RX5 "weights" ⟨rfl, rfl, by decide +kernel⟩ [some (vR 20), none, none] ⟨2, rfl⟩ rfl (fun X cx hRm hNS hRet => ?_)
  have hR := rk_b (n := n) (g := g) (by omega) hg
  refine aw_iconst cx 1 dX5_weights_0 rfl ?_
  refine aw_istore_n cx 2 1 dX5_weights_1 rfl rfl ⟨Nat.le_of_ble_eq_true rfl, Nat.le_of_ble_eq_true rfl⟩ rfl ?_
  dsimp only [List.set]
  refine aw_iconst cx 3 dX5_weights_2 rfl ?_
  refine aw_istore_n cx 4 2 dX5_weights_3 rfl rfl ⟨Nat.le_of_ble_eq_true rfl, Nat.le_of_ble_eq_true rfl⟩ rfl ?_
  dsimp only [List.set]
  have lp4 : ∀ (kf : Nat) (i s : Int), (rk n g - i < (kf : Int)) → (0 ≤ i ∧ i ≤ rk n g) → s = wt V i → AW X 4 [some (vR 20), some (vI s), some (vI i)] [] (hmd h n tr C K V A B L D T U) := by
    intro kf
    induction kf with
    | zero =>
      intro i s hk hi hs
      exfalso
      omega
    | succ kf ih4 =>
      intro i s hk hi hs
      refine aw_iload_n cx 5 dX5_weights_4 rfl rfl ?_
      refine aw_aload_n cx 6 dX5_weights_5 rfl rfl ?_
      refine aw_V0v cx 9 mX5_rank (ci := 4) dX5_weights_6 rfl okmX5_rank lkX5_61 (by first | exact mm_0 | exact mm_1 | exact mm_2 | exact mm_3 | exact mm_4 | exact mm_5 | exact mm_6 | exact mm_7 | exact mm_8 | exact mm_9) ⟨rfl, by decide⟩ (zz_rc0 mX5_weights hRm hNS rfl rfl) (Nat.le_of_ble_eq_true rfl) ?_
      refine s_X5_rank hn hA hg (fun v6 e6 => ⟨_, rfl, ?_⟩)
      refine aw_icmp_ge cx 12 27 dX5_weights_9 rfl (by decide) ⟨⟨by omega, by omega⟩, ⟨by omega, by omega⟩⟩ (fun c9 => ?_) (fun c9 => ?_)
      · refine aw_iload_n cx 28 dX5_weights_27 rfl rfl ?_
        refine aw_ireturn cx dX5_weights_28 ?_
        refine hRet _ _ True.intro rfl ?_
        exact k _ (by rw [hs, show i = rk n g by omega])
      · refine aw_iload_n cx 13 dX5_weights_12 rfl rfl ?_
        refine aw_aload_n cx 14 dX5_weights_13 rfl rfl ?_
        refine aw_getfield cx 17 dX5_weights_14 rfl fdX5_20 (by first | exact mm_0 | exact mm_1 | exact mm_2 | exact mm_3 | exact mm_4 | exact mm_5 | exact mm_6 | exact mm_7 | exact mm_8 | exact mm_9) (by rfl) ?_
        refine aw_iload_n cx 18 dX5_weights_17 rfl rfl ?_
        refine aw_iaload cx 19 dX5_weights_18 rfl (by first | exact mm_0 | exact mm_1 | exact mm_2 | exact mm_3 | exact mm_4 | exact mm_5 | exact mm_6 | exact mm_7 | exact mm_8 | exact mm_9) ⟨by omega, by omega⟩ (by decide) ?_
        refine aw_iadd cx 20 dX5_weights_19 rfl ?_
        refine aw_istore_n cx 21 1 dX5_weights_20 rfl rfl ⟨Nat.le_of_ble_eq_true rfl, Nat.le_of_ble_eq_true rfl⟩ rfl ?_
        dsimp only [List.set]
        refine aw_iinc cx 24 dX5_weights_21 rfl rfl (Nat.le_of_ble_eq_true rfl) rfl ?_
        dsimp only [List.set]
        refine aw_goto cx 4 dX5_weights_24 (by decide) ?_
        exact ih4 (i + 1) _ (by omega) ⟨by omega, by omega⟩ (by rw [wt_s hi.1, hs])
  exact lp4 6 0 0 (by omega) ⟨by omega, by omega⟩ rfl
