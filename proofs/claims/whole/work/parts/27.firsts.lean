theorem fullm0 : ∀ R : Fin 6, ∀ v : Fin 32, (∀ i : Fin 5, (R.val : Int) ≤ (i.val : Int) → ¬ bm (v.val : Int) (i.val : Int)) → ((v.val : Int) = zz_shl 1 (R.val : Int) - 1 ↔ ∀ i : Fin 5, (i.val : Int) < (R.val : Int) → bm (v.val : Int) (i.val : Int)) := by decide +kernel
theorem fullm {R v : Int} (hR : 0 ≤ R ∧ R < 6) (hv : 0 ≤ v ∧ v < 32) (hb : ∀ i, 0 ≤ i → i < 5 → R ≤ i → ¬ bm v i) : v = zz_shl 1 R - 1 ↔ ∀ i, 0 ≤ i → i < 5 → i < R → bm v i := by
  have h := m_f (N := 6) (P := fun R => ∀ v : Fin 32, (∀ i : Fin 5, R ≤ (i.val : Int) → ¬ bm (v.val : Int) (i.val : Int)) → ((v.val : Int) = zz_shl 1 R - 1 ↔ ∀ i : Fin 5, (i.val : Int) < R → bm (v.val : Int) (i.val : Int))) fullm0 hR
  have h2 := m_f (N := 32) (P := fun v => (∀ i : Fin 5, R ≤ (i.val : Int) → ¬ bm v (i.val : Int)) → (v = zz_shl 1 R - 1 ↔ ∀ i : Fin 5, (i.val : Int) < R → bm v (i.val : Int))) h hv
  have h3 := h2 (fun i => hb i.val (by omega) (by have := i.isLt; omega))
  refine h3.trans ⟨fun q i i0 i1 i2 => ?_, fun q i i2 => q i.val (by omega) (by have := i.isLt; omega) i2⟩
  have h4 := q ⟨i.toNat, by omega⟩
  have e : ((i.toNat : Nat) : Int) = i := by omega
  simp only [e] at h4
  exact h4 i2
theorem cn_z {n : Int} {g : Gr} {a b i j : Int} (hn : 0 ≤ n) (ha : 0 ≤ a ∧ a < n) (hb : 0 ≤ b ∧ b < n) (h : rk n g ≤ i ∨ rk n g ≤ j) : cn n g a b i j = 0 := by
  unfold cn
  refine zi_inv (P := fun _ r => r = 0) hn rfl (fun e r e0 e1 q => ?_)
  have h1 := rk_gt (n := n) (g := g) hn ha ⟨e0, e1⟩
  have h2 := rk_gt (n := n) (g := g) hn ⟨e0, e1⟩ hb
  rw [if_neg (by omega)]
  exact q
theorem tD_r {n : Int} {g : Gr} {a b : Int} (hn : 1 ≤ n ∧ n ≤ 8) (ha : 0 ≤ a ∧ a < n) (hb : 0 ≤ b ∧ b < n) (h : ∀ i j, 0 ≤ i → i < rk n g → 0 ≤ j → j < rk n g → cn n g a b i j = nu n g i j (g a b)) : tD n g a b = 0 := by
  refine tD_0 (fun i j i0 i1 j0 j1 => ?_)
  by_cases e : i < rk n g ∧ j < rk n g
  · exact h i j i0 e.1 j0 e.2
  · have f := fp_col (n := n) (g := g) ⟨by omega, by omega⟩ (fp_occ (n := n) (g := g) ⟨by omega, by omega⟩ ha hb)
    rw [cn_z (by omega) ha hb (by omega)]
    unfold nu
    rw [cn_z (by omega) f.1 f.2.1 (by omega)]
theorem rv_f {n : Int} {g : Gr} {c : Int} (h : fp n g c ≠ -1) : rv n g c = g (fp n g c % 8) (fp n g c / 8) := by
  unfold rv
  rw [if_neg h]
/-- first pairs kept -/
def FP (n : Int) (g : Gr) (A B : Int → Int) : Prop := ∀ c, 0 ≤ c → c < 5 → fp n g c ≠ -1 → A c = fp n g c / 8 ∧ B c = fp n g c % 8
def FS (n : Int) (g : Gr) (A B : Int → Int) (s a b : Int) : Prop := (0 ≤ s ∧ s < 32) ∧ (∀ c, 0 ≤ c → c < 5 → (bm s c ↔ ∃ x y, (0 ≤ x ∧ x < n) ∧ (0 ≤ y ∧ y < n) ∧ lx a b x y ∧ g x y = c)) ∧ ∀ x y, 0 ≤ x → x < n → 0 ≤ y → y < n → lx a b x y → (0 ≤ A (g x y) ∧ A (g x y) < n) ∧ (0 ≤ B (g x y) ∧ B (g x y) < n) ∧ g (A (g x y)) (B (g x y)) = g x y ∧ ¬ lx x y (A (g x y)) (B (g x y))
theorem FS_0 {n : Int} {g : Gr} {A B : Int → Int} : FS n g A B 0 (n - 1) (n - 1) := by
  refine ⟨by decide, fun c c0 c1 => ⟨fun q => absurd q (bm_0 ⟨c0, c1⟩), fun ⟨x, y, x0, y0, l, _⟩ => by exfalso; omega⟩, fun x y x0 x1 y0 y1 l => by exfalso; omega⟩
theorem FS_row {n : Int} {g : Gr} {A B : Int → Int} {s a : Int} (h : FS n g A B s a (-1)) : FS n g A B s (a - 1) (n - 1) := by
  obtain ⟨h1, h2, h3⟩ := h
  refine ⟨h1, fun c c0 c1 => (h2 c c0 c1).trans ⟨fun ⟨x, y, x0, y0, l, e⟩ => ⟨x, y, x0, y0, by omega, e⟩, fun ⟨x, y, x0, y0, l, e⟩ => ⟨x, y, x0, y0, by omega, e⟩⟩, fun x y x0 x1 y0 y1 l => h3 x y x0 x1 y0 y1 (by omega)⟩
theorem FS_s {n : Int} {g : Gr} {A B : Int → Int} {s a b v : Int} (hg : rgn n g) (ha : 0 ≤ a ∧ a < n) (hb : 0 ≤ b ∧ b < n) (h : FS n g A B s a b) (hv : v = g a b) : FS n g (zz_up A v a) (zz_up B v b) (zz_or s (zz_shl 1 v)) a (b - 1) := by
  obtain ⟨h1, h2, h3⟩ := h
  have w := hg a b ha.1 ha.2 hb.1 hb.2
  have hs := shl_b (k := v) ⟨by omega, by omega⟩
  refine ⟨or_b h1 hs, fun c c0 c1 => ?_, fun x y x0 x1 y0 y1 l => ?_⟩
  · rw [bm_or h1 hs ⟨c0, c1⟩, bm_shl ⟨by omega, by omega⟩ ⟨c0, c1⟩, h2 c c0 c1]
    constructor
    · rintro (⟨x, y, x0, y0, l, e⟩ | e)
      · exact ⟨x, y, x0, y0, by omega, e⟩
      · exact ⟨a, b, ha, hb, by omega, by omega⟩
    · rintro ⟨x, y, x0, y0, l, e⟩
      by_cases q : x = a ∧ y = b
      · right
        rw [← e, hv, q.1, q.2]
      · exact Or.inl ⟨x, y, x0, y0, by omega, e⟩
  · unfold zz_up
    by_cases e : g x y = v
    · rw [if_pos e, if_pos e]
      exact ⟨ha, hb, by omega, by omega⟩
    · rw [if_neg e, if_neg e]
      refine h3 x y x0 x1 y0 y1 ?_
      have q : ¬ (x = a ∧ y = b) := fun q => e (by rw [q.1, q.2, hv])
      omega
theorem FS_e {n : Int} {g : Gr} {A B : Int → Int} {s : Int} (hn : 1 ≤ n ∧ n ≤ 8) (hg : rgn n g) (h : FS n g A B s (-1) (n - 1)) : FP n g A B ∧ ((s = zz_shl 1 (rk n g) - 1 ∧ ∀ c, 0 ≤ c → c < 5 → c < rk n g → fp n g c ≠ -1) ∨ (s ≠ zz_shl 1 (rk n g) - 1 ∧ tB n g = 200)) := by
  obtain ⟨h1, h2, h3⟩ := h
  have hR := rk_b (n := n) (g := g) (by omega) hg
  have oc : ∀ c, 0 ≤ c → c < 5 → (bm s c ↔ fp n g c ≠ -1) := fun c c0 c1 => by
    rw [h2 c c0 c1]
    constructor
    · rintro ⟨x, y, x0, y0, _, e⟩
      rw [← e]
      exact fp_occ ⟨by omega, by omega⟩ x0 y0
    · intro q
      obtain ⟨a, b, a0, b0, e, _⟩ := fp_ex ⟨by omega, by omega⟩ q
      exact ⟨a, b, a0, b0, by omega, e⟩
  refine ⟨fun c c0 c1 q => ?_, ?_⟩
  · obtain ⟨a, b, a0, b0, e, e1, e2, e3, hz⟩ := fp_ex ⟨by omega, by omega⟩ q
    obtain ⟨k0, k1, k2, k3⟩ := h3 a b a0.1 a0.2 b0.1 b0.2 (by omega)
    rw [e] at k0 k1 k2 k3
    have k4 : ¬ lx (A c) (B c) a b := fun l => hz _ _ k0.1 k0.2 k1.1 k1.2 l k2
    omega
  · have f := fullm (R := rk n g) (v := s) ⟨by omega, by omega⟩ h1 (fun i i0 i1 i2 q => by
      obtain ⟨x, y, x0, y0, _, e⟩ := (h2 i i0 i1).mp q
      have := rk_gt (n := n) (g := g) (by omega) x0 y0
      omega)
    by_cases q : s = zz_shl 1 (rk n g) - 1
    · exact Or.inl ⟨q, fun c c0 c1 c2 => (oc c c0 c1).mp (f.mp q c c0 c1 c2)⟩
    · refine Or.inr ⟨q, ?_⟩
      apply Classical.byContradiction
      intro w
      refine q (f.mpr fun c c0 c1 c2 => (oc c c0 c1).mpr fun e => w (tB_1 ⟨c0, c1⟩ c2 e))
abbrev zzA (n : Int) (t : Int → Int → Int) (a b : Int) : Prop := ∀ x y, 0 ≤ x → x < n → 0 ≤ y → y < n → lx x y a b → t x y = 0
theorem zzA_all {n : Int} {t : Int → Int → Int} (h : zzA n t n 0) : ∀ x y, 0 ≤ x → x < n → 0 ≤ y → y < n → t x y = 0 := fun x y x0 x1 y0 y1 => h x y x0 x1 y0 y1 (Or.inl x1)
theorem zzA_s {n : Int} {t : Int → Int → Int} {a b : Int} (h : zzA n t a b) (h1 : t a b = 0) : zzA n t a (b + 1) := fun x y x0 x1 y0 y1 l => by
  by_cases e : x = a ∧ y = b
  · rw [e.1, e.2, h1]
  · exact h x y x0 x1 y0 y1 (by omega)
theorem zzA_row {n : Int} {t : Int → Int → Int} {a b : Int} (h : zzA n t a b) (hb : n ≤ b) : zzA n t (a + 1) 0 := fun x y x0 x1 y0 y1 l => h x y x0 x1 y0 y1 (by omega)
theorem zzA_0 {n : Int} {t : Int → Int → Int} : zzA n t 0 0 := fun x y x0 x1 y0 y1 l => by exfalso; omega
section
variable {n a b : Int} {g : Gr}
theorem flA (ha : 0 ≤ a ∧ a < n) (hb : 0 ≤ b ∧ b < n) (hz : zzA n (tA g) a b) (h : tA g a b = 100 + 10 * a + b) : fl n g = 100 + 10 * a + b := by
  have e : sc n (tA g) = 100 + 10 * a + b := (sc_first ha hb hz (by omega)).trans h
  unfold fl
  rw [if_pos (by omega), e]
theorem flB (hn : 0 ≤ n) (hz : zzA n (tA g) n 0) (h : tB n g = 200) : fl n g = 200 := by
  have e1 := sc_zero hn (zzA_all hz)
  unfold fl
  rw [if_neg (by omega), if_pos (by omega), h]
theorem flC (ha : 0 ≤ a ∧ a < n) (hb : 0 ≤ b ∧ b < n) (hz : zzA n (tA g) n 0) (h0 : tB n g = 0) (hy : zzA n (tC n g) a b) (h : tC n g a b = 300 + 10 * a + b) : fl n g = 300 + 10 * a + b := by
  have e1 := sc_zero (by omega) (zzA_all hz)
  have e : sc n (tC n g) = 300 + 10 * a + b := (sc_first ha hb hy (by omega)).trans h
  unfold fl
  rw [if_neg (by omega), if_neg (by omega), if_pos (by omega), e]
theorem flD (ha : 0 ≤ a ∧ a < n) (hb : 0 ≤ b ∧ b < n) (hz : zzA n (tA g) n 0) (h0 : tB n g = 0) (hy : zzA n (tC n g) n 0) (hx : zzA n (tD n g) a b) (h : tD n g a b = 400 + 10 * a + b) : fl n g = 400 + 10 * a + b := by
  have e1 := sc_zero (by omega) (zzA_all hz)
  have e2 := sc_zero (by omega) (zzA_all hy)
  have e : sc n (tD n g) = 400 + 10 * a + b := (sc_first ha hb hx (by omega)).trans h
  unfold fl
  rw [if_neg (by omega), if_neg (by omega), if_neg (by omega), e]
theorem fl0 (hn : 0 ≤ n) (hz : zzA n (tA g) n 0) (h0 : tB n g = 0) (hy : zzA n (tC n g) n 0) (hx : zzA n (tD n g) n 0) : fl n g = 0 := by
  have e1 := sc_zero hn (zzA_all hz)
  have e2 := sc_zero hn (zzA_all hy)
  have e3 := sc_zero hn (zzA_all hx)
  unfold fl
  rw [if_neg (by omega), if_neg (by omega), if_neg (by omega), e3]
end
set_option maxRecDepth 100000 in
set_option maxHeartbeats 4000000 in
theorem s_X5_firsts {h : AH} {Q : Option AV → AH → Prop} {n tr : Int} {C K V A B L D T U : Int → Int} {g : Gr} (hn : 1 ≤ n ∧ n ≤ 8) (hA : ag n C g) (hg : rgn n g) (k : ∀ v A' B', ((v = 1 ∧ ∀ c, 0 ≤ c → c < 5 → c < rk n g → fp n g c ≠ -1) ∨ (v = 0 ∧ tB n g = 200)) → FP n g A' B' → Q (some (vI v)) (hmd h n tr C K V A' B' L D T U)) : MC mX5_firsts [vR 20] (hmd h n tr C K V A B L D T U) Q := by
  refine mc_start mX5_firsts RX5 "firsts" ⟨rfl, rfl, by decide +kernel⟩ [some (vR 20), none, none, none, none] ⟨4, rfl⟩ rfl (fun X cx hRm hNS hRet => ?_)
  have hR := rk_b (n := n) (g := g) (by omega) hg
  refine aw_aload_n cx 1 dX5_firsts_0 rfl rfl ?_
  refine aw_V0v cx 4 mX5_rank (ci := 4) dX5_firsts_1 rfl okmX5_rank lkX5_61 (by first | exact mm_0 | exact mm_1 | exact mm_2 | exact mm_3 | exact mm_4 | exact mm_5 | exact mm_6 | exact mm_7 | exact mm_8 | exact mm_9) ⟨rfl, by decide⟩ (zz_rc0 mX5_firsts hRm hNS rfl rfl) (Nat.le_of_ble_eq_true rfl) ?_
  refine s_X5_rank hn hA hg (fun v1 e1 => ⟨_, rfl, ?_⟩)
  refine aw_istore_n cx 5 1 dX5_firsts_4 rfl rfl ⟨Nat.le_of_ble_eq_true rfl, Nat.le_of_ble_eq_true rfl⟩ rfl ?_
  dsimp only [List.set]
  subst e1
  refine aw_iconst cx 6 dX5_firsts_5 rfl ?_
  refine aw_istore_n cx 7 2 dX5_firsts_6 rfl rfl ⟨Nat.le_of_ble_eq_true rfl, Nat.le_of_ble_eq_true rfl⟩ rfl ?_
  dsimp only [List.set]
  refine aw_aload_n cx 8 dX5_firsts_7 rfl rfl ?_
  refine aw_getfield cx 11 dX5_firsts_8 rfl fdX5_7 (by first | exact mm_0 | exact mm_1 | exact mm_2 | exact mm_3 | exact mm_4 | exact mm_5 | exact mm_6 | exact mm_7 | exact mm_8 | exact mm_9) (by rfl) ?_
  refine aw_iconst cx 12 dX5_firsts_11 rfl ?_
  refine aw_isub cx 13 dX5_firsts_12 rfl ?_
  refine aw_istore_n cx 14 3 dX5_firsts_13 rfl rfl ⟨Nat.le_of_ble_eq_true rfl, Nat.le_of_ble_eq_true rfl⟩ rfl ?_
  dsimp only [List.set]
  have lp14 : ∀ (kf : Nat) (a s : Int) (A1 B1 : Int → Int), (a + 1 < (kf : Int)) → (-1 ≤ a ∧ a < n) → FS n g A1 B1 s a (n - 1) → AW X 14 [some (vR 20), some (vI (rk n g)), some (vI s), some (vI a), none] [] (hmd h n tr C K V A1 B1 L D T U) := by
    intro kf
    induction kf with
    | zero =>
      intro a s A1 B1 hk ha hF
      exfalso
      omega
    | succ kf ih14 =>
      intro a s A1 B1 hk ha hF
      refine aw_iload_n cx 15 dX5_firsts_14 rfl rfl ?_
      refine aw_if_lt cx 18 82 dX5_firsts_15 rfl (by decide) ⟨by omega, by omega⟩ (fun c15 => ?_) (fun c15 => ?_)
      · rw [show a = -1 by omega] at hF
        obtain ⟨hP, hP2⟩ := FS_e hn hg hF
        refine aw_iload_n cx 83 dX5_firsts_82 rfl rfl ?_
        refine aw_iconst cx 84 dX5_firsts_83 rfl ?_
        refine aw_iload_n cx 85 dX5_firsts_84 rfl rfl ?_
        refine aw_ishl cx 86 dX5_firsts_85 rfl ?_
        refine aw_iconst cx 87 dX5_firsts_86 rfl ?_
        refine aw_isub cx 88 dX5_firsts_87 rfl ?_
        refine aw_icmp_ne cx 91 95 dX5_firsts_88 rfl (by decide) ⟨⟨by have := hF.1; omega, by have := hF.1; omega⟩, ⟨by have := shl_r (R := rk n g) ⟨by omega, by omega⟩; omega, by have := shl_r (R := rk n g) ⟨by omega, by omega⟩; omega⟩⟩ (fun c88 => ?_) (fun c88 => ?_)
        · refine aw_iconst cx 96 dX5_firsts_95 rfl ?_
          refine aw_ireturn cx dX5_firsts_96 ?_
          refine hRet _ _ (by first | exact Or.inl rfl | exact Or.inr rfl | assumption) rfl ?_
          first
          | exact k _ _ _ (Or.inl ⟨rfl, by rcases hP2 with ⟨_, w⟩ | ⟨w, _⟩; exact w; exfalso; omega⟩) hP
          | exact k _ _ _ (Or.inr ⟨rfl, by rcases hP2 with ⟨w, _⟩ | ⟨_, w⟩; exfalso; omega; exact w⟩) hP
        · refine aw_iconst cx 92 dX5_firsts_91 rfl ?_
          refine aw_goto cx 96 dX5_firsts_92 (by decide) ?_
          refine aw_ireturn cx dX5_firsts_96 ?_
          refine hRet _ _ (by first | exact Or.inl rfl | exact Or.inr rfl | assumption) rfl ?_
          first
          | exact k _ _ _ (Or.inl ⟨rfl, by rcases hP2 with ⟨_, w⟩ | ⟨w, _⟩; exact w; exfalso; omega⟩) hP
          | exact k _ _ _ (Or.inr ⟨rfl, by rcases hP2 with ⟨w, _⟩ | ⟨_, w⟩; exfalso; omega; exact w⟩) hP
      · refine aw_aload_n cx 19 dX5_firsts_18 rfl rfl ?_
        refine aw_getfield cx 22 dX5_firsts_19 rfl fdX5_7 (by first | exact mm_0 | exact mm_1 | exact mm_2 | exact mm_3 | exact mm_4 | exact mm_5 | exact mm_6 | exact mm_7 | exact mm_8 | exact mm_9) (by rfl) ?_
        refine aw_iconst cx 23 dX5_firsts_22 rfl ?_
        refine aw_isub cx 24 dX5_firsts_23 rfl ?_
        refine aw_istore cx 26 dX5_firsts_24 rfl ⟨Nat.le_of_ble_eq_true rfl, Nat.le_of_ble_eq_true rfl⟩ rfl ?_
        dsimp only [List.set]
        have lp26 : ∀ (kf : Nat) (b s1 : Int) (A2 B2 : Int → Int), (b + 1 < (kf : Int)) → (-1 ≤ b ∧ b < n) → FS n g A2 B2 s1 a b → AW X 26 [some (vR 20), some (vI (rk n g)), some (vI s1), some (vI a), some (vI b)] [] (hmd h n tr C K V A2 B2 L D T U) := by
          intro kf
          induction kf with
          | zero =>
            intro b s1 A2 B2 hk hb hF1
            exfalso
            omega
          | succ kf ih26 =>
            intro b s1 A2 B2 hk hb hF1
            refine aw_iload cx 28 dX5_firsts_26 rfl rfl ?_
            refine aw_if_lt cx 31 76 dX5_firsts_28 rfl (by decide) ⟨by omega, by omega⟩ (fun c28 => ?_) (fun c28 => ?_)
            · refine aw_iinc cx 79 dX5_firsts_76 rfl rfl (Nat.le_of_ble_eq_true rfl) rfl ?_
              dsimp only [List.set]
              refine aw_goto cx 14 dX5_firsts_79 (by decide) ?_
              exact aw_weak (ih14 (a + -1) s1 A2 B2 (by omega) ⟨by omega, by omega⟩ (FS_row (by rw [show (-1 : Int) = b by omega]; exact hF1))) (by simp [zz_le])
            · refine aw_aload_n cx 32 dX5_firsts_31 rfl rfl ?_
              refine aw_getfield cx 35 dX5_firsts_32 rfl fdX5_23 (by first | exact mm_0 | exact mm_1 | exact mm_2 | exact mm_3 | exact mm_4 | exact mm_5 | exact mm_6 | exact mm_7 | exact mm_8 | exact mm_9) (by rfl) ?_
              refine aw_aload_n cx 36 dX5_firsts_35 rfl rfl ?_
              refine aw_iload_n cx 37 dX5_firsts_36 rfl rfl ?_
              refine aw_iload cx 39 dX5_firsts_37 rfl rfl ?_
              refine aw_V2v cx 42 mX5_hue (ci := 4) dX5_firsts_39 rfl okmX5_hue lkX5_53 (by first | exact mm_0 | exact mm_1 | exact mm_2 | exact mm_3 | exact mm_4 | exact mm_5 | exact mm_6 | exact mm_7 | exact mm_8 | exact mm_9) ⟨rfl, by decide⟩ (zz_rc0 mX5_firsts hRm hNS rfl rfl) (Nat.le_of_ble_eq_true rfl) ?_
              refine s_X5_hue ⟨by omega, by omega⟩ ⟨by omega, by omega⟩ (fun v39 e39 => ⟨_, rfl, ?_⟩)
              have q39 := hA a b (by omega) (by omega) (by omega) (by omega)
              have w39 := hg a b (by omega) (by omega) (by omega) (by omega)
              refine aw_iload_n cx 43 dX5_firsts_42 rfl rfl ?_
              refine aw_iastore cx 44 dX5_firsts_43 rfl (by first | exact mm_0 | exact mm_1 | exact mm_2 | exact mm_3 | exact mm_4 | exact mm_5 | exact mm_6 | exact mm_7 | exact mm_8 | exact mm_9) ⟨by omega, by omega⟩ (by decide) ?_
              first | rw [my_0] | rw [my_1] | rw [my_2] | rw [my_3] | rw [my_4] | rw [my_5] | rw [my_6] | rw [my_7] | rw [my_8] | rw [my_9]
              refine aw_aload_n cx 45 dX5_firsts_44 rfl rfl ?_
              refine aw_getfield cx 48 dX5_firsts_45 rfl fdX5_26 (by first | exact mm_0 | exact mm_1 | exact mm_2 | exact mm_3 | exact mm_4 | exact mm_5 | exact mm_6 | exact mm_7 | exact mm_8 | exact mm_9) (by rfl) ?_
              refine aw_aload_n cx 49 dX5_firsts_48 rfl rfl ?_
              refine aw_iload_n cx 50 dX5_firsts_49 rfl rfl ?_
              refine aw_iload cx 52 dX5_firsts_50 rfl rfl ?_
              refine aw_V2v cx 55 mX5_hue (ci := 4) dX5_firsts_52 rfl okmX5_hue lkX5_53 (by first | exact mm_0 | exact mm_1 | exact mm_2 | exact mm_3 | exact mm_4 | exact mm_5 | exact mm_6 | exact mm_7 | exact mm_8 | exact mm_9) ⟨rfl, by decide⟩ (zz_rc0 mX5_firsts hRm hNS rfl rfl) (Nat.le_of_ble_eq_true rfl) ?_
              refine s_X5_hue ⟨by omega, by omega⟩ ⟨by omega, by omega⟩ (fun v52 e52 => ⟨_, rfl, ?_⟩)
              refine aw_iload cx 57 dX5_firsts_55 rfl rfl ?_
              refine aw_iastore cx 58 dX5_firsts_57 rfl (by first | exact mm_0 | exact mm_1 | exact mm_2 | exact mm_3 | exact mm_4 | exact mm_5 | exact mm_6 | exact mm_7 | exact mm_8 | exact mm_9) ⟨by omega, by omega⟩ (by decide) ?_
              first | rw [my_0] | rw [my_1] | rw [my_2] | rw [my_3] | rw [my_4] | rw [my_5] | rw [my_6] | rw [my_7] | rw [my_8] | rw [my_9]
              refine aw_iload_n cx 59 dX5_firsts_58 rfl rfl ?_
              refine aw_iconst cx 60 dX5_firsts_59 rfl ?_
              refine aw_aload_n cx 61 dX5_firsts_60 rfl rfl ?_
              refine aw_iload_n cx 62 dX5_firsts_61 rfl rfl ?_
              refine aw_iload cx 64 dX5_firsts_62 rfl rfl ?_
              refine aw_V2v cx 67 mX5_hue (ci := 4) dX5_firsts_64 rfl okmX5_hue lkX5_53 (by first | exact mm_0 | exact mm_1 | exact mm_2 | exact mm_3 | exact mm_4 | exact mm_5 | exact mm_6 | exact mm_7 | exact mm_8 | exact mm_9) ⟨rfl, by decide⟩ (zz_rc0 mX5_firsts hRm hNS rfl rfl) (Nat.le_of_ble_eq_true rfl) ?_
              refine s_X5_hue ⟨by omega, by omega⟩ ⟨by omega, by omega⟩ (fun v64 e64 => ⟨_, rfl, ?_⟩)
              refine aw_ishl cx 68 dX5_firsts_67 rfl ?_
              refine aw_ior cx 69 dX5_firsts_68 rfl ?_
              refine aw_istore_n cx 70 2 dX5_firsts_69 rfl rfl ⟨Nat.le_of_ble_eq_true rfl, Nat.le_of_ble_eq_true rfl⟩ rfl ?_
              dsimp only [List.set]
              refine aw_iinc cx 73 dX5_firsts_70 rfl rfl (Nat.le_of_ble_eq_true rfl) rfl ?_
              dsimp only [List.set]
              refine aw_goto cx 26 dX5_firsts_73 (by decide) ?_
              exact ih26 (b + -1) _ _ _ (by omega) ⟨by omega, by omega⟩ (by rw [e39, e52, e64, q39]; exact FS_s hg ⟨by omega, by omega⟩ ⟨by omega, by omega⟩ hF1 rfl)
        exact lp26 (n.toNat + 1) (n - 1) s A1 B1 (by omega) ⟨by omega, by omega⟩ hF
  exact lp14 (n.toNat + 1) (n - 1) 0 A B (by omega) ⟨by omega, by omega⟩ FS_0
