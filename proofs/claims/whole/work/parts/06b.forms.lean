/-! a Colouring in the heap: the object o and its four rows o + 1 .. o + 4 -/
abbrev cCol (o : Nat) (n r f : Int) : AC := cO 0 [vR (o + 1), vR (o + 2), vR (o + 3), vR (o + 4), vI n, vI r, vI f]
def hcol (h : AH) (o : Nat) (C F Nu Co : Int → Int) (n r f : Int) : AH := zz_put (zz_put (zz_put (zz_put (zz_put h o (cCol o n r f)) (o + 1) (cA 64 C)) (o + 2) (cA 5 F)) (o + 3) (cA 125 Nu)) (o + 4) (cA 25 Co)
section
variable {h : AH} {o : Nat} {C F Nu Co C' F' Nu' Co' : Int → Int} {n r f n' r' f' : Int}
theorem hc_0 : zz_get (hcol h o C F Nu Co n r f) o = cCol o n r f := by
  unfold hcol
  rw [zz_gn (by omega), zz_gn (by omega), zz_gn (by omega), zz_gn (by omega), zz_gs]
theorem hc_1 : zz_get (hcol h o C F Nu Co n r f) (o + 1) = cA 64 C := by
  unfold hcol
  rw [zz_gn (by omega), zz_gn (by omega), zz_gn (by omega), zz_gs]
theorem hc_2 : zz_get (hcol h o C F Nu Co n r f) (o + 2) = cA 5 F := by
  unfold hcol
  rw [zz_gn (by omega), zz_gn (by omega), zz_gs]
theorem hc_3 : zz_get (hcol h o C F Nu Co n r f) (o + 3) = cA 125 Nu := by
  unfold hcol
  rw [zz_gn (by omega), zz_gs]
theorem hc_4 : zz_get (hcol h o C F Nu Co n r f) (o + 4) = cA 25 Co := by
  unfold hcol
  rw [zz_gs]
theorem hc_x {k : Nat} (hk : k < o ∨ o + 4 < k) : zz_get (hcol h o C F Nu Co n r f) k = zz_get h k := by
  unfold hcol
  rw [zz_gn (by omega), zz_gn (by omega), zz_gn (by omega), zz_gn (by omega), zz_gn (by omega)]
theorem hp_4 : zz_put (hcol h o C F Nu Co n r f) (o + 4) (cA 25 Co') = hcol h o C F Nu Co' n r f := by
  unfold hcol
  rw [zz_put_put]
theorem hp_3 : zz_put (hcol h o C F Nu Co n r f) (o + 3) (cA 125 Nu') = hcol h o C F Nu' Co n r f := by
  unfold hcol
  rw [zz_put_comm _ (o + 4) (o + 3) _ _ (by omega), zz_put_put]
theorem hp_2 : zz_put (hcol h o C F Nu Co n r f) (o + 2) (cA 5 F') = hcol h o C F' Nu Co n r f := by
  unfold hcol
  rw [zz_put_comm _ (o + 4) (o + 2) _ _ (by omega), zz_put_comm _ (o + 3) (o + 2) _ _ (by omega), zz_put_put]
theorem hp_1 : zz_put (hcol h o C F Nu Co n r f) (o + 1) (cA 64 C') = hcol h o C' F Nu Co n r f := by
  unfold hcol
  rw [zz_put_comm _ (o + 4) (o + 1) _ _ (by omega), zz_put_comm _ (o + 3) (o + 1) _ _ (by omega), zz_put_comm _ (o + 2) (o + 1) _ _ (by omega), zz_put_put]
theorem hp_0 : zz_put (hcol h o C F Nu Co n r f) o (cO 0 [vR (o + 1), vR (o + 2), vR (o + 3), vR (o + 4), vI n', vI r', vI f']) = hcol h o C F Nu Co n' r' f' := by
  unfold hcol
  rw [zz_put_comm _ (o + 4) o _ _ (by omega), zz_put_comm _ (o + 3) o _ _ (by omega), zz_put_comm _ (o + 2) o _ _ (by omega), zz_put_comm _ (o + 1) o _ _ (by omega), zz_put_put]
theorem hc_in (h0 : zz_get h o = cCol o n r f) (h1 : zz_get h (o + 1) = cA 64 C) (h2 : zz_get h (o + 2) = cA 5 F) (h3 : zz_get h (o + 3) = cA 125 Nu) (h4 : zz_get h (o + 4) = cA 25 Co) : h = hcol h o C F Nu Co n r f := by
  unfold hcol
  rw [zz_put_get h o _ h0, zz_put_get h (o + 1) _ h1, zz_put_get h (o + 2) _ h2, zz_put_get h (o + 3) _ h3, zz_put_get h (o + 4) _ h4]
end
/-- a Colouring that has measured itself -/
def msd (n : Int) (g : Gr) (C F Nu : Int → Int) (r f : Int) : Prop := (1 ≤ n ∧ n ≤ 8) ∧ ag n C g ∧ rgn n g ∧ r = rk n g ∧ f = fl n g ∧ (∀ c, 0 ≤ c → c < 5 → F c = fp n g c) ∧ (f = 0 → ∀ i j k, 0 ≤ i → i < 5 → 0 ≤ j → j < 5 → 0 ≤ k → k < rk n g → Nu (25 * k + 5 * i + j) = nu n g i j k)
/-! more of colours -/
theorem fp_b {n : Int} {g : Gr} (hn : 0 ≤ n ∧ n ≤ 8) (c : Int) : -1 ≤ fp n g c ∧ fp n g c < 64 := by
  by_cases e : fp n g c = -1
  · omega
  · obtain ⟨a, b, ha, hb, -, h1, -⟩ := fp_ex hn e
    omega
def tF (g : Gr) (c x y : Int) : Int := if g x y = c then 8 * x + y + 1 else 0
theorem fp_tF (n : Int) (g : Gr) (c : Int) : fp n g c = sc1 n (fun x => sc1 n (tF g c x)) - 1 := rfl
theorem sc1_0 (t : Int → Int) : sc1 0 t = 0 := rfl
theorem sc1_s {n : Int} (hn : 0 ≤ n) (t : Int → Int) : sc1 (n + 1) t = if sc1 n t = 0 then t n else sc1 n t := zi_s _ _ hn
theorem rv_eq {n : Int} {g : Gr} {C : Int → Int} (hn : 0 ≤ n ∧ n ≤ 8) (hA : ag n C g) (c : Int) : (if fp n g c = -1 then 0 else C (8 * (fp n g c % 8) + fp n g c / 8)) = rv n g c := by
  unfold rv
  by_cases e : fp n g c = -1
  · rw [if_pos e, if_pos e]
  · rw [if_neg e, if_neg e]
    obtain ⟨a, b, ha, hb, -, h1, h2, h3, -⟩ := fp_ex hn e
    rw [h2, h3]
    exact hA b a hb.1 hb.2 ha.1 ha.2
theorem tA_0 {g : Gr} {a b : Int} (h : (g a b = 0) ↔ (a = b)) : tA g a b = 0 := if_pos h
theorem tA_1 {g : Gr} {a b : Int} (h : ¬ ((g a b = 0) ↔ (a = b))) : tA g a b = 100 + 10 * a + b := if_neg h
theorem tC_0 {n : Int} {g : Gr} {a b : Int} (h : g b a = rv n g (g a b)) : tC n g a b = 0 := if_pos h
theorem tC_1 {n : Int} {g : Gr} {a b : Int} (h : ¬ g b a = rv n g (g a b)) : tC n g a b = 300 + 10 * a + b := if_neg h
theorem tD_0 {n : Int} {g : Gr} {a b : Int} (h : ∀ i j, 0 ≤ i → i < 5 → 0 ≤ j → j < 5 → cn n g a b i j = nu n g i j (g a b)) : tD n g a b = 0 :=
  if_pos (zl5_all.mpr fun i i0 i1 => zl5_all.mpr fun j j0 j1 => h i j i0 i1 j0 j1)
theorem tD_1 {n : Int} {g : Gr} {a b i j : Int} (hi : 0 ≤ i ∧ i < 5) (hj : 0 ≤ j ∧ j < 5) (h : cn n g a b i j ≠ nu n g i j (g a b)) : tD n g a b = 400 + 10 * a + b :=
  if_neg fun q => h (zl5_all.mp (zl5_all.mp q i hi.1 hi.2) j hj.1 hj.2)
theorem tB_0 {n : Int} {g : Gr} (h : ∀ c, 0 ≤ c → c < 5 → c < rk n g → fp n g c ≠ -1) : tB n g = 0 := if_pos (zl5_all.mpr h)
theorem tB_1 {n : Int} {g : Gr} {c : Int} (h0 : 0 ≤ c ∧ c < 5) (h1 : c < rk n g) (h2 : fp n g c = -1) : tB n g = 200 := if_neg fun q => (zl5_all (P := fun c => c < rk n g → fp n g c ≠ -1)).mp q c h0.1 h0.2 h1 h2
theorem tB_z {n : Int} {g : Gr} (h : tB n g = 0) : ∀ c, 0 ≤ c → c < 5 → c < rk n g → fp n g c ≠ -1 := by
  unfold tB at h
  by_cases q : ∀ c ∈ zl5, c < rk n g → fp n g c ≠ -1
  · exact zl5_all.mp q
  · rw [if_neg q] at h
    exact absurd h (by decide)
theorem tD_z {n : Int} {g : Gr} {a b : Int} (h0 : 0 ≤ a) (h1 : 0 ≤ b) (h : tD n g a b = 0) : ∀ i j, 0 ≤ i → i < 5 → 0 ≤ j → j < 5 → cn n g a b i j = nu n g i j (g a b) := by
  unfold tD at h
  by_cases q : ∀ i ∈ zl5, ∀ j ∈ zl5, cn n g a b i j = nu n g i j (g a b)
  · exact fun i j i0 i1 j0 j1 => zl5_all.mp (zl5_all.mp q i i0 i1) j j0 j1
  · rw [if_neg q] at h
    omega
theorem tA_z {g : Gr} {a b : Int} (h0 : 0 ≤ a) (h1 : 0 ≤ b) (h : tA g a b = 0) : (g a b = 0) ↔ (a = b) := by
  unfold tA at h
  by_cases q : (g a b = 0) ↔ (a = b)
  · exact q
  · rw [if_neg q] at h
    omega
theorem tC_z {n : Int} {g : Gr} {a b : Int} (h0 : 0 ≤ a) (h1 : 0 ≤ b) (h : tC n g a b = 0) : g b a = rv n g (g a b) := by
  unfold tC at h
  by_cases q : g b a = rv n g (g a b)
  · exact q
  · rw [if_neg q] at h
    omega
/-- an even colouring: what holds of it -/
theorem fl_z {n : Int} {g : Gr} (hn : 0 ≤ n) (h : fl n g = 0) : (∀ a b, 0 ≤ a → a < n → 0 ≤ b → b < n → ((g a b = 0) ↔ (a = b))) ∧ (∀ c, 0 ≤ c → c < 5 → c < rk n g → fp n g c ≠ -1) ∧ (∀ a b, 0 ≤ a → a < n → 0 ≤ b → b < n → g b a = rv n g (g a b)) ∧ (∀ a b, 0 ≤ a → a < n → 0 ≤ b → b < n → ∀ i j, 0 ≤ i → i < 5 → 0 ≤ j → j < 5 → cn n g a b i j = nu n g i j (g a b)) := by
  unfold fl at h
  by_cases e1 : sc n (tA g) ≠ 0
  · rw [if_pos e1] at h; exact absurd h e1
  rw [if_neg e1] at h
  by_cases e2 : tB n g ≠ 0
  · rw [if_pos e2] at h; exact absurd h e2
  rw [if_neg e2] at h
  by_cases e3 : sc n (tC n g) ≠ 0
  · rw [if_pos e3] at h; exact absurd h e3
  rw [if_neg e3] at h
  have f1 : sc n (tA g) = 0 := Decidable.of_not_not e1
  have f2 : tB n g = 0 := Decidable.of_not_not e2
  have f3 : sc n (tC n g) = 0 := Decidable.of_not_not e3
  exact ⟨fun a b a0 a1 b0 b1 => tA_z a0 b0 (sc_z hn f1 a b a0 a1 b0 b1), tB_z f2, fun a b a0 a1 b0 b1 => tC_z a0 b0 (sc_z hn f3 a b a0 a1 b0 b1), fun a b a0 a1 b0 b1 => tD_z a0 b0 (sc_z hn h a b a0 a1 b0 b1)⟩
theorem sc1_b {n B : Int} {t : Int → Int} (hn : 0 ≤ n) (hB : 0 ≤ B) (h : ∀ y, 0 ≤ y → y < n → 0 ≤ t y ∧ t y ≤ B) : 0 ≤ sc1 n t ∧ sc1 n t ≤ B := by
  by_cases e : sc1 n t = 0
  · omega
  · obtain ⟨b, b0, b1, b2, -⟩ := sc1_ex hn e
    rw [b2]
    exact h b b0 b1
theorem tF_b {g : Gr} {c x y : Int} (hx : 0 ≤ x ∧ x < 8) (hy : 0 ≤ y ∧ y < 8) : 0 ≤ tF g c x y ∧ tF g c x y ≤ 64 := by
  unfold tF
  split <;> omega
theorem ff_b {n a b : Int} {g : Gr} {c : Int} (hn : n ≤ 8) (ha : 0 ≤ a ∧ a < n) (hb : 0 ≤ b ∧ b ≤ n) : 0 ≤ (if sc1 a (fun x => sc1 n (tF g c x)) = 0 then sc1 b (tF g c a) else sc1 a (fun x => sc1 n (tF g c x))) ∧ (if sc1 a (fun x => sc1 n (tF g c x)) = 0 then sc1 b (tF g c a) else sc1 a (fun x => sc1 n (tF g c x))) ≤ 64 := by
  split
  · exact sc1_b hb.1 (by decide) fun y y0 y1 => tF_b ⟨ha.1, by omega⟩ ⟨y0, by omega⟩
  · exact sc1_b ha.1 (by decide) fun x x0 x1 => sc1_b (by omega) (by decide) fun y y0 y1 => tF_b ⟨x0, by omega⟩ ⟨y0, by omega⟩
theorem ff_new {a b v : Int} {g : Gr} {S Gb : Int → Int} (ha : 0 ≤ a) (hb : 0 ≤ b) (hq : ∀ c, 0 ≤ c → c < 5 → Gb c + 1 = if S c = 0 then sc1 b (tF g c a) else S c) (e : v = g a b) (h1 : Gb v = -1) : ∀ c, 0 ≤ c → c < 5 → zz_up Gb v (a * 8 + b) c + 1 = if S c = 0 then sc1 (b + 1) (tF g c a) else S c := by
  intro c c0 c1
  have q := hq c c0 c1
  rw [sc1_s hb]
  unfold zz_up
  by_cases ec : c = v
  · subst ec
    rw [if_pos rfl]
    by_cases hS0 : S c = 0
    · rw [if_pos hS0] at q ⊢
      rw [if_pos (by omega)]
      unfold tF
      rw [if_pos e.symm]
      omega
    · rw [if_neg hS0] at q
      omega
  · rw [if_neg ec]
    have et : tF g c a b = 0 := if_neg (by omega)
    by_cases hS0 : S c = 0
    · rw [if_pos hS0] at q ⊢
      rw [et]
      split <;> omega
    · rw [if_neg hS0] at q ⊢
      exact q
theorem ff_old {a b v : Int} {g : Gr} {S Gb : Int → Int} (hb : 0 ≤ b) (hq : ∀ c, 0 ≤ c → c < 5 → Gb c + 1 = if S c = 0 then sc1 b (tF g c a) else S c) (e : v = g a b) (h1 : ¬ Gb v = -1) : ∀ c, 0 ≤ c → c < 5 → Gb c + 1 = if S c = 0 then sc1 (b + 1) (tF g c a) else S c := by
  intro c c0 c1
  have q := hq c c0 c1
  rw [sc1_s hb]
  by_cases hS0 : S c = 0
  · rw [if_pos hS0] at q ⊢
    by_cases ec : c = v
    · subst ec
      rw [if_neg (by omega)]
      exact q
    · have et : tF g c a b = 0 := if_neg (by omega)
      rw [et]
      split <;> omega
  · rw [if_neg hS0] at q ⊢
    exact q
theorem rv_b {n : Int} {g : Gr} (hn : 0 ≤ n ∧ n ≤ 8) (hg : rgn n g) (c : Int) : 0 ≤ rv n g c ∧ rv n g c ≤ 4 := by
  unfold rv
  by_cases e : fp n g c = -1
  · rw [if_pos e]; decide
  · rw [if_neg e]
    obtain ⟨a, b, ha, hb, -, h1, h2, h3, -⟩ := fp_ex hn e
    rw [h2, h3]
    exact hg b a hb.1 hb.2 ha.1 ha.2
theorem fp_col {n : Int} {g : Gr} (hn : 0 ≤ n ∧ n ≤ 8) {c : Int} (e : fp n g c ≠ -1) : (0 ≤ fp n g c / 8 ∧ fp n g c / 8 < n) ∧ (0 ≤ fp n g c % 8 ∧ fp n g c % 8 < n) ∧ g (fp n g c / 8) (fp n g c % 8) = c := by
  obtain ⟨a, b, ha, hb, h0, h1, h2, h3, -⟩ := fp_ex hn e
  rw [h2, h3]
  exact ⟨ha, hb, h0⟩
/-- the first pair of a pair's colour isn't behind it -/
theorem fp_le {n : Int} {g : Gr} (hn : 0 ≤ n ∧ n ≤ 8) {a b : Int} (ha : 0 ≤ a ∧ a < n) (hb : 0 ≤ b ∧ b < n) (hne : fp n g (g a b) ≠ 8 * a + b) : fp n g (g a b) / 8 < a ∨ (fp n g (g a b) / 8 = a ∧ fp n g (g a b) % 8 < b) := by
  obtain ⟨x, y, hx, hy, h0, h1, h2, h3, h4⟩ := fp_ex hn (fp_occ hn ha hb)
  rw [h2, h3]
  have h5 := h4 a b ha.1 ha.2 hb.1 hb.2
  by_cases q : lx a b x y
  · exact absurd rfl (h5 q)
  · omega
theorem nu_b {n : Int} {g : Gr} (hn : 0 ≤ n) (i j k : Int) : 0 ≤ nu n g i j k ∧ nu n g i j k ≤ n := cn_b hn _ _ _ _ _
theorem up_at {C : Int → Int} {a b c x y : Int} (hb : 0 ≤ b ∧ b < 8) (hy : 0 ≤ y ∧ y < 8) : zz_up C (8 * a + b) c (8 * x + y) = if x = a ∧ y = b then c else C (8 * x + y) := by
  unfold zz_up
  by_cases e : x = a ∧ y = b
  · rw [if_pos e, if_pos (by omega)]
  · rw [if_neg e, if_neg (by omega)]
/-- as points are told anew -/
def gB : Gr := fun a b => if a = b then 0 else 1
theorem gB_r (n : Int) : rgn n gB := fun a b _ _ _ _ => by unfold gB; split <;> omega
/-- a map's digit for a colour -/
def dv (mp l : Int) : Int := if l = 1 then mp else if l = 2 then mp / 5 else if l = 3 then mp / 25 else mp / 125
def fz (mp c : Int) : Int := if c = 0 then 0 else dv mp c % 5
theorem dv_b {mp l : Int} (h : 0 ≤ mp) : 0 ≤ dv mp l ∧ dv mp l ≤ mp := by unfold dv; split <;> (try split) <;> (try split) <;> omega
theorem dv_s {mp l : Int} (h : 0 ≤ mp) (hl : 1 ≤ l ∧ l ≤ 3) : dv mp (l + 1) = dv mp l / 5 := by
  rcases (show l = 1 ∨ l = 2 ∨ l = 3 by omega) with rfl | rfl | rfl
  · show mp / 5 = mp / 5; rfl
  · show mp / 25 = mp / 5 / 5; omega
  · show mp / 125 = mp / 25 / 5; omega
theorem fz_b {mp c : Int} (h : 0 ≤ mp) : 0 ≤ fz mp c ∧ fz mp c ≤ 4 := by unfold fz; split <;> omega
def gF (mp : Int) (g : Gr) : Gr := fun a b => fz mp (g a b)
theorem gF_r {n mp : Int} {g : Gr} (h : 0 ≤ mp) : rgn n (gF mp g) := fun a b _ _ _ _ => fz_b h
/-- rings: the digits of a number by 5 -/
def dq (d s : Int) : Int := zi (fun _ r => r / 5) d s
theorem dq_s {d s : Int} (h : 0 ≤ s) : dq d (s + 1) = dq d s / 5 := zi_s _ _ h
theorem dq_b {d s : Int} (hd : 0 ≤ d) (h : 0 ≤ s) : 0 ≤ dq d s ∧ dq d s ≤ d := by
  refine zi_inv (P := fun _ r => 0 ≤ r ∧ r ≤ d) h ⟨hd, Int.le_refl _⟩ (fun i r h0 h1 h2 => ?_)
  omega
abbrev kR (n a b : Int) : Int := if a ≤ b then b - a else b - a + n
def gR (n d : Int) : Gr := fun a b => if a = b then 0 else dq d (kR n a b - 1) % 5
theorem gR_r {n d : Int} : rgn n (gR n d) := fun a b _ _ _ _ => by unfold gR; split <;> omega
