/-! pure words: loops, scans, colours, ranks, counts -/
def zi {α : Type} (f : Int → α → α) (s : α) (a : Int) : α := Nat.rec (motive := fun _ => α) s (fun i r => f (i : Int) r) a.toNat
theorem zi_0 {α : Type} (f : Int → α → α) (s : α) : zi f s 0 = s := rfl
theorem zi_s {α : Type} (f : Int → α → α) (s : α) {a : Int} (h : 0 ≤ a) : zi f s (a + 1) = f a (zi f s a) := by
  have e : (a + 1).toNat = a.toNat + 1 := by omega
  unfold zi
  rw [e]
  show f (a.toNat : Int) _ = f a _
  rw [Int.toNat_of_nonneg h]
theorem zi_inv {α : Type} {f : Int → α → α} {s : α} (P : Int → α → Prop) {n : Int} (hn : 0 ≤ n) (h0 : P 0 s) (hs : ∀ i r, 0 ≤ i → i < n → P i r → P (i + 1) (f i r)) : P n (zi f s n) := by
  have key : ∀ k : Nat, (k : Int) ≤ n → P (k : Int) (zi f s (k : Int)) := by
    intro k
    induction k with
    | zero => intro _; exact h0
    | succ k ih =>
      intro hk
      have h1 : ((k + 1 : Nat) : Int) = (k : Int) + 1 := by omega
      rw [h1, zi_s f s (by omega)]
      exact hs _ _ (by omega) (by omega) (ih (by omega))
  have := key n.toNat (by omega)
  rwa [Int.toNat_of_nonneg hn] at this
theorem zi_congr {α : Type} {f g : Int → α → α} {s : α} {n : Int} (h : ∀ i r, 0 ≤ i → i < n → f i r = g i r) : zi f s n = zi g s n := by
  by_cases hn : 0 ≤ n
  · refine zi_inv (P := fun i r => r = zi g s i) hn rfl (fun i r h0 h1 h2 => ?_)
    rw [zi_s g s h0, h i r h0 h1, h2]
  · have e : n.toNat = 0 := by omega
    unfold zi
    rw [e]
    rfl
/-- the first of n values that is not 0 -/
def sc1 (n : Int) (t : Int → Int) : Int := zi (fun b r => if r = 0 then t b else r) 0 n
theorem sc1_zero {n : Int} {t : Int → Int} (hn : 0 ≤ n) (h : ∀ y, 0 ≤ y → y < n → t y = 0) : sc1 n t = 0 := by
  refine zi_inv (P := fun _ r => r = 0) hn rfl (fun i r h0 h1 h2 => ?_)
  rw [if_pos h2]
  exact h i h0 h1
theorem sc1_first {n : Int} {t : Int → Int} {b : Int} (h0 : 0 ≤ b) (h1 : b < n) (hz : ∀ y, 0 ≤ y → y < b → t y = 0) (ht : t b ≠ 0) : sc1 n t = t b := by
  have := zi_inv (f := fun b r => if r = 0 then t b else r) (s := 0) (P := fun i r => (i ≤ b ∧ r = 0) ∨ (b < i ∧ r = t b)) (n := n) (by omega) (Or.inl ⟨h0, rfl⟩) (fun i r g0 g1 g2 => by
    rcases g2 with ⟨g2, g3⟩ | ⟨g2, g3⟩
    · rw [if_pos g3]
      by_cases e : i = b
      · subst e; exact Or.inr ⟨by omega, rfl⟩
      · exact Or.inl ⟨by omega, hz i g0 (by omega)⟩
    · rw [if_neg (by rw [g3]; exact ht)]
      exact Or.inr ⟨by omega, g3⟩)
  rcases this with ⟨g, _⟩ | ⟨_, g⟩
  · omega
  · exact g
theorem sc1_ex {n : Int} {t : Int → Int} (hn : 0 ≤ n) (h : sc1 n t ≠ 0) : ∃ b, 0 ≤ b ∧ b < n ∧ sc1 n t = t b ∧ ∀ y, 0 ≤ y → y < b → t y = 0 := by
  have := zi_inv (f := fun b r => if r = 0 then t b else r) (s := 0) (P := fun i r => (r = 0 ∧ ∀ y, 0 ≤ y → y < i → t y = 0) ∨ (r ≠ 0 ∧ ∃ b, 0 ≤ b ∧ b < i ∧ r = t b ∧ ∀ y, 0 ≤ y → y < b → t y = 0)) (n := n) hn (Or.inl ⟨rfl, fun y a b => by omega⟩) (fun i r g0 g1 g2 => by
    rcases g2 with ⟨g2, g3⟩ | ⟨g2, b, g3, g4, g5, g6⟩
    · simp only [g2, if_true]
      by_cases e : t i = 0
      · refine Or.inl ⟨e, fun y y0 y1 => ?_⟩
        by_cases e2 : y = i
        · rw [e2]; exact e
        · exact g3 y y0 (by omega)
      · exact Or.inr ⟨e, i, g0, by omega, rfl, g3⟩
    · simp only [if_neg g2]
      exact Or.inr ⟨g2, b, g3, by omega, g5, g6⟩)
  rcases this with ⟨g, _⟩ | ⟨_, b, g1, g2, g3, g4⟩
  · exact absurd g h
  · exact ⟨b, g1, g2, g3, g4⟩
theorem sc1_z {n : Int} {t : Int → Int} (hn : 0 ≤ n) (h : sc1 n t = 0) : ∀ y, 0 ≤ y → y < n → t y = 0 := by
  have := zi_inv (f := fun b r => if r = 0 then t b else r) (s := 0) (P := fun i r => r = 0 → ∀ y, 0 ≤ y → y < i → t y = 0) (n := n) hn (fun _ y a b => by omega) (fun i r g0 g1 g2 => by
    intro g3
    by_cases e : r = 0
    · rw [if_pos e] at g3
      intro y y0 y1
      by_cases e2 : y = i
      · rw [e2]; exact g3
      · exact g2 e y y0 (by omega)
    · rw [if_neg e] at g3
      exact absurd g3 e)
  exact this h
theorem sc1_congr {n : Int} {t u : Int → Int} (h : ∀ y, 0 ≤ y → y < n → t y = u y) : sc1 n t = sc1 n u := zi_congr fun i r h0 h1 => by rw [h i h0 h1]
/-- the first of n by n values (row by row) that is not 0 -/
def sc (n : Int) (t : Int → Int → Int) : Int := sc1 n (fun a => sc1 n (t a))
/-- (x, y) lies ahead of (a, b) -/
abbrev lx (x y a b : Int) : Prop := x < a ∨ (x = a ∧ y < b)
theorem sc_zero {n : Int} {t : Int → Int → Int} (hn : 0 ≤ n) (h : ∀ x y, 0 ≤ x → x < n → 0 ≤ y → y < n → t x y = 0) : sc n t = 0 :=
  sc1_zero hn fun x h0 h1 => sc1_zero hn fun y g0 g1 => h x y h0 h1 g0 g1
theorem sc_z {n : Int} {t : Int → Int → Int} (hn : 0 ≤ n) (h : sc n t = 0) : ∀ x y, 0 ≤ x → x < n → 0 ≤ y → y < n → t x y = 0 :=
  fun x y h0 h1 g0 g1 => sc1_z hn (sc1_z hn h x h0 h1) y g0 g1
theorem sc_first {n : Int} {t : Int → Int → Int} {a b : Int} (ha : 0 ≤ a ∧ a < n) (hb : 0 ≤ b ∧ b < n) (hz : ∀ x y, 0 ≤ x → x < n → 0 ≤ y → y < n → lx x y a b → t x y = 0) (ht : t a b ≠ 0) : sc n t = t a b := by
  have h1 : sc1 n (t a) = t a b := sc1_first hb.1 hb.2 (fun y y0 y1 => hz a y ha.1 ha.2 y0 (by omega) (Or.inr ⟨rfl, y1⟩)) ht
  have h2 : sc n t = sc1 n (t a) := sc1_first (t := fun a => sc1 n (t a)) ha.1 ha.2 (fun x x0 x1 => sc1_zero (by omega) fun y y0 y1 => hz x y x0 (by omega) y0 y1 (Or.inl x1)) (by show sc1 n (t a) ≠ 0; rw [h1]; exact ht)
  rw [h2, h1]
theorem sc_ex {n : Int} {t : Int → Int → Int} (hn : 0 ≤ n) (h : sc n t ≠ 0) : ∃ a b, (0 ≤ a ∧ a < n) ∧ (0 ≤ b ∧ b < n) ∧ sc n t = t a b ∧ ∀ x y, 0 ≤ x → x < n → 0 ≤ y → y < n → lx x y a b → t x y = 0 := by
  obtain ⟨a, a0, a1, a2, a3⟩ := sc1_ex hn h
  have h2 : sc1 n (t a) ≠ 0 := by
    have : sc n t = sc1 n (t a) := a2
    rw [← this]; exact h
  obtain ⟨b, b0, b1, b2, b3⟩ := sc1_ex hn h2
  refine ⟨a, b, ⟨a0, a1⟩, ⟨b0, b1⟩, a2.trans b2, fun x y x0 x1 y0 y1 hl => ?_⟩
  rcases hl with hl | ⟨rfl, hl⟩
  · exact sc1_z hn (a3 x x0 hl) y y0 y1
  · exact b3 y y0 hl
theorem sc_congr {n : Int} {t u : Int → Int → Int} (h : ∀ x y, 0 ≤ x → x < n → 0 ≤ y → y < n → t x y = u x y) : sc n t = sc n u :=
  sc1_congr fun x h0 h1 => sc1_congr fun y g0 g1 => h x y h0 h1 g0 g1
/-! colours: g a b is the colour of the pair (a, b) -/
abbrev Gr : Type := Int → Int → Int
/-- a row of 64 places holds the colours of n points -/
def ag (n : Int) (C : Int → Int) (g : Gr) : Prop := ∀ a b, 0 ≤ a → a < n → 0 ≤ b → b < n → C (8 * a + b) = g a b
def rgn (n : Int) (g : Gr) : Prop := ∀ a b, 0 ≤ a → a < n → 0 ≤ b → b < n → 0 ≤ g a b ∧ g a b ≤ 4
def mx1 (n : Int) (t : Int → Int) (s : Int) : Int := zi (fun b s => if s < t b then t b else s) s n
def mx2 (n : Int) (g : Gr) (a : Int) : Int := zi (fun a s => mx1 n (g a) s) 0 a
def rk (n : Int) (g : Gr) : Int := 1 + mx2 n g n
theorem mx1_s (n : Int) (t : Int → Int) (s : Int) : mx1 0 t s = s := rfl
theorem mx1_n {n : Int} (hn : 0 ≤ n) (t : Int → Int) (s : Int) : mx1 (n + 1) t s = if mx1 n t s < t n then t n else mx1 n t s := zi_s _ _ hn
theorem mx2_n {n a : Int} (ha : 0 ≤ a) (g : Gr) : mx2 n g (a + 1) = mx1 n (g a) (mx2 n g a) := zi_s _ _ ha
theorem mx1_ge {n : Int} (hn : 0 ≤ n) (t : Int → Int) (s : Int) : s ≤ mx1 n t s ∧ ∀ y, 0 ≤ y → y < n → t y ≤ mx1 n t s := by
  refine zi_inv (P := fun i r => s ≤ r ∧ ∀ y, 0 ≤ y → y < i → t y ≤ r) hn ⟨Int.le_refl _, fun y a b => by omega⟩ (fun i r h0 h1 h2 => ?_)
  by_cases e : r < t i
  · rw [if_pos e]
    refine ⟨by omega, fun y y0 y1 => ?_⟩
    by_cases e2 : y = i
    · rw [e2]; exact Int.le_refl _
    · have := h2.2 y y0 (by omega); omega
  · rw [if_neg e]
    refine ⟨h2.1, fun y y0 y1 => ?_⟩
    by_cases e2 : y = i
    · rw [e2]; omega
    · exact h2.2 y y0 (by omega)
theorem mx1_le {n : Int} (hn : 0 ≤ n) (t : Int → Int) (s B : Int) (hs : s ≤ B) (ht : ∀ y, 0 ≤ y → y < n → t y ≤ B) : mx1 n t s ≤ B := by
  refine zi_inv (P := fun i r => r ≤ B) hn hs (fun i r h0 h1 h2 => ?_)
  by_cases e : r < t i
  · rw [if_pos e]; exact ht i h0 h1
  · rw [if_neg e]; exact h2
theorem mx2_ge {n a : Int} (hn : 0 ≤ n) (ha : 0 ≤ a) (g : Gr) : 0 ≤ mx2 n g a ∧ ∀ x y, 0 ≤ x → x < a → 0 ≤ y → y < n → g x y ≤ mx2 n g a := by
  refine zi_inv (P := fun i r => 0 ≤ r ∧ ∀ x y, 0 ≤ x → x < i → 0 ≤ y → y < n → g x y ≤ r) ha ⟨Int.le_refl _, fun x y a b => by omega⟩ (fun i r h0 h1 h2 => ?_)
  have h3 := mx1_ge hn (g i) r
  refine ⟨by omega, fun x y x0 x1 y0 y1 => ?_⟩
  by_cases e2 : x = i
  · rw [e2]; exact h3.2 y y0 y1
  · have := h2.2 x y x0 (by omega) y0 y1; omega
theorem mx2_le {n a : Int} (hn : 0 ≤ n) (ha : 0 ≤ a) (han : a ≤ n) {g : Gr} (hg : rgn n g) : mx2 n g a ≤ 4 := by
  refine zi_inv (P := fun i r => r ≤ 4) ha (by decide) (fun i r h0 h1 h2 => ?_)
  exact mx1_le hn _ _ _ h2 fun y y0 y1 => (hg i y h0 (by omega) y0 y1).2
theorem rk_b {n : Int} {g : Gr} (hn : 0 ≤ n) (hg : rgn n g) : 1 ≤ rk n g ∧ rk n g ≤ 5 := by
  have h1 := (mx2_ge hn hn g).1
  have h2 := mx2_le hn hn (Int.le_refl _) hg
  unfold rk
  omega
theorem rk_gt {n : Int} {g : Gr} (hn : 0 ≤ n) {a b : Int} (ha : 0 ≤ a ∧ a < n) (hb : 0 ≤ b ∧ b < n) : g a b < rk n g := by
  have h1 := (mx2_ge hn hn g).2 a b ha.1 ha.2 hb.1 hb.2
  unfold rk
  omega
/-- the place of the first pair of the colour c, or -1 -/
def fp (n : Int) (g : Gr) (c : Int) : Int := sc n (fun a b => if g a b = c then 8 * a + b + 1 else 0) - 1
theorem fp_none {n : Int} {g : Gr} {c : Int} (hn : 0 ≤ n) (h : ∀ x y, 0 ≤ x → x < n → 0 ≤ y → y < n → g x y ≠ c) : fp n g c = -1 := by
  unfold fp
  rw [sc_zero hn fun x y x0 x1 y0 y1 => if_neg (h x y x0 x1 y0 y1)]
  rfl
theorem fp_some {n : Int} {g : Gr} {c a b : Int} (ha : 0 ≤ a ∧ a < n) (hb : 0 ≤ b ∧ b < n) (hc : g a b = c) (hz : ∀ x y, 0 ≤ x → x < n → 0 ≤ y → y < n → lx x y a b → g x y ≠ c) : fp n g c = 8 * a + b := by
  unfold fp
  rw [sc_first (a := a) (b := b) ha hb (fun x y x0 x1 y0 y1 hl => if_neg (hz x y x0 x1 y0 y1 hl)) (by rw [if_pos hc]; omega), if_pos hc]
  omega
theorem fp_ex {n : Int} {g : Gr} {c : Int} (hn : 0 ≤ n ∧ n ≤ 8) (h : fp n g c ≠ -1) : ∃ a b, (0 ≤ a ∧ a < n) ∧ (0 ≤ b ∧ b < n) ∧ g a b = c ∧ fp n g c = 8 * a + b ∧ fp n g c / 8 = a ∧ fp n g c % 8 = b ∧ ∀ x y, 0 ≤ x → x < n → 0 ≤ y → y < n → lx x y a b → g x y ≠ c := by
  unfold fp at h ⊢
  obtain ⟨a, b, ha, hb, h1, h2⟩ := sc_ex (n := n) (t := fun a b => if g a b = c then 8 * a + b + 1 else 0) hn.1 (by omega)
  have hne : sc n (fun a b => if g a b = c then 8 * a + b + 1 else 0) ≠ 0 := by omega
  by_cases e : g a b = c
  · rw [if_pos e] at h1
    refine ⟨a, b, ha, hb, e, by omega, by omega, by omega, fun x y x0 x1 y0 y1 hl e2 => ?_⟩
    have := h2 x y x0 x1 y0 y1 hl
    rw [if_pos e2] at this
    omega
  · rw [if_neg e] at h1
    exact absurd h1 hne
theorem fp_occ {n : Int} {g : Gr} {a b : Int} (hn : 0 ≤ n ∧ n ≤ 8) (ha : 0 ≤ a ∧ a < n) (hb : 0 ≤ b ∧ b < n) : fp n g (g a b) ≠ -1 := by
  intro h
  unfold fp at h
  have h1 : sc n (fun x y => if g x y = g a b then 8 * x + y + 1 else 0) = 0 := by omega
  have := sc_z hn.1 h1 a b ha.1 ha.2 hb.1 hb.2
  rw [if_pos rfl] at this
  omega
/-- how many points lie so between a and b -/
def cn (n : Int) (g : Gr) (a b i j : Int) : Int := zi (fun e s => if g a e = i ∧ g e b = j then s + 1 else s) 0 n
theorem cn_s {n : Int} (hn : 0 ≤ n) (g : Gr) (a b i j : Int) : cn (n + 1) g a b i j = if g a n = i ∧ g n b = j then cn n g a b i j + 1 else cn n g a b i j := zi_s _ _ hn
theorem cn_b {n : Int} (hn : 0 ≤ n) (g : Gr) (a b i j : Int) : 0 ≤ cn n g a b i j ∧ cn n g a b i j ≤ n := by
  refine zi_inv (P := fun i r => 0 ≤ r ∧ r ≤ i) hn ⟨Int.le_refl _, Int.le_refl _⟩ (fun i r h0 h1 h2 => ?_)
  split <;> omega
abbrev zl5 : List Int := [0, 1, 2, 3, 4]
theorem zl5_all {P : Int → Prop} : (∀ c ∈ zl5, P c) ↔ ∀ c, 0 ≤ c → c < 5 → P c := by
  constructor
  · intro h c h0 h1
    exact h c (by
      have : c = 0 ∨ c = 1 ∨ c = 2 ∨ c = 3 ∨ c = 4 := by omega
      rcases this with rfl | rfl | rfl | rfl | rfl <;> decide)
  · intro h c hc
    simp only [List.mem_cons, List.not_mem_nil, or_false] at hc
    rcases hc with rfl | rfl | rfl | rfl | rfl <;> exact h _ (by decide) (by decide)
/-- the reversal of a colour, by its first pair -/
def rv (n : Int) (g : Gr) (c : Int) : Int := if fp n g c = -1 then 0 else g (fp n g c % 8) (fp n g c / 8)
/-- N(i, j, k) by the first pair of k -/
def nu (n : Int) (g : Gr) (i j k : Int) : Int := cn n g (fp n g k / 8) (fp n g k % 8) i j
def tA (g : Gr) (a b : Int) : Int := if (g a b = 0) ↔ (a = b) then 0 else 100 + 10 * a + b
def tB (n : Int) (g : Gr) : Int := if ∀ c ∈ zl5, c < rk n g → fp n g c ≠ -1 then 0 else 200
def tC (n : Int) (g : Gr) (a b : Int) : Int := if g b a = rv n g (g a b) then 0 else 300 + 10 * a + b
def tD (n : Int) (g : Gr) (a b : Int) : Int := if ∀ i ∈ zl5, ∀ j ∈ zl5, cn n g a b i j = nu n g i j (g a b) then 0 else 400 + 10 * a + b
/-- by what a colouring fails -/
def fl (n : Int) (g : Gr) : Int := if sc n (tA g) ≠ 0 then sc n (tA g) else if tB n g ≠ 0 then tB n g else if sc n (tC n g) ≠ 0 then sc n (tC n g) else sc n (tD n g)
/-- how many pairs (0, b) have i -/
def dg (n : Int) (g : Gr) (i : Int) : Int := zi (fun b s => if g 0 b = i then s + 1 else s) 0 n
theorem dg_s {n : Int} (hn : 0 ≤ n) (g : Gr) (i : Int) : dg (n + 1) g i = if g 0 n = i then dg n g i + 1 else dg n g i := zi_s _ _ hn
theorem dg_b {n : Int} (hn : 0 ≤ n) (g : Gr) (i : Int) : 0 ≤ dg n g i ∧ dg n g i ≤ n := by
  refine zi_inv (P := fun i r => 0 ≤ r ∧ r ≤ i) hn ⟨Int.le_refl _, Int.le_refl _⟩ (fun i r h0 h1 h2 => ?_)
  split <;> omega
