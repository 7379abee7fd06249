/-! quotients -/
theorem zi_ind {α : Type} {f : Int → α → α} {s : α} (P : Int → α → Prop) (h0 : P 0 s) (hs : ∀ i, 0 ≤ i → P i (zi f s i) → P (i + 1) (zi f s (i + 1))) : ∀ m, 0 ≤ m → P m (zi f s m) := by
  have key : ∀ k : Nat, P (k : Int) (zi f s (k : Int)) := by
    intro k
    induction k with
    | zero => exact h0
    | succ k ih =>
      have h1 : ((k + 1 : Nat) : Int) = (k : Int) + 1 := by omega
      rw [h1]
      exact hs _ (by omega) ih
  intro m hm
  have := key m.toNat
  rwa [Int.toNat_of_nonneg hm] at this
theorem cn_pos {n : Int} {g : Gr} {a b e : Int} (he : 0 ≤ e ∧ e < n) : 0 < cn n g a b (g a e) (g e b) := by
  have := zi_inv (f := fun x s => if g a x = g a e ∧ g x b = g e b then s + 1 else s) (s := 0) (P := fun m s => 0 ≤ s ∧ (e < m → 0 < s)) (n := n) (by omega) ⟨Int.le_refl _, fun h => by omega⟩ (fun i r i0 i1 ⟨h1, h2⟩ => by
    by_cases q : g a i = g a e ∧ g i b = g e b
    · rw [if_pos q]
      exact ⟨by omega, fun _ => by omega⟩
    · rw [if_neg q]
      refine ⟨h1, fun h => ?_⟩
      by_cases e2 : e = i
      · subst e2
        exact absurd ⟨rfl, rfl⟩ q
      · exact h2 (by omega))
  exact this.2 he.2
/-- how many points e have (a, e) i -/
def dgq (g : Gr) (a i m : Int) : Int := zi (fun e s => if g a e = i then s + 1 else s) 0 m
theorem dgq_s {g : Gr} {a i m : Int} (h : 0 ≤ m) : dgq g a i (m + 1) = if g a m = i then dgq g a i m + 1 else dgq g a i m := zi_s _ _ h
/-- how many points are joined to a -/
def snb (S : Int) (g : Gr) (a m : Int) : Int := zi (fun e s => if bm S (g a e) then s + 1 else s) 0 m
theorem snb_s {S : Int} {g : Gr} {a m : Int} (h : 0 ≤ m) : snb S g a (m + 1) = if bm S (g a m) then snb S g a m + 1 else snb S g a m := zi_s _ _ h
theorem five {c : Int} (h : 0 ≤ c ∧ c ≤ 4) : c = 0 ∨ c = 1 ∨ c = 2 ∨ c = 3 ∨ c = 4 := by omega
theorem dgq_cn {n : Int} {g : Gr} (hg : rgn n g) {a i : Int} (ha : 0 ≤ a ∧ a < n) : ∀ k : Nat, (k : Int) ≤ n → dgq g a i k = cn k g a a i 0 + cn k g a a i 1 + cn k g a a i 2 + cn k g a a i 3 + cn k g a a i 4 := by
  intro k
  induction k with
  | zero => intro _; rfl
  | succ k ih =>
    intro hk
    have h1 : ((k + 1 : Nat) : Int) = (k : Int) + 1 := by omega
    have ih := ih (by omega)
    rw [h1, dgq_s (by omega), cn_s (by omega), cn_s (by omega), cn_s (by omega), cn_s (by omega), cn_s (by omega)]
    have h2 := hg k a (by omega) (by omega) ha.1 ha.2
    by_cases e : g a k = i
    · rw [if_pos e]
      rcases five h2 with h | h | h | h | h <;> rw [h] <;> simp only [e, true_and] <;> simp <;> omega
    · rw [if_neg e]
      simp only [e, false_and, if_false]
      exact ih
def tI (S : Int) (g : Gr) (a m i : Int) : Int := if bm S i then dgq g a i m else 0
theorem snb_tI {n S : Int} {g : Gr} (hg : rgn n g) {a : Int} (ha : 0 ≤ a ∧ a < n) : ∀ k : Nat, (k : Int) ≤ n → snb S g a k = tI S g a k 0 + tI S g a k 1 + tI S g a k 2 + tI S g a k 3 + tI S g a k 4 := by
  have st : ∀ m i, 0 ≤ m → tI S g a (m + 1) i = tI S g a m i + (if g a m = i then (if bm S i then 1 else 0) else 0) := by
    intro m i hm
    unfold tI
    rw [dgq_s hm]
    split <;> split <;> omega
  intro k
  induction k with
  | zero =>
    intro _
    have z : ∀ i, tI S g a 0 i = 0 := fun i => by
      unfold tI
      split <;> rfl
    show (0 : Int) = tI S g a 0 0 + tI S g a 0 1 + tI S g a 0 2 + tI S g a 0 3 + tI S g a 0 4
    rw [z, z, z, z, z]
    rfl
  | succ k ih =>
    intro hk
    have h1 : ((k + 1 : Nat) : Int) = (k : Int) + 1 := by omega
    have ih := ih (by omega)
    rw [h1, snb_s (by omega), st _ _ (by omega), st _ _ (by omega), st _ _ (by omega), st _ _ (by omega), st _ _ (by omega)]
    have h2 := hg a k ha.1 ha.2 (by omega) (by omega)
    rcases five h2 with h | h | h | h | h <;> rw [h] <;> simp <;> split <;> omega
/-- an even colouring -/
def evn (n : Int) (g : Gr) : Prop := (1 ≤ n ∧ n ≤ 8) ∧ rgn n g ∧ fl n g = 0
def cld (n : Int) (g : Gr) (S : Int) : Prop := (0 ≤ S ∧ S < 32) ∧ gw n g S = S
theorem ev_deg {n : Int} {g : Gr} (h : evn n g) {a i : Int} (ha : 0 ≤ a ∧ a < n) (hi : 0 ≤ i ∧ i ≤ 4) : dgq g a i n = dgq g 0 i n := by
  obtain ⟨hn, hg, hf⟩ := h
  obtain ⟨f1, f2, f3, f4⟩ := fl_z (by omega) hf
  have h1 := dgq_cn hg (i := i) ha n.toNat (by omega)
  have h2 := dgq_cn hg (a := 0) (i := i) ⟨by omega, by omega⟩ n.toNat (by omega)
  rw [Int.toNat_of_nonneg (by omega)] at h1 h2
  have z1 : g a a = 0 := (f1 a a ha.1 ha.2 ha.1 ha.2).mpr rfl
  have z2 : g 0 0 = 0 := (f1 0 0 (by omega) (by omega) (by omega) (by omega)).mpr rfl
  have key : ∀ j, 0 ≤ j → j < 5 → cn n g a a i j = cn n g 0 0 i j := by
    intro j j0 j1
    rw [f4 a a ha.1 ha.2 ha.1 ha.2 i j hi.1 (by omega) j0 j1, f4 0 0 (by omega) (by omega) (by omega) (by omega) i j hi.1 (by omega) j0 j1, z1, z2]
  rw [h1, h2, key 0 (by decide) (by decide), key 1 (by decide) (by decide), key 2 (by decide) (by decide), key 3 (by decide) (by decide), key 4 (by decide) (by decide)]
theorem ev_snb {n S : Int} {g : Gr} (h : evn n g) {a : Int} (ha : 0 ≤ a ∧ a < n) : snb S g a n = snb S g 0 n := by
  have hg := h.2.1
  have hn := h.1
  have h1 := snb_tI (S := S) hg ha n.toNat (by omega)
  have h2 := snb_tI (S := S) hg (a := 0) ⟨by omega, by omega⟩ n.toNat (by omega)
  rw [Int.toNat_of_nonneg (by omega)] at h1 h2
  have key : ∀ i, 0 ≤ i → i ≤ 4 → tI S g a n i = tI S g 0 n i := by
    intro i i0 i1
    unfold tI
    rw [ev_deg h ha ⟨i0, i1⟩]
  rw [h1, h2, key 0 (by decide) (by decide), key 1 (by decide) (by decide), key 2 (by decide) (by decide), key 3 (by decide) (by decide), key 4 (by decide) (by decide)]
def cntP (p : Int → Prop) [DecidablePred p] (m : Int) : Int := zi (fun e s => if p e then s + 1 else s) 0 m
theorem cntP_s {p : Int → Prop} [DecidablePred p] {m : Int} (h : 0 ≤ m) : cntP p (m + 1) = if p m then cntP p m + 1 else cntP p m := zi_s _ _ h
theorem cntP_sub {p q : Int → Prop} [DecidablePred p] [DecidablePred q] : ∀ k : Nat, (∀ e, 0 ≤ e → e < (k : Int) → q e → p e) → cntP q k ≤ cntP p k ∧ (cntP q k = cntP p k → ∀ e, 0 ≤ e → e < (k : Int) → p e → q e) := by
  intro k
  induction k with
  | zero => intro _; exact ⟨Int.le_refl _, fun _ e e0 e1 => by omega⟩
  | succ k ih =>
    intro h
    have h1 : ((k + 1 : Nat) : Int) = (k : Int) + 1 := by omega
    obtain ⟨h2, h3⟩ := ih (fun e e0 e1 => h e e0 (by omega))
    have h4 := h k (by omega) (by omega)
    rw [h1, cntP_s (by omega), cntP_s (by omega)]
    by_cases q1 : q k
    · rw [if_pos q1, if_pos (h4 q1)]
      refine ⟨by omega, fun hh e e0 e1 e2 => ?_⟩
      by_cases ek : e = k
      · rw [ek]; exact q1
      · exact h3 (by omega) e e0 (by omega) e2
    · rw [if_neg q1]
      by_cases q2 : p k
      · rw [if_pos q2]
        exact ⟨by omega, fun hh => by omega⟩
      · rw [if_neg q2]
        refine ⟨h2, fun hh e e0 e1 e2 => ?_⟩
        by_cases ek : e = k
        · rw [ek] at e2; exact absurd e2 q2
        · exact h3 hh e e0 (by omega) e2
theorem snb_sub {S : Int} {g : Gr} {a b : Int} {m : Int} (hm : 0 ≤ m) (h : ∀ e, 0 ≤ e → e < m → bm S (g b e) → bm S (g a e)) (hc : snb S g b m = snb S g a m) : ∀ e, 0 ≤ e → e < m → bm S (g a e) → bm S (g b e) := by
  have key := cntP_sub (p := fun e => bm S (g a e)) (q := fun e => bm S (g b e)) m.toNat
  rw [Int.toNat_of_nonneg hm] at key
  exact (key h).2 hc
theorem E_refl {n S : Int} {g : Gr} (h : evn n g) (hS : cld n g S) {a : Int} (ha : 0 ≤ a ∧ a < n) : bm S (g a a) := by
  obtain ⟨hn, hg, hf⟩ := h
  obtain ⟨f1, f2, f3, f4⟩ := fl_z (by omega) hf
  rw [(f1 a a ha.1 ha.2 ha.1 ha.2).mpr rfl]
  exact ((cl_iff (rk_b (by omega) hg) hS.1).mp hS.2).1
theorem E_trans {n S : Int} {g : Gr} (h : evn n g) (hS : cld n g S) {a b e : Int} (ha : 0 ≤ a ∧ a < n) (hb : 0 ≤ b ∧ b < n) (he : 0 ≤ e ∧ e < n) (h1 : bm S (g a e)) (h2 : bm S (g e b)) : bm S (g a b) := by
  obtain ⟨hn, hg, hf⟩ := h
  obtain ⟨f1, f2, f3, f4⟩ := fl_z (by omega) hf
  have g1 := hg a e ha.1 ha.2 he.1 he.2
  have g2 := hg e b he.1 he.2 hb.1 hb.2
  have g3 := hg a b ha.1 ha.2 hb.1 hb.2
  have h3 := cn_pos (n := n) (g := g) (a := a) (b := b) he
  rw [f4 a b ha.1 ha.2 hb.1 hb.2 _ _ g1.1 (by omega) g2.1 (by omega)] at h3
  exact ((cl_iff (rk_b (by omega) hg) hS.1).mp hS.2).2 _ g3.1 (by omega) ⟨rk_gt (by omega) ha hb, _, _, ⟨g1.1, rk_gt (by omega) ha he⟩, ⟨g2.1, rk_gt (by omega) he hb⟩, h1, h2, h3⟩
theorem E_sym {n S : Int} {g : Gr} (h : evn n g) (hS : cld n g S) {a b : Int} (ha : 0 ≤ a ∧ a < n) (hb : 0 ≤ b ∧ b < n) (h1 : bm S (g a b)) : bm S (g b a) := by
  have hn := h.1
  exact snb_sub (S := S) (g := g) (a := a) (b := b) (m := n) (by omega) (fun e e0 e1 h2 => E_trans h hS ha ⟨e0, e1⟩ hb h1 h2) (by rw [ev_snb h ha, ev_snb h hb]) a ha.1 ha.2 (E_refl h hS ha)
/-! blocks -/
def bv (g : Gr) (S : Int) (B : Int → Int) (z b m : Int) : Int := zi (fun a v => if bm S (g a b) then B a else v) z m
theorem bv_s {g : Gr} {S z b m : Int} {B : Int → Int} (h : 0 ≤ m) : bv g S B z b (m + 1) = if bm S (g m b) then B m else bv g S B z b m := zi_s _ _ h
abbrev BS : Type := (Int → Int) × Int
def bstep (g : Gr) (S : Int) (b : Int) (st : BS) : BS := (zz_up st.1 b (bv g S st.1 st.2 b b), if bv g S st.1 st.2 b b = st.2 then st.2 + 1 else st.2)
def bst (g : Gr) (S m : Int) : BS := zi (bstep g S) ((fun _ => 0, 0) : BS) m
theorem bst_s {g : Gr} {S m : Int} (h : 0 ≤ m) : bst g S (m + 1) = bstep g S m (bst g S m) := zi_s _ _ h
theorem bv_c {g : Gr} {S z b : Int} {B : Int → Int} : ∀ m, 0 ≤ m → ((∀ a, 0 ≤ a → a < m → ¬ bm S (g a b)) ∧ bv g S B z b m = z) ∨ ∃ a, 0 ≤ a ∧ a < m ∧ bm S (g a b) ∧ bv g S B z b m = B a := by
  refine zi_ind (P := fun m v => ((∀ a, 0 ≤ a → a < m → ¬ bm S (g a b)) ∧ v = z) ∨ ∃ a, 0 ≤ a ∧ a < m ∧ bm S (g a b) ∧ v = B a) (Or.inl ⟨fun a a0 a1 => by omega, rfl⟩) (fun i i0 h => ?_)
  rw [zi_s _ _ i0]
  by_cases e : bm S (g i b)
  · rw [if_pos e]
    exact Or.inr ⟨i, i0, by omega, e, rfl⟩
  · rw [if_neg e]
    rcases h with ⟨h1, h2⟩ | ⟨a, a0, a1, a2, a3⟩
    · refine Or.inl ⟨fun a a0 a1 => ?_, h2⟩
      by_cases ea : a = i
      · rw [ea]; exact e
      · exact h1 a a0 (by omega)
    · exact Or.inr ⟨a, a0, by omega, a2, a3⟩
/-- what is known of the blocks of the first b points -/
def BI (b : Int) (st : BS) : Prop := (0 ≤ st.2 ∧ st.2 ≤ b) ∧ (∀ x, 0 ≤ x → x < b → 0 ≤ st.1 x ∧ st.1 x < st.2) ∧ ∀ p, 0 ≤ p → p < st.2 → ∃ x, 0 ≤ x ∧ x < b ∧ st.1 x = p
theorem BI_v {g : Gr} {S b : Int} {st : BS} (hb : 0 ≤ b) (h : BI b st) {m : Int} (hm : 0 ≤ m ∧ m ≤ b) : 0 ≤ bv g S st.1 st.2 b m ∧ bv g S st.1 st.2 b m ≤ st.2 := by
  obtain ⟨h1, h2, -⟩ := h
  rcases bv_c (g := g) (S := S) (z := st.2) (b := b) (B := st.1) m hm.1 with ⟨-, q⟩ | ⟨a, a0, a1, -, q⟩
  · omega
  · have := h2 a a0 (by omega)
    omega
theorem BI_all {g : Gr} {S : Int} : ∀ b, 0 ≤ b → BI b (bst g S b) := by
  refine zi_ind (P := fun b st => BI b st) ⟨⟨by decide, by decide⟩, fun x a b => by omega, fun p a b => by
    have b' : p < 0 := b
    omega⟩ (fun b hb h => ?_)
  have hs : zi (bstep g S) ((fun _ => 0, 0) : BS) (b + 1) = bstep g S b (zi (bstep g S) ((fun _ => 0, 0) : BS) b) := zi_s _ _ hb
  rw [hs]
  generalize zi (bstep g S) ((fun _ => 0, 0) : BS) b = st at h ⊢
  have hv := BI_v (g := g) (S := S) hb h ⟨hb, Int.le_refl _⟩
  obtain ⟨h1, h2, h3⟩ := h
  unfold bstep
  generalize bv g S st.1 st.2 b b = v at hv ⊢
  refine ⟨?_, fun x x0 x1 => ?_, fun p p0 p1 => ?_⟩
  · show 0 ≤ (if v = st.2 then st.2 + 1 else st.2) ∧ (if v = st.2 then st.2 + 1 else st.2) ≤ b + 1
    split <;> omega
  · show 0 ≤ zz_up st.1 b v x ∧ zz_up st.1 b v x < (if v = st.2 then st.2 + 1 else st.2)
    unfold zz_up
    by_cases e : x = b
    · rw [if_pos e]
      split <;> omega
    · rw [if_neg e]
      have := h2 x x0 (by omega)
      split <;> omega
  · have p1' : p < (if v = st.2 then st.2 + 1 else st.2) := p1
    by_cases e : p < st.2
    · obtain ⟨x, x0, x1, x2⟩ := h3 p p0 e
      refine ⟨x, x0, by omega, ?_⟩
      show zz_up st.1 b v x = p
      rw [zz_up_n _ _ (by omega)]
      exact x2
    · refine ⟨b, hb, by omega, ?_⟩
      show zz_up st.1 b v b = p
      rw [zz_up_s]
      split at p1' <;> omega
/-- joined points lie in one block -/
theorem bst_E {n S : Int} {g : Gr} (h : evn n g) (hS : cld n g S) : ∀ k : Nat, (k : Int) ≤ n → ∀ x y, 0 ≤ x → x < (k : Int) → 0 ≤ y → y < (k : Int) → bm S (g x y) → (bst g S k).1 x = (bst g S k).1 y := by
  intro k
  induction k with
  | zero => intro _ x y x0 x1; omega
  | succ k ih =>
    intro hk x y x0 x1 y0 y1 hxy
    have h1 : ((k + 1 : Nat) : Int) = (k : Int) + 1 := by omega
    have ih := ih (by omega)
    rw [h1] at x1 y1 ⊢
    rw [bst_s (by omega)]
    show zz_up (bst g S k).1 k (bv g S (bst g S k).1 (bst g S k).2 k k) x = zz_up (bst g S k).1 k (bv g S (bst g S k).1 (bst g S k).2 k k) y
    have key : ∀ z, 0 ≤ z → z < (k : Int) → bm S (g z k) → bv g S (bst g S k).1 (bst g S k).2 k k = (bst g S k).1 z := by
      intro z z0 z1 hz
      rcases bv_c (g := g) (S := S) (z := (bst g S k).2) (b := k) (B := (bst g S k).1) k (by omega) with ⟨q, -⟩ | ⟨a, a0, a1, a2, q⟩
      · exact absurd hz (q z z0 z1)
      · rw [q]
        exact (ih z a z0 z1 a0 a1 (E_trans h hS ⟨z0, by omega⟩ ⟨a0, by omega⟩ ⟨by omega, by omega⟩ hz (E_sym h hS ⟨a0, by omega⟩ ⟨by omega, by omega⟩ a2))).symm
    by_cases ex : x = k
    · by_cases ey : y = k
      · rw [ex, ey]
      · rw [ex, zz_up_s, zz_up_n _ _ ey]
        rw [ex] at hxy
        exact key y y0 (by omega) (E_sym h hS ⟨by omega, by omega⟩ ⟨by omega, by omega⟩ hxy)
    · by_cases ey : y = k
      · rw [ey, zz_up_s, zz_up_n _ _ ex]
        rw [ey] at hxy
        exact (key x x0 (by omega) hxy).symm
      · rw [zz_up_n _ _ ex, zz_up_n _ _ ey]
        exact ih x y x0 (by omega) y0 (by omega) hxy
/-- the first joined point gives the block as well as the last -/
theorem bv_first {n S : Int} {g : Gr} (h : evn n g) (hS : cld n g S) {b v : Int} (hb : 0 ≤ b ∧ b < n) (hv : ((∀ a, 0 ≤ a → a < b → ¬ bm S (g a b)) ∧ v = (bst g S b).2) ∨ ∃ a, 0 ≤ a ∧ a < b ∧ bm S (g a b) ∧ v = (bst g S b).1 a) : v = bv g S (bst g S b).1 (bst g S b).2 b b := by
  rcases bv_c (g := g) (S := S) (z := (bst g S b).2) (b := b) (B := (bst g S b).1) b hb.1 with ⟨q, q2⟩ | ⟨c, c0, c1, c2, q⟩
  · rw [q2]
    rcases hv with ⟨-, h2⟩ | ⟨a, a0, a1, a2, -⟩
    · exact h2
    · exact absurd a2 (q a a0 a1)
  · rw [q]
    rcases hv with ⟨h2, -⟩ | ⟨a, a0, a1, a2, a3⟩
    · exact absurd c2 (h2 c c0 c1)
    · rw [a3]
      have := bst_E h hS b.toNat (by omega) a c
      rw [Int.toNat_of_nonneg hb.1] at this
      exact this a0 a1 c0 c1 (E_trans h hS ⟨a0, by omega⟩ ⟨c0, by omega⟩ hb a2 (E_sym h hS ⟨c0, by omega⟩ hb c2))
/-! colours that are one -/
def r1 (n : Int) (g : Gr) (B : Int → Int) (x y : Int) : Prop := ∃ a b c d, (0 ≤ a ∧ a < n) ∧ (0 ≤ b ∧ b < n) ∧ (0 ≤ c ∧ c < n) ∧ (0 ≤ d ∧ d < n) ∧ B a = B c ∧ B b = B d ∧ g a b = x ∧ g c d = y
def rr (n : Int) (g : Gr) (B : Int → Int) (x y : Int) : Prop := ∀ P : Int → Prop, P x → (∀ u v, r1 n g B u v → P u → P v) → P y
section
variable {n : Int} {g : Gr} {B : Int → Int}
theorem r1_sym {x y : Int} (h : r1 n g B x y) : r1 n g B y x := by
  obtain ⟨a, b, c, d, h1, h2, h3, h4, h5, h6, h7, h8⟩ := h
  exact ⟨c, d, a, b, h3, h4, h1, h2, h5.symm, h6.symm, h8, h7⟩
theorem rr_refl (x : Int) : rr n g B x x := fun P h _ => h
theorem rr_r1 {x y : Int} (h : r1 n g B x y) : rr n g B x y := fun P h1 h2 => h2 x y h h1
theorem rr_trans {x y z : Int} (h1 : rr n g B x y) (h2 : rr n g B y z) : rr n g B x z := fun P p q => h2 P (h1 P p q) q
theorem rr_sym {x y : Int} (h : rr n g B x y) : rr n g B y x := h (fun z => rr n g B z x) (rr_refl x) (fun u v huv hu => rr_trans (rr_r1 (r1_sym huv)) hu)
end
noncomputable def kM (n : Int) (g : Gr) (B : Int → Int) (x : Int) : Int := @ite Int (rr n g B x 0) (Classical.propDecidable _) 0 (@ite Int (rr n g B x 1) (Classical.propDecidable _) 1 (@ite Int (rr n g B x 2) (Classical.propDecidable _) 2 (@ite Int (rr n g B x 3) (Classical.propDecidable _) 3 4)))
theorem kM_p (n : Int) (g : Gr) (B : Int → Int) {x : Int} (hx : 0 ≤ x ∧ x ≤ 4) : (0 ≤ kM n g B x ∧ kM n g B x ≤ 4) ∧ rr n g B x (kM n g B x) ∧ ∀ y, 0 ≤ y → y ≤ 4 → rr n g B x y → kM n g B x ≤ y := by
  unfold kM
  by_cases e0 : rr n g B x 0
  · rw [if_pos e0]
    exact ⟨⟨by decide, by decide⟩, e0, fun y y0 _ _ => y0⟩
  rw [if_neg e0]
  by_cases e1 : rr n g B x 1
  · rw [if_pos e1]
    refine ⟨⟨by decide, by decide⟩, e1, fun y y0 y1 hy => ?_⟩
    by_cases q : y = 0
    · rw [q] at hy; exact absurd hy e0
    · omega
  rw [if_neg e1]
  by_cases e2 : rr n g B x 2
  · rw [if_pos e2]
    refine ⟨⟨by decide, by decide⟩, e2, fun y y0 y1 hy => ?_⟩
    by_cases q : y = 0
    · rw [q] at hy; exact absurd hy e0
    by_cases q : y = 1
    · rw [q] at hy; exact absurd hy e1
    · omega
  rw [if_neg e2]
  by_cases e3 : rr n g B x 3
  · rw [if_pos e3]
    refine ⟨⟨by decide, by decide⟩, e3, fun y y0 y1 hy => ?_⟩
    by_cases q : y = 0
    · rw [q] at hy; exact absurd hy e0
    by_cases q : y = 1
    · rw [q] at hy; exact absurd hy e1
    by_cases q : y = 2
    · rw [q] at hy; exact absurd hy e2
    · omega
  rw [if_neg e3]
  have key : ∀ y, 0 ≤ y → y ≤ 4 → rr n g B x y → y = 4 := by
    intro y y0 y1 hy
    by_cases q : y = 0
    · rw [q] at hy; exact absurd hy e0
    by_cases q : y = 1
    · rw [q] at hy; exact absurd hy e1
    by_cases q : y = 2
    · rw [q] at hy; exact absurd hy e2
    by_cases q : y = 3
    · rw [q] at hy; exact absurd hy e3
    · omega
  have h4 := key x hx.1 hx.2 (rr_refl x)
  refine ⟨⟨by decide, by decide⟩, by rw [h4]; exact rr_refl 4, fun y y0 y1 hy => ?_⟩
  rw [key y y0 y1 hy]
  decide
theorem kM_rr {n : Int} {g : Gr} {B : Int → Int} {x y : Int} (hx : 0 ≤ x ∧ x ≤ 4) (hy : 0 ≤ y ∧ y ≤ 4) (h : rr n g B x y) : kM n g B x = kM n g B y := by
  obtain ⟨a1, a2, a3⟩ := kM_p n g B hx
  obtain ⟨b1, b2, b3⟩ := kM_p n g B hy
  have h1 := a3 _ b1.1 b1.2 (rr_trans h b2)
  have h2 := b3 _ a1.1 a1.2 (rr_trans (rr_sym h) a2)
  omega
theorem kM_le {n : Int} {g : Gr} {B : Int → Int} {x : Int} (hx : 0 ≤ x ∧ x ≤ 4) : kM n g B x ≤ x := (kM_p n g B hx).2.2 x hx.1 hx.2 (rr_refl x)
/-- what is known of a row that leads colours to less ones -/
abbrev KI (n : Int) (g : Gr) (B K : Int → Int) : Prop := ∀ x, 0 ≤ x → x < 5 → (0 ≤ K x ∧ K x ≤ x) ∧ rr n g B x (K x)
theorem KI_ge {n : Int} {g : Gr} {B K : Int → Int} (h : KI n g B K) {x : Int} (hx : 0 ≤ x ∧ x < 5) : kM n g B x ≤ K x := by
  obtain ⟨h1, h2⟩ := h x hx.1 hx.2
  exact (kM_p n g B ⟨hx.1, by omega⟩).2.2 _ h1.1 (by omega) h2
theorem KI_u {n : Int} {g : Gr} {B K : Int → Int} (hg : rgn n g) (h : KI n g B K) (hr : ∀ x y, r1 n g B x y → K x = K y) {x : Int} (hx : 0 ≤ x ∧ x < 5) : K x = kM n g B x := by
  obtain ⟨a1, a2, a3⟩ := kM_p n g B (x := x) ⟨hx.1, by omega⟩
  have h1 : K (kM n g B x) = K x := a2 (fun z => K z = K x) rfl (fun u v huv hu => by rw [← hr u v huv]; exact hu)
  have h2 := (h (kM n g B x) a1.1 (by omega)).1.2
  have h3 := KI_ge h hx
  omega
/-- the number of a colour's kind -/
def kN (K : Int → Int) (m : Int) : Int := zi (fun i s => if K i = i then s + 1 else s) 0 m
theorem kN_s {K : Int → Int} {m : Int} (h : 0 ≤ m) : kN K (m + 1) = if K m = m then kN K m + 1 else kN K m := zi_s _ _ h
theorem kN_b {K : Int → Int} {m : Int} (h : 0 ≤ m) : 0 ≤ kN K m ∧ kN K m ≤ m := by
  refine zi_inv (P := fun i r => 0 ≤ r ∧ r ≤ i) h ⟨by decide, by decide⟩ (fun i r i0 i1 h => ?_)
  split <;> omega
theorem kN_congr {K K' : Int → Int} {m : Int} (h : ∀ i, 0 ≤ i → i < m → K i = K' i) : kN K m = kN K' m := zi_congr fun i r i0 i1 => by rw [h i i0 i1]
/-- the quotient's colours -/
noncomputable def qk (n : Int) (g : Gr) (S c : Int) : Int := kN (kM n g (bst g S n).1) (kM n g (bst g S n).1 c)
def qr (g : Gr) (S n p : Int) : Int := sc1 n (fun a => if (bst g S n).1 a = p then a + 1 else 0) - 1
noncomputable def gQ (n : Int) (g : Gr) (S : Int) : Gr := fun p q => qk n g S (g (qr g S n p) (qr g S n q))
def zQ (n : Int) (g : Gr) (S : Int) : Int := (bst g S n).2
theorem qk_b {n : Int} {g : Gr} {S c : Int} (hc : 0 ≤ c ∧ c ≤ 4) : 0 ≤ qk n g S c ∧ qk n g S c ≤ 4 := by
  have h1 := (kM_p n g (bst g S n).1 hc).1
  have h2 := kN_b (K := kM n g (bst g S n).1) h1.1
  unfold qk
  omega
theorem qr_p {n : Int} {g : Gr} {S p : Int} (hn : 0 ≤ n) (hp : 0 ≤ p ∧ p < zQ n g S) : (0 ≤ qr g S n p ∧ qr g S n p < n) ∧ (bst g S n).1 (qr g S n p) = p := by
  obtain ⟨-, -, h3⟩ := BI_all (g := g) (S := S) n hn
  obtain ⟨x, x0, x1, x2⟩ := h3 p hp.1 hp.2
  unfold qr
  have hne : sc1 n (fun a => if (bst g S n).1 a = p then a + 1 else 0) ≠ 0 := by
    intro h
    have := sc1_z hn h x x0 x1
    rw [if_pos x2] at this
    omega
  obtain ⟨b, b0, b1, b2, -⟩ := sc1_ex hn hne
  rw [b2] at hne ⊢
  by_cases e : (bst g S n).1 b = p
  · rw [if_pos e]
    rw [show b + 1 - 1 = b by omega]
    exact ⟨⟨b0, b1⟩, e⟩
  · rw [if_neg e] at hne
    exact absurd rfl hne
theorem zQ_b {n : Int} {g : Gr} {S : Int} (hn : 1 ≤ n ∧ n ≤ 8) : 1 ≤ zQ n g S ∧ zQ n g S ≤ 8 := by
  obtain ⟨h1, h2, -⟩ := BI_all (g := g) (S := S) n (by omega)
  have h3 := h2 0 (by omega) (by omega)
  unfold zQ
  omega
theorem gQ_r {n : Int} {g : Gr} {S : Int} (hn : 1 ≤ n ∧ n ≤ 8) (hg : rgn n g) : rgn (zQ n g S) (gQ n g S) := by
  intro p q p0 p1 q0 q1
  have h1 := qr_p (n := n) (g := g) (S := S) (p := p) (by omega) ⟨p0, p1⟩
  have h2 := qr_p (n := n) (g := g) (S := S) (p := q) (by omega) ⟨q0, q1⟩
  exact qk_b (hg _ _ h1.1.1 h1.1.2 h2.1.1 h2.1.2)
theorem qk_w {n : Int} {g : Gr} {S a b c d : Int} (hg : rgn n g) (ha : 0 ≤ a ∧ a < n) (hb : 0 ≤ b ∧ b < n) (hc : 0 ≤ c ∧ c < n) (hd : 0 ≤ d ∧ d < n) (h1 : (bst g S n).1 a = (bst g S n).1 c) (h2 : (bst g S n).1 b = (bst g S n).1 d) : qk n g S (g a b) = qk n g S (g c d) := by
  have := kM_rr (n := n) (g := g) (B := (bst g S n).1) (hg a b ha.1 ha.2 hb.1 hb.2) (hg c d hc.1 hc.2 hd.1 hd.2) (rr_r1 ⟨a, b, c, d, ha, hb, hc, hd, h1, h2, rfl, rfl⟩)
  unfold qk
  rw [this]
theorem gQ_at {n : Int} {g : Gr} {S a b : Int} (hn : 1 ≤ n ∧ n ≤ 8) (hg : rgn n g) (ha : 0 ≤ a ∧ a < n) (hb : 0 ≤ b ∧ b < n) : gQ n g S ((bst g S n).1 a) ((bst g S n).1 b) = qk n g S (g a b) := by
  obtain ⟨-, h2, -⟩ := BI_all (g := g) (S := S) n (by omega)
  have q1 := qr_p (n := n) (g := g) (S := S) (p := (bst g S n).1 a) (by omega) (h2 a ha.1 ha.2)
  have q2 := qr_p (n := n) (g := g) (S := S) (p := (bst g S n).1 b) (by omega) (h2 b hb.1 hb.2)
  exact qk_w hg q1.1 q2.1 ha hb q1.2 q2.2
/-! rounds of leading colours to less ones -/
noncomputable def ind (p : Prop) : Int := @ite Int p (Classical.propDecidable p) 1 0
theorem ind_b (p : Prop) : 0 ≤ ind p ∧ ind p ≤ 1 := by
  unfold ind
  by_cases e : p
  · rw [if_pos e]; decide
  · rw [if_neg e]; decide
theorem ind_1 {p : Prop} (h : p) : ind p = 1 := if_pos h
theorem ind_0 {p : Prop} (h : ¬ p) : ind p = 0 := if_neg h
theorem ind_le {p q : Prop} (h : p → q) : ind p ≤ ind q := by
  by_cases e : p
  · rw [ind_1 e, ind_1 (h e)]; decide
  · rw [ind_0 e]; exact (ind_b q).1
noncomputable def cd (P : Int → Prop) : Int := ind (P 0) + ind (P 1) + ind (P 2) + ind (P 3) + ind (P 4)
theorem cd_lt {P Q : Int → Prop} (h : ∀ i, 0 ≤ i → i < 5 → P i → Q i) {v : Int} (hv : 0 ≤ v ∧ v < 5) (h1 : Q v) (h2 : ¬ P v) : cd P + 1 ≤ cd Q := by
  have t0 := ind_le (h 0 (by decide) (by decide))
  have t1 := ind_le (h 1 (by decide) (by decide))
  have t2 := ind_le (h 2 (by decide) (by decide))
  have t3 := ind_le (h 3 (by decide) (by decide))
  have t4 := ind_le (h 4 (by decide) (by decide))
  have s1 := ind_1 h1
  have s2 := ind_0 h2
  unfold cd
  rcases five (c := v) ⟨hv.1, by omega⟩ with e | e | e | e | e <;> rw [e] at s1 s2 <;> omega
theorem cd_le (P : Int → Prop) : cd P ≤ 5 := by
  have t0 := ind_b (P 0)
  have t1 := ind_b (P 1)
  have t2 := ind_b (P 2)
  have t3 := ind_b (P 3)
  have t4 := ind_b (P 4)
  unfold cd
  omega
theorem cd_1 {P : Int → Prop} (h : P 0) : 1 ≤ cd P := by
  have t0 := ind_1 h
  have t1 := ind_b (P 1)
  have t2 := ind_b (P 2)
  have t3 := ind_b (P 3)
  have t4 := ind_b (P 4)
  unfold cd
  omega
/-- a round: what was right stays, and each neighbour of what was right gets right -/
theorem rnd {n : Int} {g : Gr} {B K0 K : Int → Int} {r : Int} (hg : rgn n g) (hK0 : KI n g B K0) (h0 : (∀ x, 0 ≤ x → x < 5 → K0 x = kM n g B x) ∨ 1 + r ≤ cd (fun x => K0 x = kM n g B x)) (hs : ∀ x, 0 ≤ x → x < 5 → K0 x = kM n g B x → K x = kM n g B x) (hr : ∀ u v, r1 n g B u v → K0 u = kM n g B u → K v = kM n g B v) :
    (∀ x, 0 ≤ x → x < 5 → K x = kM n g B x) ∨ 1 + (r + 1) ≤ cd (fun x => K x = kM n g B x) := by
  rcases h0 with h0 | h0
  · exact Or.inl fun x x0 x1 => hs x x0 x1 (h0 x x0 x1)
  · by_cases all : ∀ x, 0 ≤ x → x < 5 → K0 x = kM n g B x
    · exact Or.inl fun x x0 x1 => hs x x0 x1 (all x x0 x1)
    · right
      by_cases ex : ∃ v, (0 ≤ v ∧ v < 5) ∧ K v = kM n g B v ∧ ¬ K0 v = kM n g B v
      · obtain ⟨v, hv, h1, h2⟩ := ex
        have := cd_lt (P := fun x => K0 x = kM n g B x) (Q := fun x => K x = kM n g B x) hs hv h1 h2
        omega
      · exfalso
        apply all
        intro x x0 x1
        by_cases ht : K0 x = kM n g B x
        · exact ht
        exfalso
        obtain ⟨a1, a2, a3⟩ := kM_p n g B (x := x) ⟨x0, by omega⟩
        have hl : K0 (kM n g B x) = kM n g B (kM n g B x) := by
          have e := kM_rr (x := x) (y := kM n g B x) ⟨x0, by omega⟩ a1 a2
          have l1 := (hK0 (kM n g B x) a1.1 (by omega)).1.2
          have l2 := KI_ge hK0 (x := kM n g B x) ⟨a1.1, by omega⟩
          omega
        have key : (K0 x = kM n g B x ∨ ¬ (0 ≤ x ∧ x < 5)) := rr_sym a2 (fun z => K0 z = kM n g B z ∨ ¬ (0 ≤ z ∧ z < 5)) (Or.inl hl) (by
          intro u v huv hu
          have hv5 : 0 ≤ v ∧ v < 5 := by
            obtain ⟨a, b, c, d, h1, h2, h3, h4, h5, h6, h7, h8⟩ := huv
            have := hg c d h3.1 h3.2 h4.1 h4.2
            omega
          have hu5 : 0 ≤ u ∧ u < 5 := by
            obtain ⟨a, b, c, d, h1, h2, h3, h4, h5, h6, h7, h8⟩ := huv
            have := hg a b h1.1 h1.2 h2.1 h2.2
            omega
          rcases hu with hu | hu
          · have h1 := hr u v huv hu
            by_cases q : K0 v = kM n g B v
            · exact Or.inl q
            · exact absurd ⟨v, hv5, h1, q⟩ ex
          · exact absurd hu5 hu)
        rcases key with q | q
        · exact ht q
        · exact q ⟨x0, x1⟩
