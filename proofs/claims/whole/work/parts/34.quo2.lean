theorem dm {p n : Int} (hn : 0 < n) (h0 : 0 ≤ p) (h1 : p < n * n) : (0 ≤ p / n ∧ p / n < n) ∧ (0 ≤ p % n ∧ p % n < n) :=
  ⟨⟨Int.ediv_nonneg h0 (by omega), Int.ediv_lt_of_lt_mul hn h1⟩, ⟨Int.emod_nonneg p (by omega), Int.emod_lt_of_pos p hn⟩⟩
theorem dm2 {a b n : Int} (ha : 0 ≤ a ∧ a < n) (hb : 0 ≤ b ∧ b < n) : (0 ≤ a * n + b ∧ a * n + b < n * n) ∧ (a * n + b) / n = a ∧ (a * n + b) % n = b := by
  have h1 : 0 ≤ a * n := Int.mul_nonneg ha.1 (by omega)
  have h2 : (a + 1) * n ≤ n * n := Int.mul_le_mul_of_nonneg_right (by omega) (by omega)
  have h3 : (a + 1) * n = a * n + n := by rw [Int.add_mul, Int.one_mul]
  refine ⟨⟨by omega, by omega⟩, ?_, ?_⟩
  · rw [Int.add_comm, Int.add_mul_ediv_right _ _ (by omega), Int.ediv_eq_zero_of_lt hb.1 hb.2]
    omega
  · rw [Int.add_comm, Int.add_mul_emod_self_right, Int.emod_eq_of_lt hb.1 hb.2]
theorem nn_b {n : Int} (hn : 1 ≤ n ∧ n ≤ 8) : 0 ≤ n * n ∧ n * n ≤ 64 := mul_b (X := 8) (Y := 8) ⟨by omega, by omega⟩ ⟨by omega, by omega⟩
def FB (g : Gr) (S : Int) (v x b : Int) : Prop := ((∀ c, b < c → c < x → ¬ bm S (g c x)) ∧ v = (bst g S x).2) ∨ ∃ c, (0 ≤ c ∧ b < c) ∧ c < x ∧ bm S (g c x) ∧ v = (bst g S x).1 c
theorem FB_0 {g : Gr} {S x : Int} : FB g S (bst g S x).2 x (x - 1) := Or.inl ⟨fun c c0 c1 => by exfalso; omega, rfl⟩
theorem FB_1 {g : Gr} {S x b v : Int} (hb : 0 ≤ b ∧ b < x) (h : bm S (g b x)) (hv : v = (bst g S x).1 b) : FB g S v x (b + -1) := Or.inr ⟨b, ⟨by omega, by omega⟩, by omega, h, hv⟩
theorem FB_n {g : Gr} {S x b v : Int} (hb : 0 ≤ b ∧ b < x) (h : ¬ bm S (g b x)) (hv : FB g S v x b) : FB g S v x (b + -1) := by
  rcases hv with ⟨q, e⟩ | ⟨c, c0, c1, c2, e⟩
  · refine Or.inl ⟨fun c c0 c1 => ?_, e⟩
    by_cases f : c = b
    · rw [f]
      exact h
    · exact q c (by omega) c1
  · exact Or.inr ⟨c, ⟨c0.1, by omega⟩, c1, c2, e⟩
theorem FB_r {g : Gr} {S x b v : Int} (hx : 0 ≤ x) (h : FB g S v x b) : 0 ≤ v ∧ v ≤ (bst g S x).2 := by
  obtain ⟨h1, h2, -⟩ := BI_all (g := g) (S := S) x hx
  rcases h with ⟨-, e⟩ | ⟨c, c0, c1, c2, e⟩
  · rw [e]
    omega
  · have := h2 c c0.1 c1
    rw [e]
    omega
theorem bb_nx {n S x : Int} {g : Gr} {L : Int → Int} (h : evn n g) (hS : cld n g S) (hx : 0 ≤ x ∧ x < n) (h1 : ∀ y, 0 ≤ y → y < x → L y = (bst g S x).1 y) (h2 : FB g S (L x) x (-1)) : (∀ y, 0 ≤ y → y < x + 1 → L y = (bst g S (x + 1)).1 y) ∧ (bst g S (x + 1)).2 = (if L x = (bst g S x).2 then (bst g S x).2 + 1 else (bst g S x).2) := by
  have e := bv_first h hS hx (v := L x) (by
    rcases h2 with ⟨q, e⟩ | ⟨c, c0, c1, c2, e⟩
    · exact Or.inl ⟨fun a a0 a1 => q a (by omega) a1, e⟩
    · exact Or.inr ⟨c, c0.1, c1, c2, e⟩)
  rw [bst_s hx.1]
  unfold bstep
  rw [← e]
  refine ⟨fun y y0 y1 => ?_, rfl⟩
  show L y = zz_up (bst g S x).1 x (L x) y
  by_cases f : y = x
  · rw [f, zz_up_s]
  · rw [zz_up_n _ _ f]
    exact h1 y y0 (by omega)
def RI (n : Int) (g : Gr) (B K : Int → Int) (r : Int) : Prop := KI n g B K ∧ ((∀ x, 0 ≤ x → x < 5 → K x = kM n g B x) ∨ 1 + r ≤ cd (fun x => K x = kM n g B x))
theorem RI_0 {n : Int} {g : Gr} {B K : Int → Int} (h : ∀ x, 0 ≤ x → x < 5 → K x = x) : RI n g B K 0 := by
  refine ⟨fun x x0 x1 => ⟨by rw [h x x0 x1]; omega, by rw [h x x0 x1]; exact rr_refl x⟩, Or.inr ?_⟩
  refine cd_1 ?_
  have a := kM_p n g B (x := 0) ⟨by decide, by decide⟩
  have b := kM_le (n := n) (g := g) (B := B) (x := 0) ⟨by decide, by decide⟩
  rw [h 0 (by decide) (by decide)]
  omega
theorem RI_5 {n : Int} {g : Gr} {B K : Int → Int} (h : RI n g B K 5) : ∀ x, 0 ≤ x → x < 5 → K x = kM n g B x := by
  rcases h.2 with q | q
  · exact q
  · have := cd_le (fun x => K x = kM n g B x)
    exfalso
    omega
def QI (n : Int) (g : Gr) (B K0 K : Int → Int) (p q : Int) : Prop := KI n g B K ∧ (∀ x, 0 ≤ x → x < 5 → K x ≤ K0 x) ∧ ∀ u v, 0 ≤ u → u < n * n → 0 ≤ v → v < n * n → lx u v p q → B (u / n) = B (v / n) → B (u % n) = B (v % n) → K (g (u / n) (u % n)) ≤ K0 (g (v / n) (v % n))
theorem QI_0 {n : Int} {g : Gr} {B K : Int → Int} (h : KI n g B K) : QI n g B K K 0 0 := ⟨h, fun x _ _ => Int.le_refl _, fun u v u0 u1 v0 v1 l => by exfalso; omega⟩
theorem QI_r {n : Int} {g : Gr} {B K0 K : Int → Int} {p q : Int} (h : QI n g B K0 K p q) (hq : n * n ≤ q) : QI n g B K0 K (p + 1) 0 := ⟨h.1, h.2.1, fun u v u0 u1 v0 v1 l => h.2.2 u v u0 u1 v0 v1 (by omega)⟩
theorem QI_s0 {n : Int} {g : Gr} {B K0 K : Int → Int} {p q : Int} (h : QI n g B K0 K p q) (e : ¬ (B (p / n) = B (q / n) ∧ B (p % n) = B (q % n))) : QI n g B K0 K p (q + 1) := ⟨h.1, h.2.1, fun u v u0 u1 v0 v1 l a b => by
  by_cases f : u = p ∧ v = q
  · rw [f.1, f.2] at a b
    exact absurd ⟨a, b⟩ e
  · exact h.2.2 u v u0 u1 v0 v1 (by omega) a b⟩
theorem QI_s1 {n : Int} {g : Gr} {B K0 K : Int → Int} {p q : Int} (hg : rgn n g) (hn : 0 < n) (hp : 0 ≤ p ∧ p < n * n) (hq : 0 ≤ q ∧ q < n * n) (h : QI n g B K0 K p q) (e : K (g (p / n) (p % n)) ≤ K (g (q / n) (q % n))) : QI n g B K0 K p (q + 1) := ⟨h.1, h.2.1, fun u v u0 u1 v0 v1 l a b => by
  by_cases f : u = p ∧ v = q
  · rw [f.1, f.2]
    obtain ⟨c1, c2⟩ := dm hn hq.1 hq.2
    have w := hg (q / n) (q % n) c1.1 c1.2 c2.1 c2.2
    have := h.2.1 (g (q / n) (q % n)) w.1 (by omega)
    omega
  · exact h.2.2 u v u0 u1 v0 v1 (by omega) a b⟩
theorem QI_s2 {n : Int} {g : Gr} {B K0 K : Int → Int} {p q : Int} (hg : rgn n g) (hn : 0 < n) (hp : 0 ≤ p ∧ p < n * n) (hq : 0 ≤ q ∧ q < n * n) (h : QI n g B K0 K p q) (hb : B (p / n) = B (q / n) ∧ B (p % n) = B (q % n)) (e : K (g (q / n) (q % n)) < K (g (p / n) (p % n))) : QI n g B K0 (zz_up K (g (p / n) (p % n)) (K (g (q / n) (q % n)))) p (q + 1) := by
  obtain ⟨h1, h2, h3⟩ := h
  obtain ⟨c1, c2⟩ := dm hn hq.1 hq.2
  obtain ⟨d1, d2⟩ := dm hn hp.1 hp.2
  have w := hg (q / n) (q % n) c1.1 c1.2 c2.1 c2.2
  have w2 := hg (p / n) (p % n) d1.1 d1.2 d2.1 d2.2
  have dn : ∀ x, zz_up K (g (p / n) (p % n)) (K (g (q / n) (q % n))) x ≤ K x := fun x => by
    unfold zz_up
    by_cases f : x = g (p / n) (p % n)
    · rw [if_pos f, f]
      omega
    · rw [if_neg f]
      omega
  have ky := h1 (g (q / n) (q % n)) w.1 (by omega)
  have kx := h1 (g (p / n) (p % n)) w2.1 (by omega)
  refine ⟨fun x x0 x1 => ?_, fun x x0 x1 => Int.le_trans (dn x) (h2 x x0 x1), fun u v u0 u1 v0 v1 l a b => ?_⟩
  · unfold zz_up
    by_cases f : x = g (p / n) (p % n)
    · rw [if_pos f, f]
      exact ⟨⟨ky.1.1, by omega⟩, rr_trans (rr_r1 ⟨_, _, _, _, d1, d2, c1, c2, hb.1, hb.2, rfl, rfl⟩) ky.2⟩
    · rw [if_neg f]
      exact h1 x x0 x1
  · by_cases f : u = p ∧ v = q
    · rw [f.1, f.2, zz_up_s]
      exact h2 _ w.1 (by omega)
    · exact Int.le_trans (dn _) (h3 u v u0 u1 v0 v1 (by omega) a b)
theorem QI_e {n : Int} {g : Gr} {B K0 K : Int → Int} {r p : Int} (hg : rgn n g) (hn : 0 < n) (hr : RI n g B K0 r) (h : QI n g B K0 K p 0) (hp : n * n ≤ p) : RI n g B K (r + 1) := by
  obtain ⟨h1, h2, h3⟩ := h
  refine ⟨h1, rnd hg hr.1 hr.2 (fun x x0 x1 e => ?_) (fun u v huv e => ?_)⟩
  · have a := h2 x x0 x1
    have b := KI_ge h1 (x := x) ⟨x0, x1⟩
    omega
  · obtain ⟨a, b, c, d, ha, hb, hc, hd, e1, e2, e3, e4⟩ := id huv
    obtain ⟨p1, p2, p3⟩ := dm2 hc hd
    obtain ⟨q1, q2, q3⟩ := dm2 ha hb
    have t := h3 (c * n + d) (a * n + b) p1.1 p1.2 q1.1 q1.2 (by omega) (by rw [p2, q2, e1]) (by rw [p3, q3, e2])
    rw [p2, p3, q2, q3, e3, e4] at t
    have wu := hg a b ha.1 ha.2 hb.1 hb.2
    have wv := hg c d hc.1 hc.2 hd.1 hd.2
    rw [e3] at wu
    rw [e4] at wv
    have m := kM_rr (n := n) (g := g) (B := B) wu wv (rr_r1 huv)
    have b := KI_ge h1 (x := v) ⟨wv.1, by omega⟩
    omega
def PQ (n : Int) (g : Gr) (S : Int) (C : Int → Int) (x y : Int) : Prop := ∀ u v, 0 ≤ u → u < n → 0 ≤ v → v < n → lx u v x y → C (8 * (bst g S n).1 u + (bst g S n).1 v) = qk n g S (g u v)
theorem PQ_s {n : Int} {g : Gr} {S : Int} {C : Int → Int} {x y w : Int} (hg : rgn n g) (hB : ∀ y, 0 ≤ y → y < n → 0 ≤ (bst g S n).1 y ∧ (bst g S n).1 y < 8) (hx : 0 ≤ x ∧ x < n) (hy : 0 ≤ y ∧ y < n) (h : PQ n g S C x y) (hw : w = qk n g S (g x y)) : PQ n g S (zz_up C (8 * (bst g S n).1 x + (bst g S n).1 y) w) x (y + 1) := fun u v u0 u1 v0 v1 l => by
  have bx := hB x hx.1 hx.2
  have bY := hB y hy.1 hy.2
  have bu := hB u u0 u1
  have bv1 := hB v v0 v1
  rw [up_at bY bv1]
  by_cases e : (bst g S n).1 u = (bst g S n).1 x ∧ (bst g S n).1 v = (bst g S n).1 y
  · rw [if_pos e, hw]
    exact (qk_w hg ⟨u0, u1⟩ ⟨v0, v1⟩ hx hy e.1 e.2).symm
  · rw [if_neg e]
    have q : ¬ (u = x ∧ v = y) := fun q => e ⟨by rw [q.1], by rw [q.2]⟩
    exact h u v u0 u1 v0 v1 (by omega)
theorem PQ_r {n : Int} {g : Gr} {S : Int} {C : Int → Int} {x y : Int} (h : PQ n g S C x y) (hy : n ≤ y) : PQ n g S C (x + 1) 0 := fun u v u0 u1 v0 v1 l => h u v u0 u1 v0 v1 (by omega)
theorem PQ_0 {n : Int} {g : Gr} {S : Int} {C : Int → Int} : PQ n g S C 0 0 := fun u v u0 u1 v0 v1 l => by exfalso; omega
theorem PQ_e {n : Int} {g : Gr} {S : Int} {C : Int → Int} {x : Int} (hn : 0 ≤ n) (h : PQ n g S C x 0) (hx : n ≤ x) : ag (zQ n g S) C (gQ n g S) := fun p q p0 p1 q0 q1 => by
  obtain ⟨a1, a2⟩ := qr_p (n := n) (g := g) (S := S) (p := p) hn ⟨p0, p1⟩
  obtain ⟨b1, b2⟩ := qr_p (n := n) (g := g) (S := S) (p := q) hn ⟨q0, q1⟩
  have t := h _ _ a1.1 a1.2 b1.1 b1.2 (by omega)
  rw [a2, b2] at t
  exact t
