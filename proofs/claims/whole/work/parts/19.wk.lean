/-! walks, as numbers -/
def gd (x y : Int) : Int := ((Nat.gcd x.toNat y.toNat : Nat) : Int)
theorem gd_0 {x : Int} (h : 0 ≤ x) : gd x 0 = x := by
  unfold gd
  simp
  omega
theorem gd_s {x y : Int} (hx : 0 ≤ x) (hy : 0 < y) : gd y (x % y) = gd x y := by
  unfold gd
  have e : (x % y).toNat = x.toNat % y.toNat := by
    have h1 : ((x.toNat % y.toNat : Nat) : Int) = x % y := by
      rw [Int.natCast_emod, Int.toNat_of_nonneg hx, Int.toNat_of_nonneg (by omega)]
    omega
  rw [e, Nat.gcd_comm y.toNat, ← Nat.gcd_rec, Nat.gcd_comm]
theorem gd_b {x y : Int} (hx : 0 ≤ x) (hy : 0 < y) : 0 < gd x y ∧ gd x y ≤ y := by
  unfold gd
  have h1 : 0 < y.toNat := by omega
  have h2 := Nat.gcd_pos_of_pos_right x.toNat h1
  have h3 := Nat.gcd_le_right x.toNat h1
  omega
theorem gd_b1 {x y : Int} (hx : 0 < x) (hy : 0 ≤ y) : 0 < gd x y ∧ gd x y ≤ x := by
  unfold gd
  have h1 : 0 < x.toNat := by omega
  have h2 := Nat.gcd_pos_of_pos_left y.toNat h1
  have h3 := Nat.gcd_le_left y.toNat h1
  omega
theorem em_b {x y : Int} (hy : 0 < y) : 0 ≤ x % y ∧ x % y < y := ⟨Int.emod_nonneg x (by omega), Int.emod_lt_of_pos x hy⟩
theorem em_h {x y : Int} (hy : 0 < y) (hxy : y < x) : 2 * (x % y) < x := by
  have h1 := em_b (x := x) hy
  have h2 := Int.emod_add_mul_ediv x y
  have h3 : 1 ≤ x / y := by
    have := Int.le_ediv_of_mul_le hy (show 1 * y ≤ x by omega)
    exact this
  have h4 := Int.mul_le_mul_of_nonneg_left h3 (Int.le_of_lt hy)
  omega
/-- a bound that is halved at every other step -/
def hb (i : Int) : Int := zi (fun j b => if j % 2 = 1 then b / 2 else b) 9223372036854775808 i
theorem hb_s {i : Int} (h : 0 ≤ i) : hb (i + 1) = if i % 2 = 1 then hb i / 2 else hb i := zi_s _ _ h
theorem hb_200 : hb 200 = 0 := by decide +kernel
/-- the least common multiple of the degrees, colour by colour -/
def lm (n : Int) (g : Gr) (c : Int) : Int := zi (fun c m => m / gd m (dg n g c) * dg n g c) 1 c
theorem lm_s {n : Int} {g : Gr} {c : Int} (h : 0 ≤ c) : lm n g (c + 1) = lm n g c / gd (lm n g c) (dg n g c) * dg n g c := zi_s _ _ h
theorem dg_dgq (n : Int) (g : Gr) (i : Int) : dg n g i = dgq g 0 i n := rfl
theorem dg_sum {n : Int} {g : Gr} (hg : rgn n g) : ∀ k : Nat, (k : Int) ≤ n → dg k g 0 + dg k g 1 + dg k g 2 + dg k g 3 + dg k g 4 = k := by
  intro k
  induction k with
  | zero => intro _; rfl
  | succ k ih =>
    intro hk
    have h1 : ((k + 1 : Nat) : Int) = (k : Int) + 1 := by omega
    have ih := ih (by omega)
    rw [h1, dg_s (by omega), dg_s (by omega), dg_s (by omega), dg_s (by omega), dg_s (by omega)]
    have h2 := hg 0 k (by decide) (by omega) (by omega) (by omega)
    rcases five h2 with h | h | h | h | h <;> rw [h] <;> simp <;> omega
theorem dgq_pos {g : Gr} {a i n b : Int} (hb : 0 ≤ b ∧ b < n) (h : g a b = i) : 0 < dgq g a i n := by
  have := zi_inv (f := fun e s => if g a e = i then s + 1 else s) (s := 0) (P := fun m s => 0 ≤ s ∧ (b < m → 0 < s)) (n := n) (by omega) ⟨Int.le_refl _, fun h => by omega⟩ (fun x r x0 x1 ⟨h1, h2⟩ => by
    by_cases q : g a x = i
    · rw [if_pos q]
      exact ⟨by omega, fun _ => by omega⟩
    · rw [if_neg q]
      refine ⟨h1, fun hh => ?_⟩
      by_cases e2 : b = x
      · rw [e2] at h; exact absurd h q
      · exact h2 (by omega))
  exact this.2 hb.2
theorem ev_dpos {n : Int} {g : Gr} (h : evn n g) {c : Int} (hc : 0 ≤ c ∧ c < rk n g) : 1 ≤ dg n g c := by
  obtain ⟨hn, hg, hf⟩ := id h
  obtain ⟨f1, f2, f3, f4⟩ := fl_z (by omega) hf
  have hR := rk_b (n := n) (g := g) (by omega) hg
  obtain ⟨a, b, ha, hb, hab, -⟩ := fp_ex (n := n) (g := g) ⟨by omega, by omega⟩ (f2 c hc.1 (by omega) hc.2)
  have h1 := dgq_pos (g := g) (a := a) hb hab
  rw [ev_deg h ha ⟨hc.1, by omega⟩] at h1
  rw [dg_dgq]
  omega
theorem ev_d0 {n : Int} {g : Gr} (h : evn n g) : dg n g 0 = 1 := by
  obtain ⟨hn, hg, hf⟩ := h
  obtain ⟨f1, f2, f3, f4⟩ := fl_z (by omega) hf
  have key : ∀ k : Nat, (k : Int) + 1 ≤ n → dg ((k : Int) + 1) g 0 = 1 := by
    intro k
    induction k with
    | zero =>
      intro _
      have : dg (0 + 1) g 0 = 1 := by
        rw [dg_s (by decide), if_pos ((f1 0 0 (by omega) (by omega) (by omega) (by omega)).mpr rfl)]
        rfl
      exact this
    | succ k ih =>
      intro hk
      have h1 : ((k + 1 : Nat) : Int) = (k : Int) + 1 := by omega
      rw [h1, dg_s (by omega), ih (by omega), if_neg (fun q => by
        have := (f1 0 ((k : Int) + 1) (by omega) (by omega) (by omega) (by omega)).mp q
        omega)]
  have := key (n.toNat - 1) (by omega)
  rw [show (((n.toNat - 1 : Nat) : Int)) + 1 = n by omega] at this
  exact this
def lcf (d m : Int) : Int := if d = 0 then m else m / gd m d * d
set_option maxRecDepth 100000 in
theorem lcf_12 : ∀ a b c d : Fin 8, (a.val : Int) + b.val + c.val + d.val ≤ 7 → 1 ≤ lcf d.val (lcf c.val (lcf b.val (lcf a.val 1))) ∧ lcf d.val (lcf c.val (lcf b.val (lcf a.val 1))) ≤ 12 := by decide +kernel
theorem lcf_b {a b c d : Int} (ha : 0 ≤ a) (hb : 0 ≤ b) (hc : 0 ≤ c) (hd : 0 ≤ d) (h : a + b + c + d ≤ 7) : 1 ≤ lcf d (lcf c (lcf b (lcf a 1))) ∧ lcf d (lcf c (lcf b (lcf a 1))) ≤ 12 := by
  have := lcf_12 ⟨a.toNat, by omega⟩ ⟨b.toNat, by omega⟩ ⟨c.toNat, by omega⟩ ⟨d.toNat, by omega⟩
  have e1 : ((a.toNat : Nat) : Int) = a := by omega
  have e2 : ((b.toNat : Nat) : Int) = b := by omega
  have e3 : ((c.toNat : Nat) : Int) = c := by omega
  have e4 : ((d.toNat : Nat) : Int) = d := by omega
  simp only [e1, e2, e3, e4] at this
  exact this h
theorem lm_b {n : Int} {g : Gr} (h : evn n g) : ∀ c, 0 ≤ c → c ≤ rk n g → 1 ≤ lm n g c ∧ lm n g c ≤ 12 := by
  intro c c0 c1
  have hn := h.1
  have hg := h.2.1
  have hR := rk_b (n := n) (g := g) (by omega) hg
  have d0 := ev_d0 h
  have ds := dg_sum hg n.toNat (by omega)
  rw [Int.toNat_of_nonneg (by omega)] at ds
  have b0 := dg_b (n := n) (by omega) g 0
  have b1 := dg_b (n := n) (by omega) g 1
  have b2 := dg_b (n := n) (by omega) g 2
  have b3 := dg_b (n := n) (by omega) g 3
  have b4 := dg_b (n := n) (by omega) g 4
  have st : ∀ i, 0 ≤ i → i < rk n g → lm n g (i + 1) = lcf (dg n g i) (lm n g i) := by
    intro i i0 i1
    have := ev_dpos h ⟨i0, i1⟩
    rw [lm_s i0]
    unfold lcf
    rw [if_neg (by omega)]
  have z : ∀ m, lcf 0 m = m := fun m => if_pos rfl
  have l0 : lm n g 0 = 1 := rfl
  have l1 : lm n g 1 = 1 := by
    have := st 0 (by decide) (by omega)
    rw [d0, l0] at this
    exact this
  have key := fun (x y v w : Int) => @lcf_b x y v w
  rcases (show c = 0 ∨ c = 1 ∨ c = 2 ∨ c = 3 ∨ c = 4 ∨ c = 5 by omega) with e | e | e | e | e | e
  · rw [e, l0]; decide
  · rw [e, l1]; decide
  · have s1 := st 1 (by decide) (by omega)
    rw [l1] at s1
    have k := key (dg n g 1) 0 0 0 b1.1 (by decide) (by decide) (by decide) (by omega)
    rw [z, z, z, ← s1] at k
    rw [e]; exact k
  · have s1 := st 1 (by decide) (by omega)
    have s2 := st 2 (by decide) (by omega)
    rw [l1] at s1
    have s1' : lm n g 2 = lcf (dg n g 1) 1 := s1
    rw [s1'] at s2
    have k := key (dg n g 1) (dg n g 2) 0 0 b1.1 b2.1 (by decide) (by decide) (by omega)
    rw [z, z, ← s2] at k
    rw [e]; exact k
  · have s1 := st 1 (by decide) (by omega)
    have s2 := st 2 (by decide) (by omega)
    have s3 := st 3 (by decide) (by omega)
    rw [l1] at s1
    have s1' : lm n g 2 = lcf (dg n g 1) 1 := s1
    rw [s1'] at s2
    have s2' : lm n g 3 = lcf (dg n g 2) (lcf (dg n g 1) 1) := s2
    rw [s2'] at s3
    have k := key (dg n g 1) (dg n g 2) (dg n g 3) 0 b1.1 b2.1 b3.1 (by decide) (by omega)
    rw [z, ← s3] at k
    rw [e]; exact k
  · have s1 := st 1 (by decide) (by omega)
    have s2 := st 2 (by decide) (by omega)
    have s3 := st 3 (by decide) (by omega)
    have s4 := st 4 (by decide) (by omega)
    rw [l1] at s1
    have s1' : lm n g 2 = lcf (dg n g 1) 1 := s1
    rw [s1'] at s2
    have s2' : lm n g 3 = lcf (dg n g 2) (lcf (dg n g 1) 1) := s2
    rw [s2'] at s3
    have s3' : lm n g 4 = lcf (dg n g 3) (lcf (dg n g 2) (lcf (dg n g 1) 1)) := s3
    rw [s3'] at s4
    have k := key (dg n g 1) (dg n g 2) (dg n g 3) (dg n g 4) b1.1 b2.1 b3.1 b4.1 (by omega)
    rw [← s4] at k
    rw [e]; exact k
/-- the weights of the colours below m, together -/
def wt (V : Int → Int) (m : Int) : Int := zi (fun i s => s + V i) 0 m
theorem wt_s {V : Int → Int} {m : Int} (h : 0 ≤ m) : wt V (m + 1) = wt V m + V m := zi_s _ _ h
abbrev wtI (V : Int → Int) : Prop := ∀ i, 0 ≤ i → i < 5 → 0 ≤ V i ∧ V i ≤ 9
theorem wt_b {V : Int → Int} (hV : wtI V) {m : Int} (h : 0 ≤ m ∧ m ≤ 5) : 0 ≤ wt V m ∧ wt V m ≤ 9 * m := by
  refine zi_inv (P := fun i r => 0 ≤ r ∧ r ≤ 9 * i) h.1 ⟨by decide, by decide⟩ (fun i r i0 i1 hr => ?_)
  have := hV i i0 (by omega)
  omega
abbrev LL (n : Int) (g : Gr) : Int := lm n g (rk n g)
def sh (n : Int) (g : Gr) (V : Int → Int) (c : Int) : Int := V c * (LL n g / dg n g c)
def wys (n : Int) (g : Gr) (V f : Int → Int) (b m : Int) : Int := zi (fun a s => s + f a * sh n g V (g a b)) 0 m
theorem wys_s {n : Int} {g : Gr} {V f : Int → Int} {b m : Int} (h : 0 ≤ m) : wys n g V f b (m + 1) = wys n g V f b m + f m * sh n g V (g m b) := zi_s _ _ h
def wy (n : Int) (g : Gr) (V : Int → Int) (t : Int) : Int → Int := zi (fun _ f => fun b => wys n g V f b n) (fun b => if b = 0 then 1 else 0) t
theorem wy_0 (n : Int) (g : Gr) (V : Int → Int) (b : Int) : wy n g V 0 b = if b = 0 then 1 else 0 := rfl
theorem wy_s {n : Int} {g : Gr} {V : Int → Int} {t : Int} (h : 0 ≤ t) (b : Int) : wy n g V (t + 1) b = wys n g V (wy n g V t) b n := by
  have e : wy n g V (t + 1) = fun b => wys n g V (wy n g V t) b n := zi_s _ _ h
  rw [e]
theorem wys_congr {n : Int} {g : Gr} {V f f' : Int → Int} {b m : Int} (h : ∀ a, 0 ≤ a → a < m → f a = f' a) : wys n g V f b m = wys n g V f' b m := zi_congr fun i r i0 i1 => by rw [h i i0 i1]
def al (w t : Int) : Int := zi (fun _ p => p * w) 1 t
theorem al_s {w t : Int} (h : 0 ≤ t) : al w (t + 1) = al w t * w := zi_s _ _ h
def upw (g : Gr) (f : Int → Int) (i m : Int) : Int := zi (fun b s => if g 0 b = i then s + f b else s) 0 m
theorem upw_s {g : Gr} {f : Int → Int} {i m : Int} (h : 0 ≤ m) : upw g f i (m + 1) = if g 0 m = i then upw g f i m + f m else upw g f i m := zi_s _ _ h
theorem upw_congr {g : Gr} {f f' : Int → Int} {i m : Int} (h : ∀ a, 0 ≤ a → a < m → f a = f' a) : upw g f i m = upw g f' i m := zi_congr fun b r b0 b1 => by rw [h b b0 b1]
abbrev UP (n : Int) (g : Gr) (V : Int → Int) (i t : Int) : Int := upw g (wy n g V t) i n
abbrev AL (n : Int) (g : Gr) (V : Int → Int) (t : Int) : Int := al (wt V (rk n g) * LL n g) t
/-- a chance's upper or lower part -/
def chv (n : Int) (g : Gr) (V : Int → Int) (i t part : Int) : Int := if part = 0 then UP n g V i t / gd (UP n g V i t) (AL n g V t) else AL n g V t / gd (UP n g V i t) (AL n g V t)
theorem mul_b {x y X Y : Int} (hx : 0 ≤ x ∧ x ≤ X) (hy : 0 ≤ y ∧ y ≤ Y) : 0 ≤ x * y ∧ x * y ≤ X * Y := ⟨Int.mul_nonneg hx.1 hy.1, Int.mul_le_mul hx.2 hy.2 hy.1 (by omega)⟩
theorem sh_b {n : Int} {g : Gr} {V : Int → Int} (h : evn n g) (hV : wtI V) {c : Int} (hc : 0 ≤ c ∧ c < rk n g) : 0 ≤ sh n g V c ∧ sh n g V c ≤ 108 := by
  have hn := h.1
  have hR := rk_b (n := n) (g := g) (by omega) h.2.1
  have h1 := ev_dpos h hc
  have h2 : 1 ≤ LL n g ∧ LL n g ≤ 12 := lm_b h (rk n g) (by omega) (Int.le_refl _)
  have h3 : 0 ≤ LL n g / dg n g c := Int.ediv_nonneg (by omega) (by omega)
  have h4 : LL n g / dg n g c ≤ LL n g := Int.ediv_le_self _ (by omega)
  exact mul_b (X := 9) (Y := 12) (hV c hc.1 (by omega)) ⟨h3, by omega⟩
def pb (t : Int) : Int := zi (fun _ p => p * 864) 1 t
theorem pb_s {t : Int} (h : 0 ≤ t) : pb (t + 1) = pb t * 864 := zi_s _ _ h
theorem wys_b {n : Int} {g : Gr} {V f : Int → Int} {B b : Int} (h : evn n g) (hV : wtI V) (hB : 0 ≤ B) (hb : 0 ≤ b ∧ b < n) (hf : ∀ a, 0 ≤ a → a < n → 0 ≤ f a ∧ f a ≤ B) {m : Int} (hm : 0 ≤ m ∧ m ≤ n) : 0 ≤ wys n g V f b m ∧ wys n g V f b m ≤ m * (B * 108) := by
  refine zi_inv (P := fun i r => 0 ≤ r ∧ r ≤ i * (B * 108)) hm.1 ⟨by decide, by rw [Int.zero_mul]; decide⟩ (fun i r i0 i1 hr => ?_)
  have g1 := h.2.1 i b i0 (by omega) hb.1 hb.2
  have g2 := rk_gt (n := n) (g := g) (by omega) (a := i) (b := b) ⟨i0, by omega⟩ hb
  have h2 := mul_b (hf i i0 (by omega)) (sh_b h hV ⟨g1.1, g2⟩)
  rw [Int.add_mul]
  omega
theorem wy_b {n : Int} {g : Gr} {V : Int → Int} (h : evn n g) (hV : wtI V) : ∀ k : Nat, 1 ≤ pb k ∧ ∀ b, 0 ≤ b → b < n → 0 ≤ wy n g V k b ∧ wy n g V k b ≤ pb k := by
  have hn := h.1
  intro k
  induction k with
  | zero =>
    refine ⟨by decide, fun b b0 b1 => ?_⟩
    show 0 ≤ wy n g V 0 b ∧ wy n g V 0 b ≤ 1
    rw [wy_0]
    split <;> omega
  | succ k ih =>
    have h1 : ((k + 1 : Nat) : Int) = (k : Int) + 1 := by omega
    rw [h1, pb_s (by omega)]
    refine ⟨by omega, fun b b0 b1 => ?_⟩
    rw [wy_s (by omega)]
    have h2 := wys_b (B := pb k) h hV (by omega) ⟨b0, b1⟩ ih.2 (m := n) ⟨by omega, Int.le_refl _⟩
    have h3 := mul_b (x := n) (y := pb k * 108) (X := 8) (Y := pb k * 108) ⟨by omega, by omega⟩ ⟨by omega, Int.le_refl _⟩
    omega
theorem pb_m {t : Int} (h : 0 ≤ t ∧ t ≤ 6) : pb t ≤ 415989582513831936 := by
  have p0 : pb 0 = 1 := by decide +kernel
  have p1 : pb 1 = 864 := by decide +kernel
  have p2 : pb 2 = 746496 := by decide +kernel
  have p3 : pb 3 = 644972544 := by decide +kernel
  have p4 : pb 4 = 557256278016 := by decide +kernel
  have p5 : pb 5 = 481469424205824 := by decide +kernel
  have p6 : pb 6 = 415989582513831936 := by decide +kernel
  rcases (show t = 0 ∨ t = 1 ∨ t = 2 ∨ t = 3 ∨ t = 4 ∨ t = 5 ∨ t = 6 by omega) with e | e | e | e | e | e | e <;> rw [e] <;> omega
theorem upw_b {n : Int} {g : Gr} {V : Int → Int} (h : evn n g) (hV : wtI V) {t i : Int} (ht : 0 ≤ t ∧ t ≤ 6) : 0 ≤ UP n g V i t ∧ UP n g V i t < 9223372036854775808 := by
  have hn := h.1
  have hw := wy_b h hV t.toNat
  rw [Int.toNat_of_nonneg ht.1] at hw
  have hp := pb_m ht
  have := zi_inv (f := fun b s => if g 0 b = i then s + wy n g V t b else s) (s := 0) (P := fun m s => 0 ≤ s ∧ s ≤ m * 415989582513831936) (n := n) (by omega) ⟨by decide, by decide⟩ (fun b r b0 b1 hr => by
    have h9 := hw.2 b b0 b1
    split <;> omega)
  have e : UP n g V i t = zi (fun b s => if g 0 b = i then s + wy n g V t b else s) 0 n := rfl
  omega
theorem al_b {w : Int} (hw : 1 ≤ w ∧ w ≤ 540) {t : Int} (ht : 0 ≤ t ∧ t ≤ 6) : 0 < al w t ∧ al w t < 9223372036854775808 := by
  have key : ∀ k : Nat, 1 ≤ al w k ∧ al w k ≤ pb k := by
    intro k
    induction k with
    | zero => exact ⟨Int.le_refl 1, Int.le_refl 1⟩
    | succ k ih =>
      have h1 : ((k + 1 : Nat) : Int) = (k : Int) + 1 := by omega
      rw [h1, pb_s (by omega), al_s (by omega)]
      have h2 := mul_b (x := al w k) (y := w) (X := pb k) (Y := 864) ⟨by omega, ih.2⟩ ⟨by omega, by omega⟩
      have h3 := Int.mul_le_mul ih.1 hw.1 (by decide) (by omega)
      omega
  have := key t.toNat
  rw [Int.toNat_of_nonneg ht.1] at this
  have hp := pb_m ht
  omega
theorem AL_b {n : Int} {g : Gr} {V : Int → Int} (h : evn n g) (hV : wtI V) (hw : wt V (rk n g) ≠ 0) {t : Int} (ht : 0 ≤ t ∧ t ≤ 6) : 0 < AL n g V t ∧ AL n g V t < 9223372036854775808 := by
  have hn := h.1
  have hR := rk_b (n := n) (g := g) (by omega) h.2.1
  have h1 := wt_b hV (m := rk n g) ⟨by omega, hR.2⟩
  have h2 : 1 ≤ LL n g ∧ LL n g ≤ 12 := lm_b h (rk n g) (by omega) (Int.le_refl _)
  have h3 := mul_b (x := wt V (rk n g)) (y := LL n g) (X := 45) (Y := 12) ⟨by omega, by omega⟩ ⟨by omega, by omega⟩
  have h4 := Int.mul_le_mul (show 1 ≤ wt V (rk n g) by omega) h2.1 (by decide) (by omega)
  exact al_b ⟨by omega, by omega⟩ ht
