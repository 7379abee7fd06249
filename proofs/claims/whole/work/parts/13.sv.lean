/-! the sieve, as numbers -/
theorem mb {x y : Int} (A B : Int) (hx : -A ≤ x ∧ x ≤ A) (hy : -B ≤ y ∧ y ≤ B) : -(A * B) ≤ x * y ∧ x * y ≤ A * B := by
  have h1 : x.natAbs ≤ A.toNat := by omega
  have h2 : y.natAbs ≤ B.toNat := by omega
  have h3 := Nat.mul_le_mul h1 h2
  rw [← Int.natAbs_mul] at h3
  have h4 : ((A.toNat * B.toNat : Nat) : Int) = A * B := by
    rw [Int.natCast_mul, Int.toNat_of_nonneg (by omega), Int.toNat_of_nonneg (by omega)]
  have h5 : (((x * y).natAbs : Nat) : Int) ≤ ((A.toNat * B.toNat : Nat) : Int) := by omega
  rw [h4] at h5
  omega
theorem sq_nn (x : Int) : 0 ≤ x * x := by
  rw [← Int.natAbs_mul_self]
  omega
theorem sq_le {a b : Int} (h0 : 0 ≤ a) (h : a ≤ b) : a * a ≤ b * b := Int.mul_le_mul h h h0 (by omega)
theorem sq_lt {a b : Int} (h0 : 0 ≤ a) (h : a < b) : a * a < b * b := by
  have h1 := sq_le h0 (show a ≤ b - 1 by omega)
  have h2 : (b - 1) * (b - 1) = b * b - 2 * b + 1 := by
    rw [Int.sub_mul, Int.mul_sub]
    omega
  omega
theorem tdiv_b {x y : Int} (B : Int) (hx : -B ≤ x ∧ x ≤ B) (hy : 0 < y) : -B ≤ x.tdiv y ∧ x.tdiv y ≤ B := by
  by_cases h : 0 ≤ x
  · rw [Int.tdiv_eq_ediv_of_nonneg h]
    have h1 := Int.ediv_nonneg h (Int.le_of_lt hy)
    have h2 := Int.ediv_le_self y h
    omega
  · have e : x = -(-x) := by omega
    rw [e, Int.neg_tdiv, Int.tdiv_eq_ediv_of_nonneg (by omega)]
    have h1 := Int.ediv_nonneg (show 0 ≤ -x by omega) (Int.le_of_lt hy)
    have h2 := Int.ediv_le_self y (show 0 ≤ -x by omega)
    omega
theorem tmod_b {x y : Int} (B : Int) (hx : -B ≤ x ∧ x ≤ B) (hy : 0 < y ∧ y ≤ 1000) : -1000 ≤ x.tmod y ∧ x.tmod y ≤ 1000 := by
  by_cases h : 0 ≤ x
  · rw [Int.tmod_eq_emod_of_nonneg h]
    have h1 := Int.emod_nonneg x (show y ≠ 0 by omega)
    have h2 := Int.emod_lt_of_pos x hy.1
    omega
  · have e : x = -(-x) := by omega
    rw [e, Int.neg_tmod, Int.tmod_eq_emod_of_nonneg (by omega)]
    have h1 := Int.emod_nonneg (-x) (show y ≠ 0 by omega)
    have h2 := Int.emod_lt_of_pos (-x) hy.1
    omega
/-- the least root not below -/
def rt (d : Int) : Int := zi (fun _ r => if r * r < d then r + 1 else r) 0 201
theorem rt_p {d : Int} (hd : 0 ≤ d ∧ d ≤ 40000) : (0 ≤ rt d ∧ rt d ≤ 200) ∧ d ≤ rt d * rt d ∧ ∀ s, 0 ≤ s → s < rt d → s * s < d := by
  have := zi_inv (f := fun _ r => if r * r < d then r + 1 else r) (s := 0) (P := fun i r => (0 ≤ r ∧ r ≤ 200 ∧ r ≤ i) ∧ (r = i ∨ d ≤ r * r) ∧ ∀ s, 0 ≤ s → s < r → s * s < d) (n := 201) (by decide) ⟨⟨by decide, by decide, by decide⟩, Or.inl rfl, fun s a b => by omega⟩ (fun i r i0 i1 ⟨h1, h2, h3⟩ => by
    by_cases e : r * r < d
    · rw [if_pos e]
      have hr : r < 200 := by
        rcases Int.lt_or_le r 200 with q | q
        · exact q
        · have := sq_le (a := 200) (by decide) q
          omega
      refine ⟨⟨by omega, by omega, by omega⟩, ?_, fun s s0 s1 => ?_⟩
      · rcases h2 with h2 | h2
        · exact Or.inl (by omega)
        · omega
      · by_cases e2 : s = r
        · rw [e2]; exact e
        · exact h3 s s0 (by omega)
    · rw [if_neg e]
      exact ⟨⟨h1.1, h1.2.1, by omega⟩, Or.inr (by omega), h3⟩)
  obtain ⟨h1, h2, h3⟩ := this
  refine ⟨⟨h1.1, h1.2.1⟩, ?_, h3⟩
  rcases h2 with h2 | h2
  · have : rt d = 201 := h2
    have h9 : rt d ≤ 200 := h1.2.1
    omega
  · exact h2
theorem rt_u {d q : Int} (hd : 0 ≤ d ∧ d ≤ 40000) (hq : 0 ≤ q) (h1 : d ≤ q * q) (h2 : ∀ s, 0 ≤ s → s < q → s * s < d) : q = rt d := by
  obtain ⟨g1, g2, g3⟩ := rt_p hd
  rcases Int.lt_trichotomy q (rt d) with h | h | h
  · have := g3 q hq h
    omega
  · exact h
  · have := h2 (rt d) g1.1 h
    omega
theorem rt_e {d q : Int} (hd : 0 ≤ d ∧ d ≤ 40000) (hq : 0 ≤ q) (h1 : q * q = d) : q = rt d := rt_u hd hq (by omega) (fun s s0 s1 => by have := sq_lt s0 s1; omega)
abbrev bb (k r s : Int) : Prop := (k + r) * (s + 1) * (s + 1) < (r + 1) * (k + r + 2 * r * s)
abbrev sD (k l m : Int) : Int := (l - m) * (l - m) + 4 * (k - m)
abbrev sC (n k l m : Int) : Int := 2 * k + (n - 1) * (l - m)
def sv3 (n k m f g : Int) : Int := if (0 < m ∧ m < k) ∧ (f * (f + 3) < 2 * n ∨ g * (g + 3) < 2 * n) then 4 else 0
def sv2 (n k m c r s q : Int) : Int := if bb k r s ∨ bb k s r then 3 else sv3 n k m ((n - 1 - c.tdiv q).tdiv 2) ((n - 1 + c.tdiv q).tdiv 2)
/-- by which condition a table fails -/
def sv (n k l m : Int) : Int := if k * (k - l - 1) ≠ (n - k - 1) * m then 1 else if sD k l m = 0 then 2 else if sC n k l m = 0 then (if n % 2 = 0 then 2 else 0) else
  if rt (sD k l m) * rt (sD k l m) ≠ sD k l m ∨ (sC n k l m).tmod (rt (sD k l m)) ≠ 0 ∨ (n - 1 + (sC n k l m).tdiv (rt (sD k l m))).tmod 2 ≠ 0 then 2 else
    sv2 n k m (sC n k l m) ((l - m + rt (sD k l m)).tdiv 2) ((l - m - rt (sD k l m)).tdiv 2) (rt (sD k l m))
abbrev svI (n k l m : Int) : Prop := (2 ≤ n ∧ n ≤ 200) ∧ (1 ≤ k ∧ k ≤ n - 2) ∧ (0 ≤ l ∧ l ≤ k - 1) ∧ (0 ≤ m ∧ m ≤ k)
theorem sv_b {n k l m : Int} (h : svI n k l m) : (0 ≤ (l - m) * (l - m) ∧ (l - m) * (l - m) ≤ 39204) ∧ (-39402 ≤ (n - 1) * (l - m) ∧ (n - 1) * (l - m) ≤ 39402) ∧ (-40000 ≤ k * (k - l - 1) ∧ k * (k - l - 1) ≤ 40000) ∧ (-40000 ≤ (n - k - 1) * m ∧ (n - k - 1) * m ≤ 40000) := by
  have h1 := mb (x := l - m) (y := l - m) 198 198 (by omega) (by omega)
  have h2 := sq_nn (l - m)
  have h3 := mb (x := n - 1) (y := l - m) 199 198 (by omega) (by omega)
  have h4 := mb (x := k) (y := k - l - 1) 200 200 (by omega) (by omega)
  have h5 := mb (x := n - k - 1) (y := m) 200 200 (by omega) (by omega)
  refine ⟨⟨h2, by omega⟩, ⟨by omega, by omega⟩, ⟨by omega, by omega⟩, ⟨by omega, by omega⟩⟩
theorem bb_r {k r s : Int} (hk : 0 ≤ k ∧ k ≤ 200) (hr : -400 ≤ r ∧ r ≤ 400) (hs : -400 ≤ s ∧ s ≤ 400) : (-200000000 ≤ (k + r) * (s + 1) * (s + 1) ∧ (k + r) * (s + 1) * (s + 1) ≤ 200000000) ∧ (-200000000 ≤ (r + 1) * (k + r + 2 * r * s) ∧ (r + 1) * (k + r + 2 * r * s) ≤ 200000000) := by
  have h1 := mb (x := k + r) (y := s + 1) 600 401 (by omega) (by omega)
  have h2 := mb (x := (k + r) * (s + 1)) (y := s + 1) 240600 401 (by omega) (by omega)
  have h3 := mb (x := 2 * r) (y := s) 800 400 (by omega) (by omega)
  have h4 := mb (x := r + 1) (y := k + r + 2 * r * s) 401 320600 (by omega) (by omega)
  omega
theorem bb_c (r s : Int) : 2 * s * r = 2 * r * s := by rw [Int.mul_assoc, Int.mul_comm s r, ← Int.mul_assoc]
theorem ff_r {f : Int} (h : -40000 ≤ f ∧ f ≤ 40000) : -1601000000 ≤ f * (f + 3) ∧ f * (f + 3) ≤ 1601000000 := by
  have := mb (x := f) (y := f + 3) 40000 40003 (by omega) (by omega)
  omega
/-- how many pass -/
def mnm (n k l m : Int) (s : Int) : Int := zi (fun m s => if sv n k l m = 0 then s + 1 else s) s m
def mnl (n k l s : Int) : Int := zi (fun l s => mnm n k l (k + 1) s) s l
def mnk (n k s : Int) : Int := zi (fun i s => mnl n (i + 1) (i + 1) s) s k
def mn (n : Int) : Int := mnk n ((n - 1) / 2) 0
theorem mnm_s {n k l m s : Int} (h : 0 ≤ m) : mnm n k l (m + 1) s = if sv n k l m = 0 then mnm n k l m s + 1 else mnm n k l m s := zi_s _ _ h
theorem mnl_s {n k l s : Int} (h : 0 ≤ l) : mnl n k (l + 1) s = mnm n k l (k + 1) (mnl n k l s) := zi_s _ _ h
theorem mnk_s {n k s : Int} (h : 0 ≤ k) : mnk n (k + 1) s = mnl n (k + 1) (k + 1) (mnk n k s) := zi_s _ _ h
theorem sv_r (n k l m : Int) : 0 ≤ sv n k l m ∧ sv n k l m ≤ 4 := by
  unfold sv sv2 sv3
  repeat' split
  all_goals omega
