/-! THE ABSTRACT MACHINE: ints are Int (any representative), cells have numbers 0, 1, .. in the order of their making (cell k lies at the address bs.1 + k); rows over the kit's rows. -/
abbrev AV : Type := Int ⊕ (Int ⊕ (Nat ⊕ Bool))
abbrev vI (x : Int) : AV := .inl x
abbrev vJ (x : Int) : AV := .inr (.inl x)
abbrev vR (k : Nat) : AV := .inr (.inr (.inl k))
abbrev vN : AV := .inr (.inr (.inr false))
abbrev vS : AV := .inr (.inr (.inr true))
abbrev AC : Type := (Nat × List AV) ⊕ ((Nat × (Int → Int)) ⊕ (Nat × (Int → Int)))
abbrev cO (c : Nat) (fs : List AV) : AC := .inl (c, fs)
abbrev cA (n : Nat) (f : Int → Int) : AC := .inr (.inl (n, f))
abbrev cL (n : Nat) (f : Int → Int) : AC := .inr (.inr (n, f))
abbrev AH : Type := (Nat × Nat) × (Nat → AC)
def zz_get (h : AH) (k : Nat) : AC := h.2 k
def zz_put (h : AH) (k : Nat) (x : AC) : AH := (h.1, fun j => if j = k then x else h.2 j)
def zz_new (h : AH) (sz : Nat) (x : AC) : AH := ((h.1.1 + 1, h.1.2 + sz), fun j => if j = h.1.1 then x else h.2 j)
def zz_up (f : Int → Int) (i x : Int) : Int → Int := fun j => if j = i then x else f j
theorem zz_get_put (h : AH) (k j : Nat) (x : AC) : zz_get (zz_put h k x) j = if j = k then x else zz_get h j := rfl
theorem zz_get_new (h : AH) (j sz : Nat) (x : AC) : zz_get (zz_new h sz x) j = if j = h.1.1 then x else zz_get h j := rfl
theorem zz_put_put (h : AH) (k : Nat) (x y : AC) : zz_put (zz_put h k x) k y = zz_put h k y := by
  unfold zz_put
  congr 1
  funext j
  by_cases hj : j = k <;> simp [hj]
theorem zz_put_comm (h : AH) (k j : Nat) (x y : AC) (hkj : k ≠ j) : zz_put (zz_put h k x) j y = zz_put (zz_put h j y) k x := by
  unfold zz_put
  congr 1
  funext i
  by_cases h1 : i = k <;> by_cases h2 : i = j <;> simp_all
theorem zz_put_get (h : AH) (k : Nat) (x : AC) (hx : zz_get h k = x) : zz_put h k x = h := by
  subst hx
  unfold zz_put zz_get
  have : (fun j => if j = k then h.2 k else h.2 j) = h.2 := by
    funext j
    by_cases hj : j = k <;> simp [hj]
  rw [this]
theorem zz_up_s (f : Int → Int) (i x : Int) : zz_up f i x i = x := by simp [zz_up]
theorem zz_up_n (f : Int → Int) {i j : Int} (x : Int) (h : j ≠ i) : zz_up f i x j = f j := by simp [zz_up, h]
def zz_tbl : List Cond := lw_tbl.filter goodWord
theorem zz_in {w : Cond} (i : Nat) (h : lw_tbl[i]? = some w) (hg : goodWord w = true) : w ∈ zz_tbl := List.mem_filter.mpr ⟨List.mem_of_getElem? h, hg⟩
/-! what they stand for -/
def zz_cv (bs : Nat × Nat) : AV → Value
  | .inl x => .int (Int32.ofInt x)
  | .inr (.inl x) => .long (Int64.ofInt x)
  | .inr (.inr (.inl k)) => .ref (bs.1 + k)
  | .inr (.inr (.inr false)) => .null
  | .inr (.inr (.inr true)) => .ref bs.2
def zz_ce (cI cJ : ClassId) (bs : Nat × Nat) : AC → va_E
  | .inl (c, fs) => .inr (c, fs.map (zz_cv bs))
  | .inr (.inl (n, f)) => .inl (cI, n, .inl (fun j => Int32.ofInt (f (j : Int))))
  | .inr (.inr (n, f)) => .inl (cJ, n, .inr (.inl (fun j => Int64.ofInt (f (j : Int)))))
def zz_dead : AC := .inl (99, [])
def zz_wd (D : va_G) (cI cJ : ClassId) (bs : Nat × Nat) (h : AH) (H : Heap) : Prop :=
  H.size = bs.1 + h.1.1 ∧ (∀ k, k < h.1.1 → va_at D vwCl (bs.1 + k, zz_ce cI cJ bs (h.2 k)) H) ∧ ∀ k, h.1.1 ≤ k → h.2 k = zz_dead
def zz_lc (bs : Nat × Nat) : Nat → List (Option AV) → List (Nat × Value)
  | _, [] => []
  | i, none :: r => zz_lc bs (i + 1) r
  | i, some v :: r => (i, zz_cv bs v) :: zz_lc bs (i + 1) r
theorem zz_lc_mem (bs : Nat × Nat) : ∀ (L : List (Option AV)) (i k : Nat) (v : AV), L[k]? = some (some v) → (i + k, zz_cv bs v) ∈ zz_lc bs i L := by
  intro L
  induction L with
  | nil => intro i k v h; simp at h
  | cons a r ih =>
    intro i k v h
    cases k with
    | zero =>
      simp only [List.getElem?_cons_zero, Option.some.injEq] at h
      subst h
      simp [zz_lc]
    | succ k =>
      simp only [List.getElem?_cons_succ] at h
      have h1 := ih (i + 1) k v h
      rw [show i + 1 + k = i + (k + 1) by omega] at h1
      cases a with
      | none => simpa [zz_lc] using h1
      | some b => simp only [zz_lc]; exact List.mem_cons_of_mem _ h1
theorem zz_lc_inv (bs : Nat × Nat) : ∀ (L : List (Option AV)) (i : Nat) (q : Nat × Value), q ∈ zz_lc bs i L → ∃ (k : Nat) (v : AV), L[k]? = some (some v) ∧ q = (i + k, zz_cv bs v) := by
  intro L
  induction L with
  | nil => intro i q h; simp [zz_lc] at h
  | cons a r ih =>
    intro i q h
    have go : q ∈ zz_lc bs (i + 1) r → ∃ (k : Nat) (v : AV), (a :: r)[k]? = some (some v) ∧ q = (i + k, zz_cv bs v) := by
      intro h
      obtain ⟨k, v, h1, h2⟩ := ih (i + 1) q h
      exact ⟨k + 1, v, by simpa using h1, by rw [h2, show i + 1 + k = i + (k + 1) by omega]⟩
    cases a with
    | none => exact go (by simpa [zz_lc] using h)
    | some b =>
      simp only [zz_lc] at h
      rcases List.mem_cons.mp h with h | h
      · exact ⟨0, b, by simp, by simpa using h⟩
      · exact go h
theorem zz_lat {bs : Nat × Nat} {L : List (Option AV)} {ls : Array Slot} {nL i : Nat} {v : AV} (h : lv_has ls nL (zz_lc bs 0 L)) (hL : L[i]? = some (some v)) : ls[i]? = some (.val (zz_cv bs v)) := by
  have h1 := h.2.2 _ (zz_lc_mem bs L 0 i v hL)
  simpa using h1
/-- what is said of the locals may be less -/
def zz_le : List (Option AV) → List (Option AV) → Prop
  | [], _ => True
  | none :: a, _ :: b => zz_le a b
  | none :: a, [] => zz_le a []
  | some v :: a, some u :: b => v = u ∧ zz_le a b
  | some _ :: _, none :: _ => False
  | some _ :: _, [] => False
theorem zz_le_at : ∀ (L L' : List (Option AV)), zz_le L' L → ∀ (k : Nat) (v : AV), L'[k]? = some (some v) → L[k]? = some (some v) := by
  intro L L'
  induction L' generalizing L with
  | nil => intro _ k v h; simp at h
  | cons a r ih =>
    intro hle k v h
    cases L with
    | nil =>
      cases a with
      | none =>
        cases k with
        | zero => simp at h
        | succ k =>
          have := ih [] (by simpa [zz_le] using hle) k v (by simpa using h)
          simp at this
      | some u => exact absurd hle (by simp [zz_le])
    | cons b L =>
      cases k with
      | zero =>
        simp only [List.getElem?_cons_zero, Option.some.injEq] at h
        subst h
        cases b with
        | none => exact absurd hle (by simp [zz_le])
        | some u =>
          simp only [zz_le] at hle
          simp [hle.1]
      | succ k =>
        simp only [List.getElem?_cons_succ] at h ⊢
        refine ih L ?_ k v h
        cases a <;> cases b <;> simp only [zz_le] at hle
        · exact hle
        · exact hle
        · exact hle.2
theorem zz_weak {bs : Nat × Nat} {L L' : List (Option AV)} {ls : Array Slot} {nL : Nat} (h : lv_has ls nL (zz_lc bs 0 L)) (hle : zz_le L' L) : lv_has ls nL (zz_lc bs 0 L') := by
  refine ⟨h.1, h.2.1, fun q hq => ?_⟩
  obtain ⟨k, v, h1, h2⟩ := zz_lc_inv bs L' 0 q hq
  rw [h2]
  have := zz_lat h (zz_le_at L L' hle k v h1)
  simpa using this
/-- no long lies just below -/
def zz_nl (L : List (Option AV)) : Nat → Bool
  | 0 => true
  | i + 1 => match L[i]? with
    | some (some (.inr (.inl _))) => false
    | _ => true
theorem zz_cat (bs : Nat × Nat) (v : AV) : (zz_cv bs v).category = match v with | .inr (.inl _) => 2 | _ => 1 := by
  rcases v with x | x | k | b
  · rfl
  · rfl
  · rfl
  · cases b <;> rfl
theorem zz_st1 {bs : Nat × Nat} {L : List (Option AV)} {ls' : Array Slot} {nL i : Nat} {v : AV} (hi : i < L.length) (hn : zz_nl L i = true)
    (h : lv_has ls' nL ((i, zz_cv bs v) :: (zz_lc bs 0 L).filter (fun q => !(q.1 == i) && !(q.1 + 1 == i && q.2.category == 2)))) : lv_has ls' nL (zz_lc bs 0 (L.set i (some v))) := by
  refine ⟨h.1, h.2.1, fun q hq => h.2.2 q ?_⟩
  obtain ⟨k, u, h1, h2⟩ := zz_lc_inv bs _ 0 q hq
  rw [Nat.zero_add] at h2
  subst h2
  by_cases hk : k = i
  · subst hk
    rw [List.getElem?_set_self hi] at h1
    cases h1
    exact List.mem_cons_self
  · rw [List.getElem?_set_ne (Ne.symm hk)] at h1
    refine List.mem_cons_of_mem _ (List.mem_filter.mpr ⟨by have := zz_lc_mem bs L 0 k u h1; simpa using this, ?_⟩)
    have : ¬ (k + 1 = i ∧ (zz_cv bs u).category = 2) := by
      rintro ⟨rfl, hc⟩
      simp only [zz_nl, h1] at hn
      rw [zz_cat] at hc
      rcases u with x | x | x <;> simp_all
    simp only [Bool.and_eq_true, Bool.not_eq_true', beq_eq_false_iff_ne, ne_eq, Bool.and_eq_false_iff]
    refine ⟨hk, ?_⟩
    by_cases h3 : k + 1 = i
    · exact Or.inr fun h4 => this ⟨h3, h4⟩
    · exact Or.inl h3
theorem zz_st2 {bs : Nat × Nat} {L : List (Option AV)} {ls' : Array Slot} {nL i : Nat} {v : AV} (hi : i + 1 < L.length) (hn : zz_nl L i = true)
    (h : lv_has ls' nL ((i, zz_cv bs v) :: (zz_lc bs 0 L).filter (fun q => !(q.1 == i) && (!(q.1 == i + 1) && !(q.1 + 1 == i && q.2.category == 2))))) : lv_has ls' nL (zz_lc bs 0 ((L.set i (some v)).set (i + 1) none)) := by
  refine ⟨h.1, h.2.1, fun q hq => h.2.2 q ?_⟩
  obtain ⟨k, u, h1, h2⟩ := zz_lc_inv bs _ 0 q hq
  rw [Nat.zero_add] at h2
  subst h2
  by_cases hk1 : k = i + 1
  · subst hk1
    rw [List.getElem?_set_self (by simpa using hi)] at h1
    cases h1
  · rw [List.getElem?_set_ne (Ne.symm hk1)] at h1
    by_cases hk : k = i
    · subst hk
      rw [List.getElem?_set_self (by omega)] at h1
      cases h1
      exact List.mem_cons_self
    · rw [List.getElem?_set_ne (Ne.symm hk)] at h1
      refine List.mem_cons_of_mem _ (List.mem_filter.mpr ⟨by have := zz_lc_mem bs L 0 k u h1; simpa using this, ?_⟩)
      have : ¬ (k + 1 = i ∧ (zz_cv bs u).category = 2) := by
        rintro ⟨rfl, hc⟩
        simp only [zz_nl, h1] at hn
        rw [zz_cat] at hc
        rcases u with x | x | x <;> simp_all
      simp only [Bool.and_eq_true, Bool.not_eq_true', beq_eq_false_iff_ne, ne_eq, Bool.and_eq_false_iff]
      refine ⟨hk, hk1, ?_⟩
      by_cases h3 : k + 1 = i
      · exact Or.inr fun h4 => this ⟨h3, h4⟩
      · exact Or.inl h3
/-! the contract's state: launch and frame in one tuple -/
abbrev CT : Type := Program × Launch × Env × Room × State × MethodId × Array Value × List Frame × Method × Code × Nat × va_G × ClassId × ClassId × (Nat × Nat) × (Nat × Nat) × (State → Prop) × (Option AV → AH → Prop) × (Nat × (Nat → Int32))
def zz_ret : CT → Option AV → AH → Prop
  | (p, l, e, R, s, m, args, below, meth, c, nL, D, cI, cJ, bs, NS, Q, RET, SC) => RET
def zz_R : CT → Room
  | (p, l, e, R, s, m, args, below, meth, c, nL, D, cI, cJ, bs, NS, Q, RET, SC) => R
def zz_NS : CT → Nat × Nat
  | (p, l, e, R, s, m, args, below, meth, c, nL, D, cI, cJ, bs, NS, Q, RET, SC) => NS
def zz_scr : CT → Nat × (Nat → Int32)
  | (p, l, e, R, s, m, args, below, meth, c, nL, D, cI, cJ, bs, NS, Q, RET, SC) => SC
/-- from here on the machine comes to Q: with these locals, this stack, these cells -/
def AW : CT → Nat → List (Option AV) → List AV → AH → Prop
  | (p, l, e, R, s, m, args, below, meth, c, nL, D, cI, cJ, bs, NS, Q, RET, SC), pc, L, st, h =>
    ∀ (H : Heap) (locs : List Loc) (ls : Array Slot), zz_wd D cI cJ bs h H → va_S (fun q => bs.1 ≤ q) s.heap H locs → NS.1 ≤ h.1.1 ∧ NS.2 ≤ h.1.2 → lv_has ls nL (zz_lc bs 0 L) →
      W p l e R s m args below meth c H locs (h.1.1 - NS.1) (h.1.2 - NS.2) Q (F0 m pc ls (st.map (zz_cv bs)))
def zz_ok : CT → ByteArray → String → String → Prop
  | (p, l, e, R, s, m, args, below, meth, c, nL, D, cI, cJ, bs, NS, Q, RET, SC), cc, own, mn => p.tables.exec = Jvm.exec ∧ c.code = cc ∧ c.maxLocals = nL ∧ s.vm.findClass own = some m.cls ∧ (∀ w ∈ zz_tbl, w.before args s = true) ∧ s.heap.size = bs.1 + NS.1 ∧
    va_K D vwCl [(cI, .int), (cJ, .long)] s ∧ meth.name = mn
def zz_nl_ : CT → Nat
  | (p, l, e, R, s, m, args, below, meth, c, nL, D, cI, cJ, bs, NS, Q, RET, SC) => nL
/-- the script, where there is one -/
def zz_sc : CT → Prop
  | (p, l, e, R, s, m, args, below, meth, c, nL, D, cI, cJ, bs, NS, Q, RET, SC) => va_X bs.2 SC.1 SC.2 s s.heap ∧ bs.2 < s.heap.size ∧ bs.2 < bs.1
/-- what a return does -/
def zz_rt (X : CT) (cc : ByteArray) : Prop := ∀ (v : Option AV) (h : AH) (pc : Nat) (L : List (Option AV)), zz_ret X v h →
  (match v with
    | none => decode cc pc = .ok (.return_, 1)
    | some (.inl _) => decode cc pc = .ok (.ireturn, 1)
    | some (.inr (.inl _)) => decode cc pc = .ok (.lreturn, 1)
    | _ => False) → AW X pc L v.toList h
def zz_C (X : CT) (cc : ByteArray) (own mn : String) (nL : Nat) : Prop := zz_ok X cc own mn ∧ zz_rt X cc ∧ zz_nl_ X = nL
theorem aw_weak {X : CT} {pc : Nat} {L L' : List (Option AV)} {st : List AV} {h : AH} (k : AW X pc L' st h) (hle : zz_le L' L) : AW X pc L st h := by
  obtain ⟨p, l, e, R, s, m, args, below, meth, c, nL, D, cI, cJ, bs, NS, Q, RET, SC⟩ := X
  intro H locs ls h1 h2 h3 h5
  exact k H locs ls h1 h2 h3 (zz_weak h5 hle)
theorem aw_eq {X : CT} {pc : Nat} {L L' : List (Option AV)} {st st' : List AV} {h h' : AH} (k : AW X pc L' st' h') (h1 : L = L') (h2 : st = st') (h3 : h = h') : AW X pc L st h := by subst h1; subst h2; subst h3; exact k
theorem aw_fin {X : CT} {pc : Nat} {L L' : List (Option AV)} {st : List AV} {h h' : AH} (k : AW X pc L' st h') (hle : zz_le L' L) (hh : h = h') : AW X pc L st h := by subst hh; exact aw_weak k hle
/-! ints -/
abbrev R32 (x : Int) : Prop := -2147483648 ≤ x ∧ x < 2147483648
abbrev R64 (x : Int) : Prop := -9223372036854775808 ≤ x ∧ x < 9223372036854775808
theorem i32_t {x : Int} (h : R32 x) : (Int32.ofInt x).toInt = x := Int32.toInt_ofInt_of_le h.1 h.2
theorem i64_t {x : Int} (h : R64 x) : (Int64.ofInt x).toInt = x := Int64.toInt_ofInt_of_le h.1 h.2
theorem i32_eq {x y : Int} (hx : R32 x) (hy : R32 y) : Int32.ofInt x = Int32.ofInt y ↔ x = y := by rw [← Int32.toInt_inj, i32_t hx, i32_t hy]
theorem i32_lt {x y : Int} (hx : R32 x) (hy : R32 y) : Int32.ofInt x < Int32.ofInt y ↔ x < y := by rw [Int32.lt_iff_toInt_lt, i32_t hx, i32_t hy]
theorem i32_le {x y : Int} (hx : R32 x) (hy : R32 y) : Int32.ofInt x ≤ Int32.ofInt y ↔ x ≤ y := by rw [Int32.le_iff_toInt_le, i32_t hx, i32_t hy]
theorem i32_0 : (0 : Int32) = Int32.ofInt 0 := by decide
theorem r32_0 : R32 0 := by constructor <;> decide
theorem i64_eq {x y : Int} (hx : R64 x) (hy : R64 y) : Int64.ofInt x = Int64.ofInt y ↔ x = y := by rw [← Int64.toInt_inj, i64_t hx, i64_t hy]
theorem i64_lt {x y : Int} (hx : R64 x) (hy : R64 y) : Int64.ofInt x < Int64.ofInt y ↔ x < y := by rw [Int64.lt_iff_toInt_lt, i64_t hx, i64_t hy]
theorem i64_0 : (0 : Int64) = Int64.ofInt 0 := by decide
theorem r64_0 : R64 0 := by constructor <;> decide
theorem i32_in {i : Int} {n : Nat} (h0 : 0 ≤ i) (h1 : i < n) (hn : n < 2147483648) : vp_in (Int32.ofInt i) n := by
  rw [vp_in_iff, i32_t ⟨by omega, by omega⟩]
  exact ⟨h0, h1⟩
theorem i32_cl {i : Int} {n : Nat} (h0 : 0 ≤ i) (h1 : i < n) (hn : n < 2147483648) : (Int32.ofInt i).toNatClampNeg = i.toNat := Int32.toNatClampNeg_ofInt_of_le (by omega) (by omega)
theorem i32_mx {x : Int} (h : x < 2147483648) : x ≤ Int32.maxValue.toInt := by
  have h1 : Int32.maxValue.toInt = 2147483647 := by decide
  omega
theorem i32_mn {x : Int} (h : -2147483648 ≤ x) : Int32.minValue.toInt ≤ x := by
  have h1 : Int32.minValue.toInt = -2147483648 := by decide
  omega
theorem i64_mx {x : Int} (h : x < 9223372036854775808) : x ≤ Int64.maxValue.toInt := by
  have h1 : Int64.maxValue.toInt = 9223372036854775807 := by decide
  omega
theorem i64_mn {x : Int} (h : -9223372036854775808 ≤ x) : Int64.minValue.toInt ≤ x := by
  have h1 : Int64.minValue.toInt = -9223372036854775808 := by decide
  omega
theorem i32_div {x y : Int} (hx : R32 x) (hy : R32 y) : Int32.ofInt (x.tdiv y) = Int32.ofInt x / Int32.ofInt y := Int32.ofInt_tdiv (i32_mn hx.1) (i32_mx hx.2) (i32_mn hy.1) (i32_mx hy.2)
theorem i64_div {x y : Int} (hx : R64 x) (hy : R64 y) : Int64.ofInt (x.tdiv y) = Int64.ofInt x / Int64.ofInt y := Int64.ofInt_tdiv (i64_mn hx.1) (i64_mx hx.2) (i64_mn hy.1) (i64_mx hy.2)
theorem i32_rem {x y : Int} (hx : R32 x) (hy : R32 y) : Int32.ofInt (x.tmod y) = Int32.ofInt x - Int32.ofInt x / Int32.ofInt y * Int32.ofInt y := by
  rw [← i32_div hx hy, ← Int32.ofInt_mul, ← Int32.ofInt_sub]
  congr 1
  have := Int.tmod_add_mul_tdiv x y
  rw [Int.mul_comm] at this
  omega
theorem i64_rem {x y : Int} (hx : R64 x) (hy : R64 y) : Int64.ofInt (x.tmod y) = Int64.ofInt x - Int64.ofInt x / Int64.ofInt y * Int64.ofInt y := by
  rw [← i64_div hx hy, ← Int64.ofInt_mul, ← Int64.ofInt_sub]
  congr 1
  have := Int.tmod_add_mul_tdiv x y
  rw [Int.mul_comm] at this
  omega
def zz_shl (x y : Int) : Int := (Int32.ofInt x <<< (Int32.ofInt y &&& 31)).toInt
def zz_shr (x y : Int) : Int := (Int32.ofInt x >>> (Int32.ofInt y &&& 31)).toInt
def zz_and (x y : Int) : Int := (Int32.ofInt x &&& Int32.ofInt y).toInt
def zz_or (x y : Int) : Int := (Int32.ofInt x ||| Int32.ofInt y).toInt
def zz_xor (x y : Int) : Int := (Int32.ofInt x ^^^ Int32.ofInt y).toInt
def zz_cmp (x y : Int) : Int := if y < x then 1 else if x = y then 0 else -1
theorem i64_cmp {x y : Int} (hx : R64 x) (hy : R64 y) : Int32.ofInt (zz_cmp x y) = lg_cmp (Int64.ofInt x) (Int64.ofInt y) := by
  unfold lg_cmp zz_cmp
  simp only [gt_iff_lt, i64_lt hy hx, i64_eq hx hy]
  split
  · rfl
  · split <;> rfl
theorem i64_cmpE (x y : Int) (h : x = y) : Int32.ofInt (zz_cmp x y) = lg_cmp (Int64.ofInt x) (Int64.ofInt y) := by
  subst h
  unfold lg_cmp zz_cmp
  simp [gt_iff_lt, Int64.lt_iff_toInt_lt]
/-- of one word -/
def zz_c1 : AV → Bool
  | .inr (.inl _) => false
  | _ => true
/-! THE ROWS -/
theorem aw_iconst {X : CT} {cc : ByteArray} {own mn : String} {nL : Nat} (C : zz_C X cc own mn nL) {pc : Nat} {L : List (Option AV)} {st : List AV} {h : AH} (n : Nat) {z : Int} (hd : decode cc pc = .ok (.iconst z, 1)) (hn : pc + 1 = n)  (k : AW X n L (vI z :: st) h) : AW X pc L (st) h := by
  subst hn
  obtain ⟨p, l, e, R, s, m, args, below, meth, c, nL, D, cI, cJ, bs, NS, Q, RET, SC⟩ := X
  obtain ⟨⟨ox, ob, oml, oown, ots, osz, oK, omn⟩, -, oL⟩ := C
  intro H locs ls h1 h2 h3 h5
  have k := k H locs ls h1 h2 h3 h5
  simp only [List.map_cons, zz_cv] at k ⊢
  exact lv_iconst ox ob hd rfl k
theorem aw_bipush {X : CT} {cc : ByteArray} {own mn : String} {nL : Nat} (C : zz_C X cc own mn nL) {pc : Nat} {L : List (Option AV)} {st : List AV} {h : AH} (n : Nat) {z : Int} (hd : decode cc pc = .ok (.bipush z, 2)) (hn : pc + 2 = n) (hz : (Int8.ofInt z).toInt32 = Int32.ofInt z) (k : AW X n L (vI z :: st) h) : AW X pc L (st) h := by
  subst hn
  obtain ⟨p, l, e, R, s, m, args, below, meth, c, nL, D, cI, cJ, bs, NS, Q, RET, SC⟩ := X
  obtain ⟨⟨ox, ob, oml, oown, ots, osz, oK, omn⟩, -, oL⟩ := C
  intro H locs ls h1 h2 h3 h5
  have k := k H locs ls h1 h2 h3 h5
  simp only [List.map_cons, zz_cv] at k ⊢
  exact lv_bipush ox ob hd hz k
theorem aw_sipush {X : CT} {cc : ByteArray} {own mn : String} {nL : Nat} (C : zz_C X cc own mn nL) {pc : Nat} {L : List (Option AV)} {st : List AV} {h : AH} (n : Nat) {z : Int} (hd : decode cc pc = .ok (.sipush z, 3)) (hn : pc + 3 = n) (hz : (Int16.ofInt z).toInt32 = Int32.ofInt z) (k : AW X n L (vI z :: st) h) : AW X pc L (st) h := by
  subst hn
  obtain ⟨p, l, e, R, s, m, args, below, meth, c, nL, D, cI, cJ, bs, NS, Q, RET, SC⟩ := X
  obtain ⟨⟨ox, ob, oml, oown, ots, osz, oK, omn⟩, -, oL⟩ := C
  intro H locs ls h1 h2 h3 h5
  have k := k H locs ls h1 h2 h3 h5
  simp only [List.map_cons, zz_cv] at k ⊢
  exact lv_sipush ox ob hd hz k
theorem aw_lconst {X : CT} {cc : ByteArray} {own mn : String} {nL : Nat} (C : zz_C X cc own mn nL) {pc : Nat} {L : List (Option AV)} {st : List AV} {h : AH} (n : Nat) {i : Fin 2} (z : Int) (hd : decode cc pc = .ok (.lconst i, 1)) (hn : pc + 1 = n) (hz : Int64.ofNat (i : Nat) = Int64.ofInt z) (k : AW X n L (vJ z :: st) h) : AW X pc L (st) h := by
  subst hn
  obtain ⟨p, l, e, R, s, m, args, below, meth, c, nL, D, cI, cJ, bs, NS, Q, RET, SC⟩ := X
  obtain ⟨⟨ox, ob, oml, oown, ots, osz, oK, omn⟩, -, oL⟩ := C
  intro H locs ls h1 h2 h3 h5
  have k := k H locs ls h1 h2 h3 h5
  simp only [List.map_cons, zz_cv] at k ⊢
  exact lv_lconst ox ob hd hz k
theorem aw_ldc2 {X : CT} {cc : ByteArray} {own mn : String} {nL : Nat} (C : zz_C X cc own mn nL) {pc : Nat} {L : List (Option AV)} {st : List AV} {h : AH} (n : Nat) {i : Nat} (z : Int) {v : Int64} (hd : decode cc pc = .ok (.ldc2_w i, 3)) (hn : pc + 3 = n) (hw : Cond.constantLong own i v ∈ zz_tbl) (hz : v = Int64.ofInt z) (k : AW X n L (vJ z :: st) h) : AW X pc L (st) h := by
  subst hn
  obtain ⟨p, l, e, R, s, m, args, below, meth, c, nL, D, cI, cJ, bs, NS, Q, RET, SC⟩ := X
  obtain ⟨⟨ox, ob, oml, oown, ots, osz, oK, omn⟩, -, oL⟩ := C
  intro H locs ls h1 h2 h3 h5
  have k := k H locs ls h1 h2 h3 h5
  simp only [List.map_cons, zz_cv] at k ⊢
  rw [← hz] at k
  exact lv_ldc2 ox ob oown (ots _ hw) hd k
theorem aw_iload_n {X : CT} {cc : ByteArray} {own mn : String} {nL : Nat} (C : zz_C X cc own mn nL) {pc : Nat} {L : List (Option AV)} {st : List AV} {h : AH} (n : Nat) {i : Fin 4} {x : Int} (hd : decode cc pc = .ok (.iload_n i, 1)) (hn : pc + 1 = n) (hL : L[(i : Nat)]? = some (some (vI x))) (k : AW X n L (vI x :: st) h) : AW X pc L (st) h := by
  subst hn
  obtain ⟨p, l, e, R, s, m, args, below, meth, c, nL, D, cI, cJ, bs, NS, Q, RET, SC⟩ := X
  obtain ⟨⟨ox, ob, oml, oown, ots, osz, oK, omn⟩, -, oL⟩ := C
  intro H locs ls h1 h2 h3 h5
  have k := k H locs ls h1 h2 h3 h5
  simp only [List.map_cons, zz_cv] at k ⊢
  exact lv_iload_n ox ob hd rfl (zz_lat h5 hL) k
theorem aw_iload {X : CT} {cc : ByteArray} {own mn : String} {nL : Nat} (C : zz_C X cc own mn nL) {pc : Nat} {L : List (Option AV)} {st : List AV} {h : AH} (n : Nat) {i : Nat} {x : Int} (hd : decode cc pc = .ok (.iload i, 2)) (hn : pc + 2 = n) (hL : L[i]? = some (some (vI x))) (k : AW X n L (vI x :: st) h) : AW X pc L (st) h := by
  subst hn
  obtain ⟨p, l, e, R, s, m, args, below, meth, c, nL, D, cI, cJ, bs, NS, Q, RET, SC⟩ := X
  obtain ⟨⟨ox, ob, oml, oown, ots, osz, oK, omn⟩, -, oL⟩ := C
  intro H locs ls h1 h2 h3 h5
  have k := k H locs ls h1 h2 h3 h5
  simp only [List.map_cons, zz_cv] at k ⊢
  exact lv_iload ox ob hd (zz_lat h5 hL) k
theorem aw_lload_n {X : CT} {cc : ByteArray} {own mn : String} {nL : Nat} (C : zz_C X cc own mn nL) {pc : Nat} {L : List (Option AV)} {st : List AV} {h : AH} (n : Nat) {i : Fin 4} {x : Int} (hd : decode cc pc = .ok (.lload_n i, 1)) (hn : pc + 1 = n) (hL : L[(i : Nat)]? = some (some (vJ x))) (k : AW X n L (vJ x :: st) h) : AW X pc L (st) h := by
  subst hn
  obtain ⟨p, l, e, R, s, m, args, below, meth, c, nL, D, cI, cJ, bs, NS, Q, RET, SC⟩ := X
  obtain ⟨⟨ox, ob, oml, oown, ots, osz, oK, omn⟩, -, oL⟩ := C
  intro H locs ls h1 h2 h3 h5
  have k := k H locs ls h1 h2 h3 h5
  simp only [List.map_cons, zz_cv] at k ⊢
  exact lv_lload_n ox ob hd rfl (zz_lat h5 hL) k
theorem aw_lload {X : CT} {cc : ByteArray} {own mn : String} {nL : Nat} (C : zz_C X cc own mn nL) {pc : Nat} {L : List (Option AV)} {st : List AV} {h : AH} (n : Nat) {i : Nat} {x : Int} (hd : decode cc pc = .ok (.lload i, 2)) (hn : pc + 2 = n) (hL : L[i]? = some (some (vJ x))) (k : AW X n L (vJ x :: st) h) : AW X pc L (st) h := by
  subst hn
  obtain ⟨p, l, e, R, s, m, args, below, meth, c, nL, D, cI, cJ, bs, NS, Q, RET, SC⟩ := X
  obtain ⟨⟨ox, ob, oml, oown, ots, osz, oK, omn⟩, -, oL⟩ := C
  intro H locs ls h1 h2 h3 h5
  have k := k H locs ls h1 h2 h3 h5
  simp only [List.map_cons, zz_cv] at k ⊢
  exact lv_lload ox ob hd (zz_lat h5 hL) k
theorem aw_aload_n {X : CT} {cc : ByteArray} {own mn : String} {nL : Nat} (C : zz_C X cc own mn nL) {pc : Nat} {L : List (Option AV)} {st : List AV} {h : AH} (n : Nat) {i : Fin 4} {x : Nat} (hd : decode cc pc = .ok (.aload_n i, 1)) (hn : pc + 1 = n) (hL : L[(i : Nat)]? = some (some (vR x))) (k : AW X n L (vR x :: st) h) : AW X pc L (st) h := by
  subst hn
  obtain ⟨p, l, e, R, s, m, args, below, meth, c, nL, D, cI, cJ, bs, NS, Q, RET, SC⟩ := X
  obtain ⟨⟨ox, ob, oml, oown, ots, osz, oK, omn⟩, -, oL⟩ := C
  intro H locs ls h1 h2 h3 h5
  have k := k H locs ls h1 h2 h3 h5
  simp only [List.map_cons, zz_cv] at k ⊢
  exact lv_aload_n ox ob hd rfl (zz_lat h5 hL) k
theorem aw_sload_n {X : CT} {cc : ByteArray} {own mn : String} {nL : Nat} (C : zz_C X cc own mn nL) {pc : Nat} {L : List (Option AV)} {st : List AV} {h : AH} (n : Nat) {i : Fin 4} (hd : decode cc pc = .ok (.aload_n i, 1)) (hn : pc + 1 = n) (hL : L[(i : Nat)]? = some (some vS)) (k : AW X n L (vS :: st) h) : AW X pc L (st) h := by
  subst hn
  obtain ⟨p, l, e, R, s, m, args, below, meth, c, nL, D, cI, cJ, bs, NS, Q, RET, SC⟩ := X
  obtain ⟨⟨ox, ob, oml, oown, ots, osz, oK, omn⟩, -, oL⟩ := C
  intro H locs ls h1 h2 h3 h5
  have k := k H locs ls h1 h2 h3 h5
  simp only [List.map_cons, zz_cv] at k ⊢
  exact lv_aload_n ox ob hd rfl (zz_lat h5 hL) k
theorem aw_istore_n {X : CT} {cc : ByteArray} {own mn : String} {nL : Nat} (C : zz_C X cc own mn nL) {pc : Nat} {L : List (Option AV)} {st : List AV} {h : AH} (n : Nat) (j : Nat) {i : Fin 4} {x : Int} (hd : decode cc pc = .ok (.istore_n i, 1)) (hn : pc + 1 = n) (hj : (i : Nat) = j) (hi : j < L.length ∧ j < nL) (hi2 : zz_nl L j = true) (k : AW X n (L.set j (some (vI x))) (st) h) : AW X pc L (vI x :: st) h := by
  subst hn
  obtain ⟨p, l, e, R, s, m, args, below, meth, c, nL, D, cI, cJ, bs, NS, Q, RET, SC⟩ := X
  obtain ⟨⟨ox, ob, oml, oown, ots, osz, oK, omn⟩, -, oL⟩ := C
  intro H locs ls h1 h2 h3 h5
  subst hj
  simp only [List.map_cons, zz_cv]
  exact lv_istore_n ox ob hd rfl h5 (by have := oL; simp only [zz_nl_] at this; omega) rfl (fun ls hl => k H locs ls h1 h2 h3 (zz_st1 (v := vI x) hi.1 hi2 hl))
theorem aw_astore_n {X : CT} {cc : ByteArray} {own mn : String} {nL : Nat} (C : zz_C X cc own mn nL) {pc : Nat} {L : List (Option AV)} {st : List AV} {h : AH} (n : Nat) (j : Nat) {i : Fin 4} {x : Nat} (hd : decode cc pc = .ok (.astore_n i, 1)) (hn : pc + 1 = n) (hj : (i : Nat) = j) (hi : j < L.length ∧ j < nL) (hi2 : zz_nl L j = true) (k : AW X n (L.set j (some (vR x))) (st) h) : AW X pc L (vR x :: st) h := by
  subst hn
  obtain ⟨p, l, e, R, s, m, args, below, meth, c, nL, D, cI, cJ, bs, NS, Q, RET, SC⟩ := X
  obtain ⟨⟨ox, ob, oml, oown, ots, osz, oK, omn⟩, -, oL⟩ := C
  intro H locs ls h1 h2 h3 h5
  subst hj
  simp only [List.map_cons, zz_cv]
  exact lv_astore_n ox ob hd rfl h5 (by have := oL; simp only [zz_nl_] at this; omega) rfl (fun ls hl => k H locs ls h1 h2 h3 (zz_st1 (v := vR x) hi.1 hi2 hl))
theorem aw_istore {X : CT} {cc : ByteArray} {own mn : String} {nL : Nat} (C : zz_C X cc own mn nL) {pc : Nat} {L : List (Option AV)} {st : List AV} {h : AH} (n : Nat) {i : Nat} {x : Int} (hd : decode cc pc = .ok (.istore i, 2)) (hn : pc + 2 = n) (hi : i < L.length ∧ i < nL) (hi2 : zz_nl L i = true) (k : AW X n (L.set i (some (vI x))) (st) h) : AW X pc L (vI x :: st) h := by
  subst hn
  obtain ⟨p, l, e, R, s, m, args, below, meth, c, nL, D, cI, cJ, bs, NS, Q, RET, SC⟩ := X
  obtain ⟨⟨ox, ob, oml, oown, ots, osz, oK, omn⟩, -, oL⟩ := C
  intro H locs ls h1 h2 h3 h5
  simp only [List.map_cons, zz_cv]
  exact lv_istore ox ob hd h5 (by have := oL; simp only [zz_nl_] at this; omega) rfl (fun ls hl => k H locs ls h1 h2 h3 (zz_st1 (v := vI x) hi.1 hi2 hl))
theorem aw_lstore_n {X : CT} {cc : ByteArray} {own mn : String} {nL : Nat} (C : zz_C X cc own mn nL) {pc : Nat} {L : List (Option AV)} {st : List AV} {h : AH} (n : Nat) (j : Nat) {i : Fin 4} {x : Int} (hd : decode cc pc = .ok (.lstore_n i, 1)) (hn : pc + 1 = n) (hj : (i : Nat) = j) (hi : j + 1 < L.length ∧ j + 1 < nL) (hi2 : zz_nl L j = true) (k : AW X n ((L.set j (some (vJ x))).set (j + 1) none) (st) h) : AW X pc L (vJ x :: st) h := by
  subst hn
  obtain ⟨p, l, e, R, s, m, args, below, meth, c, nL, D, cI, cJ, bs, NS, Q, RET, SC⟩ := X
  obtain ⟨⟨ox, ob, oml, oown, ots, osz, oK, omn⟩, -, oL⟩ := C
  intro H locs ls h1 h2 h3 h5
  subst hj
  simp only [List.map_cons, zz_cv]
  exact lv_lstore_n ox ob hd rfl h5 (by have := oL; simp only [zz_nl_] at this; omega) rfl (fun ls hl => k H locs ls h1 h2 h3 (zz_st2 (v := vJ x) hi.1 hi2 hl))
theorem aw_lstore {X : CT} {cc : ByteArray} {own mn : String} {nL : Nat} (C : zz_C X cc own mn nL) {pc : Nat} {L : List (Option AV)} {st : List AV} {h : AH} (n : Nat) {i : Nat} {x : Int} (hd : decode cc pc = .ok (.lstore i, 2)) (hn : pc + 2 = n) (hi : i + 1 < L.length ∧ i + 1 < nL) (hi2 : zz_nl L i = true) (k : AW X n ((L.set i (some (vJ x))).set (i + 1) none) (st) h) : AW X pc L (vJ x :: st) h := by
  subst hn
  obtain ⟨p, l, e, R, s, m, args, below, meth, c, nL, D, cI, cJ, bs, NS, Q, RET, SC⟩ := X
  obtain ⟨⟨ox, ob, oml, oown, ots, osz, oK, omn⟩, -, oL⟩ := C
  intro H locs ls h1 h2 h3 h5
  simp only [List.map_cons, zz_cv]
  exact lv_lstore ox ob hd h5 (by have := oL; simp only [zz_nl_] at this; omega) rfl (fun ls hl => k H locs ls h1 h2 h3 (zz_st2 (v := vJ x) hi.1 hi2 hl))
theorem zz_lplace {bs : Nat × Nat} {L : List (Option AV)} {i : Nat} {v : AV} (hL : L[i]? = some (some v)) : ∃ k : Nat, (zz_lc bs 0 L)[k]? = some (i, zz_cv bs v) := by
  have h1 := zz_lc_mem bs L 0 i v hL
  rw [Nat.zero_add] at h1
  exact List.getElem?_of_mem h1
theorem aw_iinc {X : CT} {cc : ByteArray} {own mn : String} {nL : Nat} (C : zz_C X cc own mn nL) {pc : Nat} {L : List (Option AV)} {st : List AV} {h : AH} (n : Nat) {i : Nat} {z x : Int} (hd : decode cc pc = .ok (.iinc i z, 3)) (hn : pc + 3 = n) (hL : L[i]? = some (some (vI x))) (hi : i < nL) (hi2 : zz_nl L i = true) (k : AW X n (L.set i (some (vI (x + z)))) (st) h) : AW X pc L (st) h := by
  subst hn
  obtain ⟨p, l, e, R, s, m, args, below, meth, c, nL, D, cI, cJ, bs, NS, Q, RET, SC⟩ := X
  obtain ⟨⟨ox, ob, oml, oown, ots, osz, oK, omn⟩, -, oL⟩ := C
  intro H locs ls h1 h2 h3 h5
  obtain ⟨kk, hk⟩ := zz_lplace (bs := bs) hL
  refine lv_iinc (v := Int32.ofInt (x + z)) ox ob hd h5 (k := kk) (x := Int32.ofInt x) hk (by rw [Int32.ofInt_add]) (by have := oL; simp only [zz_nl_] at this; omega) rfl (fun ls hl => k H locs ls h1 h2 h3 (zz_st1 (v := vI (x + z)) (List.getElem?_eq_some_iff.mp hL).1 hi2 hl))
theorem aw_iadd {X : CT} {cc : ByteArray} {own mn : String} {nL : Nat} (C : zz_C X cc own mn nL) {pc : Nat} {L : List (Option AV)} {st : List AV} {h : AH} (n : Nat) {x y : Int} (hd : decode cc pc = .ok (.iadd, 1)) (hn : pc + 1 = n)  (k : AW X n L (vI (x + y) :: st) h) : AW X pc L (vI y :: vI x :: st) h := by
  subst hn
  obtain ⟨p, l, e, R, s, m, args, below, meth, c, nL, D, cI, cJ, bs, NS, Q, RET, SC⟩ := X
  obtain ⟨⟨ox, ob, oml, oown, ots, osz, oK, omn⟩, -, oL⟩ := C
  intro H locs ls h1 h2 h3 h5
  have k := k H locs ls h1 h2 h3 h5
  simp only [List.map_cons, zz_cv, Int32.ofInt_add] at k ⊢
  exact lv_iadd ox ob hd k
theorem aw_isub {X : CT} {cc : ByteArray} {own mn : String} {nL : Nat} (C : zz_C X cc own mn nL) {pc : Nat} {L : List (Option AV)} {st : List AV} {h : AH} (n : Nat) {x y : Int} (hd : decode cc pc = .ok (.isub, 1)) (hn : pc + 1 = n)  (k : AW X n L (vI (x - y) :: st) h) : AW X pc L (vI y :: vI x :: st) h := by
  subst hn
  obtain ⟨p, l, e, R, s, m, args, below, meth, c, nL, D, cI, cJ, bs, NS, Q, RET, SC⟩ := X
  obtain ⟨⟨ox, ob, oml, oown, ots, osz, oK, omn⟩, -, oL⟩ := C
  intro H locs ls h1 h2 h3 h5
  have k := k H locs ls h1 h2 h3 h5
  simp only [List.map_cons, zz_cv, Int32.ofInt_sub] at k ⊢
  exact lv_isub ox ob hd k
theorem aw_imul {X : CT} {cc : ByteArray} {own mn : String} {nL : Nat} (C : zz_C X cc own mn nL) {pc : Nat} {L : List (Option AV)} {st : List AV} {h : AH} (n : Nat) {x y : Int} (hd : decode cc pc = .ok (.imul, 1)) (hn : pc + 1 = n)  (k : AW X n L (vI (x * y) :: st) h) : AW X pc L (vI y :: vI x :: st) h := by
  subst hn
  obtain ⟨p, l, e, R, s, m, args, below, meth, c, nL, D, cI, cJ, bs, NS, Q, RET, SC⟩ := X
  obtain ⟨⟨ox, ob, oml, oown, ots, osz, oK, omn⟩, -, oL⟩ := C
  intro H locs ls h1 h2 h3 h5
  have k := k H locs ls h1 h2 h3 h5
  simp only [List.map_cons, zz_cv, Int32.ofInt_mul] at k ⊢
  exact lv_imul ox ob hd k
theorem aw_ladd {X : CT} {cc : ByteArray} {own mn : String} {nL : Nat} (C : zz_C X cc own mn nL) {pc : Nat} {L : List (Option AV)} {st : List AV} {h : AH} (n : Nat) {x y : Int} (hd : decode cc pc = .ok (.ladd, 1)) (hn : pc + 1 = n)  (k : AW X n L (vJ (x + y) :: st) h) : AW X pc L (vJ y :: vJ x :: st) h := by
  subst hn
  obtain ⟨p, l, e, R, s, m, args, below, meth, c, nL, D, cI, cJ, bs, NS, Q, RET, SC⟩ := X
  obtain ⟨⟨ox, ob, oml, oown, ots, osz, oK, omn⟩, -, oL⟩ := C
  intro H locs ls h1 h2 h3 h5
  have k := k H locs ls h1 h2 h3 h5
  simp only [List.map_cons, zz_cv, Int64.ofInt_add] at k ⊢
  exact lv_ladd ox ob hd k
theorem aw_lmul {X : CT} {cc : ByteArray} {own mn : String} {nL : Nat} (C : zz_C X cc own mn nL) {pc : Nat} {L : List (Option AV)} {st : List AV} {h : AH} (n : Nat) {x y : Int} (hd : decode cc pc = .ok (.lmul, 1)) (hn : pc + 1 = n)  (k : AW X n L (vJ (x * y) :: st) h) : AW X pc L (vJ y :: vJ x :: st) h := by
  subst hn
  obtain ⟨p, l, e, R, s, m, args, below, meth, c, nL, D, cI, cJ, bs, NS, Q, RET, SC⟩ := X
  obtain ⟨⟨ox, ob, oml, oown, ots, osz, oK, omn⟩, -, oL⟩ := C
  intro H locs ls h1 h2 h3 h5
  have k := k H locs ls h1 h2 h3 h5
  simp only [List.map_cons, zz_cv, Int64.ofInt_mul] at k ⊢
  exact lv_lmul ox ob hd k
theorem aw_idiv {X : CT} {cc : ByteArray} {own mn : String} {nL : Nat} (C : zz_C X cc own mn nL) {pc : Nat} {L : List (Option AV)} {st : List AV} {h : AH} (n : Nat) {x y : Int} (hd : decode cc pc = .ok (.idiv, 1)) (hn : pc + 1 = n) (hr : R32 x ∧ R32 y ∧ y ≠ 0) (k : AW X n L (vI (Int.tdiv x y) :: st) h) : AW X pc L (vI y :: vI x :: st) h := by
  subst hn
  obtain ⟨p, l, e, R, s, m, args, below, meth, c, nL, D, cI, cJ, bs, NS, Q, RET, SC⟩ := X
  obtain ⟨⟨ox, ob, oml, oown, ots, osz, oK, omn⟩, -, oL⟩ := C
  intro H locs ls h1 h2 h3 h5
  have k := k H locs ls h1 h2 h3 h5
  simp only [List.map_cons, zz_cv, i32_div hr.1 hr.2.1] at k ⊢
  exact lv_idiv ox ob hd (by rw [i32_0, i32_eq hr.2.1 r32_0]; exact hr.2.2) k
theorem aw_irem {X : CT} {cc : ByteArray} {own mn : String} {nL : Nat} (C : zz_C X cc own mn nL) {pc : Nat} {L : List (Option AV)} {st : List AV} {h : AH} (n : Nat) {x y : Int} (hd : decode cc pc = .ok (.irem, 1)) (hn : pc + 1 = n) (hr : R32 x ∧ R32 y ∧ y ≠ 0) (k : AW X n L (vI (Int.tmod x y) :: st) h) : AW X pc L (vI y :: vI x :: st) h := by
  subst hn
  obtain ⟨p, l, e, R, s, m, args, below, meth, c, nL, D, cI, cJ, bs, NS, Q, RET, SC⟩ := X
  obtain ⟨⟨ox, ob, oml, oown, ots, osz, oK, omn⟩, -, oL⟩ := C
  intro H locs ls h1 h2 h3 h5
  have k := k H locs ls h1 h2 h3 h5
  simp only [List.map_cons, zz_cv, i32_rem hr.1 hr.2.1] at k ⊢
  exact lv_irem ox ob hd (by rw [i32_0, i32_eq hr.2.1 r32_0]; exact hr.2.2) k
theorem aw_ldiv {X : CT} {cc : ByteArray} {own mn : String} {nL : Nat} (C : zz_C X cc own mn nL) {pc : Nat} {L : List (Option AV)} {st : List AV} {h : AH} (n : Nat) {x y : Int} (hd : decode cc pc = .ok (.ldiv, 1)) (hn : pc + 1 = n) (hr : R64 x ∧ R64 y ∧ y ≠ 0) (k : AW X n L (vJ (Int.tdiv x y) :: st) h) : AW X pc L (vJ y :: vJ x :: st) h := by
  subst hn
  obtain ⟨p, l, e, R, s, m, args, below, meth, c, nL, D, cI, cJ, bs, NS, Q, RET, SC⟩ := X
  obtain ⟨⟨ox, ob, oml, oown, ots, osz, oK, omn⟩, -, oL⟩ := C
  intro H locs ls h1 h2 h3 h5
  have k := k H locs ls h1 h2 h3 h5
  simp only [List.map_cons, zz_cv, i64_div hr.1 hr.2.1] at k ⊢
  exact lv_ldiv ox ob hd (by rw [i64_0, i64_eq hr.2.1 r64_0]; exact hr.2.2) k
theorem aw_lrem {X : CT} {cc : ByteArray} {own mn : String} {nL : Nat} (C : zz_C X cc own mn nL) {pc : Nat} {L : List (Option AV)} {st : List AV} {h : AH} (n : Nat) {x y : Int} (hd : decode cc pc = .ok (.lrem, 1)) (hn : pc + 1 = n) (hr : R64 x ∧ R64 y ∧ y ≠ 0) (k : AW X n L (vJ (Int.tmod x y) :: st) h) : AW X pc L (vJ y :: vJ x :: st) h := by
  subst hn
  obtain ⟨p, l, e, R, s, m, args, below, meth, c, nL, D, cI, cJ, bs, NS, Q, RET, SC⟩ := X
  obtain ⟨⟨ox, ob, oml, oown, ots, osz, oK, omn⟩, -, oL⟩ := C
  intro H locs ls h1 h2 h3 h5
  have k := k H locs ls h1 h2 h3 h5
  simp only [List.map_cons, zz_cv, i64_rem hr.1 hr.2.1] at k ⊢
  exact lv_lrem ox ob hd (by rw [i64_0, i64_eq hr.2.1 r64_0]; exact hr.2.2) k
theorem aw_ishl {X : CT} {cc : ByteArray} {own mn : String} {nL : Nat} (C : zz_C X cc own mn nL) {pc : Nat} {L : List (Option AV)} {st : List AV} {h : AH} (n : Nat) {x y : Int} (hd : decode cc pc = .ok (.ishl, 1)) (hn : pc + 1 = n)  (k : AW X n L (vI (zz_shl x y) :: st) h) : AW X pc L (vI y :: vI x :: st) h := by
  subst hn
  obtain ⟨p, l, e, R, s, m, args, below, meth, c, nL, D, cI, cJ, bs, NS, Q, RET, SC⟩ := X
  obtain ⟨⟨ox, ob, oml, oown, ots, osz, oK, omn⟩, -, oL⟩ := C
  intro H locs ls h1 h2 h3 h5
  have k := k H locs ls h1 h2 h3 h5
  simp only [List.map_cons, zz_cv, zz_shl, Int32.ofInt_toInt] at k ⊢
  exact lv_ishl ox ob hd k
theorem aw_ishr {X : CT} {cc : ByteArray} {own mn : String} {nL : Nat} (C : zz_C X cc own mn nL) {pc : Nat} {L : List (Option AV)} {st : List AV} {h : AH} (n : Nat) {x y : Int} (hd : decode cc pc = .ok (.ishr, 1)) (hn : pc + 1 = n)  (k : AW X n L (vI (zz_shr x y) :: st) h) : AW X pc L (vI y :: vI x :: st) h := by
  subst hn
  obtain ⟨p, l, e, R, s, m, args, below, meth, c, nL, D, cI, cJ, bs, NS, Q, RET, SC⟩ := X
  obtain ⟨⟨ox, ob, oml, oown, ots, osz, oK, omn⟩, -, oL⟩ := C
  intro H locs ls h1 h2 h3 h5
  have k := k H locs ls h1 h2 h3 h5
  simp only [List.map_cons, zz_cv, zz_shr, Int32.ofInt_toInt] at k ⊢
  exact lv_ishr ox ob hd k
theorem aw_iand {X : CT} {cc : ByteArray} {own mn : String} {nL : Nat} (C : zz_C X cc own mn nL) {pc : Nat} {L : List (Option AV)} {st : List AV} {h : AH} (n : Nat) {x y : Int} (hd : decode cc pc = .ok (.iand, 1)) (hn : pc + 1 = n)  (k : AW X n L (vI (zz_and x y) :: st) h) : AW X pc L (vI y :: vI x :: st) h := by
  subst hn
  obtain ⟨p, l, e, R, s, m, args, below, meth, c, nL, D, cI, cJ, bs, NS, Q, RET, SC⟩ := X
  obtain ⟨⟨ox, ob, oml, oown, ots, osz, oK, omn⟩, -, oL⟩ := C
  intro H locs ls h1 h2 h3 h5
  have k := k H locs ls h1 h2 h3 h5
  simp only [List.map_cons, zz_cv, zz_and, Int32.ofInt_toInt] at k ⊢
  exact lv_iand ox ob hd k
theorem aw_ior {X : CT} {cc : ByteArray} {own mn : String} {nL : Nat} (C : zz_C X cc own mn nL) {pc : Nat} {L : List (Option AV)} {st : List AV} {h : AH} (n : Nat) {x y : Int} (hd : decode cc pc = .ok (.ior, 1)) (hn : pc + 1 = n)  (k : AW X n L (vI (zz_or x y) :: st) h) : AW X pc L (vI y :: vI x :: st) h := by
  subst hn
  obtain ⟨p, l, e, R, s, m, args, below, meth, c, nL, D, cI, cJ, bs, NS, Q, RET, SC⟩ := X
  obtain ⟨⟨ox, ob, oml, oown, ots, osz, oK, omn⟩, -, oL⟩ := C
  intro H locs ls h1 h2 h3 h5
  have k := k H locs ls h1 h2 h3 h5
  simp only [List.map_cons, zz_cv, zz_or, Int32.ofInt_toInt] at k ⊢
  exact lv_ior ox ob hd k
theorem aw_ixor {X : CT} {cc : ByteArray} {own mn : String} {nL : Nat} (C : zz_C X cc own mn nL) {pc : Nat} {L : List (Option AV)} {st : List AV} {h : AH} (n : Nat) {x y : Int} (hd : decode cc pc = .ok (.ixor, 1)) (hn : pc + 1 = n)  (k : AW X n L (vI (zz_xor x y) :: st) h) : AW X pc L (vI y :: vI x :: st) h := by
  subst hn
  obtain ⟨p, l, e, R, s, m, args, below, meth, c, nL, D, cI, cJ, bs, NS, Q, RET, SC⟩ := X
  obtain ⟨⟨ox, ob, oml, oown, ots, osz, oK, omn⟩, -, oL⟩ := C
  intro H locs ls h1 h2 h3 h5
  have k := k H locs ls h1 h2 h3 h5
  simp only [List.map_cons, zz_cv, zz_xor, Int32.ofInt_toInt] at k ⊢
  exact lv_ixor ox ob hd k
theorem aw_i2l {X : CT} {cc : ByteArray} {own mn : String} {nL : Nat} (C : zz_C X cc own mn nL) {pc : Nat} {L : List (Option AV)} {st : List AV} {h : AH} (n : Nat) {x : Int} (hd : decode cc pc = .ok (.i2l, 1)) (hn : pc + 1 = n) (hr : R32 x) (k : AW X n L (vJ x :: st) h) : AW X pc L (vI x :: st) h := by
  subst hn
  obtain ⟨p, l, e, R, s, m, args, below, meth, c, nL, D, cI, cJ, bs, NS, Q, RET, SC⟩ := X
  obtain ⟨⟨ox, ob, oml, oown, ots, osz, oK, omn⟩, -, oL⟩ := C
  intro H locs ls h1 h2 h3 h5
  have k := k H locs ls h1 h2 h3 h5
  simp only [List.map_cons, zz_cv] at k ⊢
  exact lv_i2l ox ob hd (by rw [← Int64.toInt_inj, Int32.toInt_toInt64, i32_t hr, i64_t ⟨by omega, by omega⟩]) k
theorem aw_lcmp {X : CT} {cc : ByteArray} {own mn : String} {nL : Nat} (C : zz_C X cc own mn nL) {pc : Nat} {L : List (Option AV)} {st : List AV} {h : AH} (n : Nat) {x y : Int} (hd : decode cc pc = .ok (.lcmp, 1)) (hn : pc + 1 = n) (hr : x = y ∨ (R64 x ∧ R64 y)) (k : AW X n L (vI (zz_cmp x y) :: st) h) : AW X pc L (vJ y :: vJ x :: st) h := by
  subst hn
  obtain ⟨p, l, e, R, s, m, args, below, meth, c, nL, D, cI, cJ, bs, NS, Q, RET, SC⟩ := X
  obtain ⟨⟨ox, ob, oml, oown, ots, osz, oK, omn⟩, -, oL⟩ := C
  intro H locs ls h1 h2 h3 h5
  have k := k H locs ls h1 h2 h3 h5
  simp only [List.map_cons, zz_cv] at k ⊢
  rw [hr.elim (fun e => i64_cmpE x y e) (fun r => i64_cmp r.1 r.2)] at k
  exact W.lcmp ox ob hd k
theorem aw_dup {X : CT} {cc : ByteArray} {own mn : String} {nL : Nat} (C : zz_C X cc own mn nL) {pc : Nat} {L : List (Option AV)} {st : List AV} {h : AH} (n : Nat) {v : AV} (hd : decode cc pc = .ok (.dup, 1)) (hn : pc + 1 = n) (hv : zz_c1 v = true) (k : AW X n L (v :: v :: st) h) : AW X pc L (v :: st) h := by
  subst hn
  obtain ⟨p, l, e, R, s, m, args, below, meth, c, nL, D, cI, cJ, bs, NS, Q, RET, SC⟩ := X
  obtain ⟨⟨ox, ob, oml, oown, ots, osz, oK, omn⟩, -, oL⟩ := C
  intro H locs ls h1 h2 h3 h5
  have k := k H locs ls h1 h2 h3 h5
  simp only [List.map_cons] at k ⊢
  exact lv_dup ox ob hd (by rw [zz_cat]; rcases v with x | x | x <;> simp_all [zz_c1]) k
theorem aw_dup2 {X : CT} {cc : ByteArray} {own mn : String} {nL : Nat} (C : zz_C X cc own mn nL) {pc : Nat} {L : List (Option AV)} {st : List AV} {h : AH} (n : Nat) {v u : AV} (hd : decode cc pc = .ok (.dup2, 1)) (hn : pc + 1 = n) (hv : zz_c1 v = true ∧ zz_c1 u = true) (k : AW X n L (v :: u :: v :: u :: st) h) : AW X pc L (v :: u :: st) h := by
  subst hn
  obtain ⟨p, l, e, R, s, m, args, below, meth, c, nL, D, cI, cJ, bs, NS, Q, RET, SC⟩ := X
  obtain ⟨⟨ox, ob, oml, oown, ots, osz, oK, omn⟩, -, oL⟩ := C
  intro H locs ls h1 h2 h3 h5
  have k := k H locs ls h1 h2 h3 h5
  simp only [List.map_cons] at k ⊢
  exact lv_dup2_11 ox ob hd (by rw [zz_cat]; rcases v with x | x | x <;> simp_all [zz_c1]) (by rw [zz_cat]; rcases u with x | x | x <;> simp_all [zz_c1]) k
theorem aw_icmp_eq {X : CT} {cc : ByteArray} {own mn : String} {nL : Nat} (C : zz_C X cc own mn nL) {pc : Nat} {L : List (Option AV)} {st : List AV} {h : AH} (n t : Nat) {x y off : Int} (hd : decode cc pc = .ok (.if_icmp .eq off, 3)) (hn : pc + 3 = n) (ht : (pc : Int) + off = t) (hr : R32 x ∧ R32 y) (kt : x = y → AW X t L st h) (kf : ¬ (x = y) → AW X n L st h) : AW X pc L (vI y :: vI x :: st) h := by
  subst hn
  obtain ⟨p, l, e, R, s, m, args, below, meth, c, nL, D, cI, cJ, bs, NS, Q, RET, SC⟩ := X
  obtain ⟨⟨ox, ob, oml, oown, ots, osz, oK, omn⟩, -, oL⟩ := C
  intro H locs ls h1 h2 h3 h5
  simp only [List.map_cons, zz_cv]
  refine lv_icmp_eq ox ob hd ht (fun hc => ?_) (fun hc => ?_)
  · rw [i32_eq hr.1 hr.2] at hc
    exact kt hc H locs ls h1 h2 h3 h5
  · rw [i32_eq hr.1 hr.2] at hc
    exact kf hc H locs ls h1 h2 h3 h5
theorem aw_icmp_ne {X : CT} {cc : ByteArray} {own mn : String} {nL : Nat} (C : zz_C X cc own mn nL) {pc : Nat} {L : List (Option AV)} {st : List AV} {h : AH} (n t : Nat) {x y off : Int} (hd : decode cc pc = .ok (.if_icmp .ne off, 3)) (hn : pc + 3 = n) (ht : (pc : Int) + off = t) (hr : R32 x ∧ R32 y) (kt : ¬ x = y → AW X t L st h) (kf : x = y → AW X n L st h) : AW X pc L (vI y :: vI x :: st) h := by
  subst hn
  obtain ⟨p, l, e, R, s, m, args, below, meth, c, nL, D, cI, cJ, bs, NS, Q, RET, SC⟩ := X
  obtain ⟨⟨ox, ob, oml, oown, ots, osz, oK, omn⟩, -, oL⟩ := C
  intro H locs ls h1 h2 h3 h5
  simp only [List.map_cons, zz_cv]
  refine lv_icmp_ne ox ob hd ht (fun hc => ?_) (fun hc => ?_)
  · rw [i32_eq hr.1 hr.2] at hc
    exact kt hc H locs ls h1 h2 h3 h5
  · rw [i32_eq hr.1 hr.2] at hc
    exact kf hc H locs ls h1 h2 h3 h5
theorem aw_icmp_lt {X : CT} {cc : ByteArray} {own mn : String} {nL : Nat} (C : zz_C X cc own mn nL) {pc : Nat} {L : List (Option AV)} {st : List AV} {h : AH} (n t : Nat) {x y off : Int} (hd : decode cc pc = .ok (.if_icmp .lt off, 3)) (hn : pc + 3 = n) (ht : (pc : Int) + off = t) (hr : R32 x ∧ R32 y) (kt : x < y → AW X t L st h) (kf : ¬ (x < y) → AW X n L st h) : AW X pc L (vI y :: vI x :: st) h := by
  subst hn
  obtain ⟨p, l, e, R, s, m, args, below, meth, c, nL, D, cI, cJ, bs, NS, Q, RET, SC⟩ := X
  obtain ⟨⟨ox, ob, oml, oown, ots, osz, oK, omn⟩, -, oL⟩ := C
  intro H locs ls h1 h2 h3 h5
  simp only [List.map_cons, zz_cv]
  refine lv_icmp_lt ox ob hd ht (fun hc => ?_) (fun hc => ?_)
  · rw [i32_lt hr.1 hr.2] at hc
    exact kt hc H locs ls h1 h2 h3 h5
  · rw [i32_lt hr.1 hr.2] at hc
    exact kf hc H locs ls h1 h2 h3 h5
theorem aw_icmp_ge {X : CT} {cc : ByteArray} {own mn : String} {nL : Nat} (C : zz_C X cc own mn nL) {pc : Nat} {L : List (Option AV)} {st : List AV} {h : AH} (n t : Nat) {x y off : Int} (hd : decode cc pc = .ok (.if_icmp .ge off, 3)) (hn : pc + 3 = n) (ht : (pc : Int) + off = t) (hr : R32 x ∧ R32 y) (kt : y ≤ x → AW X t L st h) (kf : ¬ (y ≤ x) → AW X n L st h) : AW X pc L (vI y :: vI x :: st) h := by
  subst hn
  obtain ⟨p, l, e, R, s, m, args, below, meth, c, nL, D, cI, cJ, bs, NS, Q, RET, SC⟩ := X
  obtain ⟨⟨ox, ob, oml, oown, ots, osz, oK, omn⟩, -, oL⟩ := C
  intro H locs ls h1 h2 h3 h5
  simp only [List.map_cons, zz_cv]
  refine lv_icmp_ge ox ob hd ht (fun hc => ?_) (fun hc => ?_)
  · rw [i32_le hr.2 hr.1] at hc
    exact kt hc H locs ls h1 h2 h3 h5
  · rw [i32_le hr.2 hr.1] at hc
    exact kf hc H locs ls h1 h2 h3 h5
theorem aw_icmp_gt {X : CT} {cc : ByteArray} {own mn : String} {nL : Nat} (C : zz_C X cc own mn nL) {pc : Nat} {L : List (Option AV)} {st : List AV} {h : AH} (n t : Nat) {x y off : Int} (hd : decode cc pc = .ok (.if_icmp .gt off, 3)) (hn : pc + 3 = n) (ht : (pc : Int) + off = t) (hr : R32 x ∧ R32 y) (kt : y < x → AW X t L st h) (kf : ¬ (y < x) → AW X n L st h) : AW X pc L (vI y :: vI x :: st) h := by
  subst hn
  obtain ⟨p, l, e, R, s, m, args, below, meth, c, nL, D, cI, cJ, bs, NS, Q, RET, SC⟩ := X
  obtain ⟨⟨ox, ob, oml, oown, ots, osz, oK, omn⟩, -, oL⟩ := C
  intro H locs ls h1 h2 h3 h5
  simp only [List.map_cons, zz_cv]
  refine lv_icmp_gt ox ob hd ht (fun hc => ?_) (fun hc => ?_)
  · rw [i32_lt hr.2 hr.1] at hc
    exact kt hc H locs ls h1 h2 h3 h5
  · rw [i32_lt hr.2 hr.1] at hc
    exact kf hc H locs ls h1 h2 h3 h5
theorem aw_icmp_le {X : CT} {cc : ByteArray} {own mn : String} {nL : Nat} (C : zz_C X cc own mn nL) {pc : Nat} {L : List (Option AV)} {st : List AV} {h : AH} (n t : Nat) {x y off : Int} (hd : decode cc pc = .ok (.if_icmp .le off, 3)) (hn : pc + 3 = n) (ht : (pc : Int) + off = t) (hr : R32 x ∧ R32 y) (kt : x ≤ y → AW X t L st h) (kf : ¬ (x ≤ y) → AW X n L st h) : AW X pc L (vI y :: vI x :: st) h := by
  subst hn
  obtain ⟨p, l, e, R, s, m, args, below, meth, c, nL, D, cI, cJ, bs, NS, Q, RET, SC⟩ := X
  obtain ⟨⟨ox, ob, oml, oown, ots, osz, oK, omn⟩, -, oL⟩ := C
  intro H locs ls h1 h2 h3 h5
  simp only [List.map_cons, zz_cv]
  refine lv_icmp_le ox ob hd ht (fun hc => ?_) (fun hc => ?_)
  · rw [i32_le hr.1 hr.2] at hc
    exact kt hc H locs ls h1 h2 h3 h5
  · rw [i32_le hr.1 hr.2] at hc
    exact kf hc H locs ls h1 h2 h3 h5
theorem aw_if_eq {X : CT} {cc : ByteArray} {own mn : String} {nL : Nat} (C : zz_C X cc own mn nL) {pc : Nat} {L : List (Option AV)} {st : List AV} {h : AH} (n t : Nat) {x off : Int} (hd : decode cc pc = .ok (.ifCond .eq off, 3)) (hn : pc + 3 = n) (ht : (pc : Int) + off = t) (hr : R32 x) (kt : x = 0 → AW X t L st h) (kf : ¬ (x = 0) → AW X n L st h) : AW X pc L (vI x :: st) h := by
  subst hn
  obtain ⟨p, l, e, R, s, m, args, below, meth, c, nL, D, cI, cJ, bs, NS, Q, RET, SC⟩ := X
  obtain ⟨⟨ox, ob, oml, oown, ots, osz, oK, omn⟩, -, oL⟩ := C
  intro H locs ls h1 h2 h3 h5
  simp only [List.map_cons, zz_cv]
  refine lv_if_eq ox ob hd ht (fun hc => ?_) (fun hc => ?_)
  · rw [i32_0, i32_eq hr r32_0] at hc
    exact kt hc H locs ls h1 h2 h3 h5
  · rw [i32_0, i32_eq hr r32_0] at hc
    exact kf hc H locs ls h1 h2 h3 h5
theorem aw_if_ne {X : CT} {cc : ByteArray} {own mn : String} {nL : Nat} (C : zz_C X cc own mn nL) {pc : Nat} {L : List (Option AV)} {st : List AV} {h : AH} (n t : Nat) {x off : Int} (hd : decode cc pc = .ok (.ifCond .ne off, 3)) (hn : pc + 3 = n) (ht : (pc : Int) + off = t) (hr : R32 x) (kt : ¬ x = 0 → AW X t L st h) (kf : x = 0 → AW X n L st h) : AW X pc L (vI x :: st) h := by
  subst hn
  obtain ⟨p, l, e, R, s, m, args, below, meth, c, nL, D, cI, cJ, bs, NS, Q, RET, SC⟩ := X
  obtain ⟨⟨ox, ob, oml, oown, ots, osz, oK, omn⟩, -, oL⟩ := C
  intro H locs ls h1 h2 h3 h5
  simp only [List.map_cons, zz_cv]
  refine lv_if_ne ox ob hd ht (fun hc => ?_) (fun hc => ?_)
  · rw [i32_0, i32_eq hr r32_0] at hc
    exact kt hc H locs ls h1 h2 h3 h5
  · rw [i32_0, i32_eq hr r32_0] at hc
    exact kf hc H locs ls h1 h2 h3 h5
theorem aw_if_lt {X : CT} {cc : ByteArray} {own mn : String} {nL : Nat} (C : zz_C X cc own mn nL) {pc : Nat} {L : List (Option AV)} {st : List AV} {h : AH} (n t : Nat) {x off : Int} (hd : decode cc pc = .ok (.ifCond .lt off, 3)) (hn : pc + 3 = n) (ht : (pc : Int) + off = t) (hr : R32 x) (kt : x < 0 → AW X t L st h) (kf : ¬ (x < 0) → AW X n L st h) : AW X pc L (vI x :: st) h := by
  subst hn
  obtain ⟨p, l, e, R, s, m, args, below, meth, c, nL, D, cI, cJ, bs, NS, Q, RET, SC⟩ := X
  obtain ⟨⟨ox, ob, oml, oown, ots, osz, oK, omn⟩, -, oL⟩ := C
  intro H locs ls h1 h2 h3 h5
  simp only [List.map_cons, zz_cv]
  refine lv_if_lt ox ob hd ht (fun hc => ?_) (fun hc => ?_)
  · rw [i32_0, i32_lt hr r32_0] at hc
    exact kt hc H locs ls h1 h2 h3 h5
  · rw [i32_0, i32_lt hr r32_0] at hc
    exact kf hc H locs ls h1 h2 h3 h5
theorem aw_if_ge {X : CT} {cc : ByteArray} {own mn : String} {nL : Nat} (C : zz_C X cc own mn nL) {pc : Nat} {L : List (Option AV)} {st : List AV} {h : AH} (n t : Nat) {x off : Int} (hd : decode cc pc = .ok (.ifCond .ge off, 3)) (hn : pc + 3 = n) (ht : (pc : Int) + off = t) (hr : R32 x) (kt : 0 ≤ x → AW X t L st h) (kf : ¬ (0 ≤ x) → AW X n L st h) : AW X pc L (vI x :: st) h := by
  subst hn
  obtain ⟨p, l, e, R, s, m, args, below, meth, c, nL, D, cI, cJ, bs, NS, Q, RET, SC⟩ := X
  obtain ⟨⟨ox, ob, oml, oown, ots, osz, oK, omn⟩, -, oL⟩ := C
  intro H locs ls h1 h2 h3 h5
  simp only [List.map_cons, zz_cv]
  refine lv_if_ge ox ob hd ht (fun hc => ?_) (fun hc => ?_)
  · rw [i32_0, i32_le r32_0 hr] at hc
    exact kt hc H locs ls h1 h2 h3 h5
  · rw [i32_0, i32_le r32_0 hr] at hc
    exact kf hc H locs ls h1 h2 h3 h5
theorem aw_if_gt {X : CT} {cc : ByteArray} {own mn : String} {nL : Nat} (C : zz_C X cc own mn nL) {pc : Nat} {L : List (Option AV)} {st : List AV} {h : AH} (n t : Nat) {x off : Int} (hd : decode cc pc = .ok (.ifCond .gt off, 3)) (hn : pc + 3 = n) (ht : (pc : Int) + off = t) (hr : R32 x) (kt : 0 < x → AW X t L st h) (kf : ¬ (0 < x) → AW X n L st h) : AW X pc L (vI x :: st) h := by
  subst hn
  obtain ⟨p, l, e, R, s, m, args, below, meth, c, nL, D, cI, cJ, bs, NS, Q, RET, SC⟩ := X
  obtain ⟨⟨ox, ob, oml, oown, ots, osz, oK, omn⟩, -, oL⟩ := C
  intro H locs ls h1 h2 h3 h5
  simp only [List.map_cons, zz_cv]
  refine lv_if_gt ox ob hd ht (fun hc => ?_) (fun hc => ?_)
  · rw [i32_0, i32_lt r32_0 hr] at hc
    exact kt hc H locs ls h1 h2 h3 h5
  · rw [i32_0, i32_lt r32_0 hr] at hc
    exact kf hc H locs ls h1 h2 h3 h5
theorem aw_if_le {X : CT} {cc : ByteArray} {own mn : String} {nL : Nat} (C : zz_C X cc own mn nL) {pc : Nat} {L : List (Option AV)} {st : List AV} {h : AH} (n t : Nat) {x off : Int} (hd : decode cc pc = .ok (.ifCond .le off, 3)) (hn : pc + 3 = n) (ht : (pc : Int) + off = t) (hr : R32 x) (kt : x ≤ 0 → AW X t L st h) (kf : ¬ (x ≤ 0) → AW X n L st h) : AW X pc L (vI x :: st) h := by
  subst hn
  obtain ⟨p, l, e, R, s, m, args, below, meth, c, nL, D, cI, cJ, bs, NS, Q, RET, SC⟩ := X
  obtain ⟨⟨ox, ob, oml, oown, ots, osz, oK, omn⟩, -, oL⟩ := C
  intro H locs ls h1 h2 h3 h5
  simp only [List.map_cons, zz_cv]
  refine lv_if_le ox ob hd ht (fun hc => ?_) (fun hc => ?_)
  · rw [i32_0, i32_le hr r32_0] at hc
    exact kt hc H locs ls h1 h2 h3 h5
  · rw [i32_0, i32_le hr r32_0] at hc
    exact kf hc H locs ls h1 h2 h3 h5
theorem aw_icmp_eqE {X : CT} {cc : ByteArray} {own mn : String} {nL : Nat} (C : zz_C X cc own mn nL) {pc : Nat} {L : List (Option AV)} {st : List AV} {h : AH} (n t : Nat) {x off : Int} (hd : decode cc pc = .ok (.if_icmp .eq off, 3)) (hn : pc + 3 = n) (ht : (pc : Int) + off = t) (kt : AW X t L st h) : AW X pc L (vI x :: vI x :: st) h := by
  subst hn
  obtain ⟨p, l, e, R, s, m, args, below, meth, c, nL, D, cI, cJ, bs, NS, Q, RET, SC⟩ := X
  obtain ⟨⟨ox, ob, oml, oown, ots, osz, oK, omn⟩, -, oL⟩ := C
  intro H locs ls h1 h2 h3 h5
  simp only [List.map_cons, zz_cv]
  exact lv_icmp_eq ox ob hd ht (fun _ => kt H locs ls h1 h2 h3 h5) (fun hc => absurd rfl hc)
theorem aw_goto {X : CT} {cc : ByteArray} {own mn : String} {nL : Nat} (C : zz_C X cc own mn nL) {pc : Nat} {L : List (Option AV)} {st : List AV} {h : AH} (t : Nat) {off : Int} (hd : decode cc pc = .ok (.goto off, 3)) (ht : (pc : Int) + off = t) (k : AW X t L st h) : AW X pc L st h := by
  obtain ⟨p, l, e, R, s, m, args, below, meth, c, nL, D, cI, cJ, bs, NS, Q, RET, SC⟩ := X
  obtain ⟨⟨ox, ob, oml, oown, ots, osz, oK, omn⟩, -, oL⟩ := C
  intro H locs ls h1 h2 h3 h5
  exact lv_goto ox ob hd ht (k H locs ls h1 h2 h3 h5)
theorem aw_tableIn {X : CT} {cc : ByteArray} {own mn : String} {nL : Nat} (C : zz_C X cc own mn nL) {pc : Nat} {L : List (Option AV)} {st : List AV} {h : AH} (t : Nat) {dflt lo hi x off : Int} {offs : Array Int} {len : Nat} (hd : decode cc pc = .ok (.tableswitch dflt lo hi offs, len)) (hr : R32 x) (ha : lo ≤ x ∧ x ≤ hi) (ho : offs[(x - lo).toNat]? = some off) (ht : (pc : Int) + off = t) (k : AW X t L st h) : AW X pc L (vI x :: st) h := by
  obtain ⟨p, l, e, R, s, m, args, below, meth, c, nL, D, cI, cJ, bs, NS, Q, RET, SC⟩ := X
  obtain ⟨⟨ox, ob, oml, oown, ots, osz, oK, omn⟩, -, oL⟩ := C
  intro H locs ls h1 h2 h3 h5
  simp only [List.map_cons, zz_cv]
  exact lv_tableIn ox ob hd (by rw [i32_t hr]; omega) (by rw [i32_t hr]; omega) (by rw [i32_t hr]; exact ho) ht (k H locs ls h1 h2 h3 h5)
theorem aw_tableOut {X : CT} {cc : ByteArray} {own mn : String} {nL : Nat} (C : zz_C X cc own mn nL) {pc : Nat} {L : List (Option AV)} {st : List AV} {h : AH} (t : Nat) {dflt lo hi x : Int} {offs : Array Int} {len : Nat} (hd : decode cc pc = .ok (.tableswitch dflt lo hi offs, len)) (hr : R32 x) (ha : x < lo ∨ hi < x) (ht : (pc : Int) + dflt = t) (k : AW X t L st h) : AW X pc L (vI x :: st) h := by
  obtain ⟨p, l, e, R, s, m, args, below, meth, c, nL, D, cI, cJ, bs, NS, Q, RET, SC⟩ := X
  obtain ⟨⟨ox, ob, oml, oown, ots, osz, oK, omn⟩, -, oL⟩ := C
  intro H locs ls h1 h2 h3 h5
  simp only [List.map_cons, zz_cv]
  exact lv_tableOut ox ob hd (by rw [i32_t hr]; exact ha) ht (k H locs ls h1 h2 h3 h5)
