/-! sets of colours as bits -/
abbrev bm (v i : Int) : Prop := zz_and (zz_shr v i) 1 = 1
def pc (v : Int) : Int := (if bm v 0 then 1 else 0) + (if bm v 1 then 1 else 0) + (if bm v 2 then 1 else 0) + (if bm v 3 then 1 else 0) + (if bm v 4 then 1 else 0)
theorem m_f {N : Nat} {P : Int → Prop} (h : ∀ v : Fin N, P (v.val : Int)) {v : Int} (hv : 0 ≤ v ∧ v < N) : P v := by
  have h1 := h ⟨v.toNat, by omega⟩
  have h2 : ((v.toNat : Nat) : Int) = v := by omega
  have h3 : P ((v.toNat : Nat) : Int) := h1
  rwa [h2] at h3
theorem m_b {N : Nat} {P : Int → Prop} : (∀ v : Fin N, P (v.val : Int)) ↔ ∀ v : Int, 0 ≤ v → v < N → P v :=
  ⟨fun h _ h0 h1 => m_f h ⟨h0, h1⟩, fun h v => h v.val (by omega) (by have := v.isLt; omega)⟩
set_option maxRecDepth 100000 in
theorem bm_or0 : ∀ v : Fin 32, ∀ w : Fin 32, (0 ≤ zz_or (v.val : Int) (w.val : Int) ∧ zz_or (v.val : Int) (w.val : Int) < 32) ∧ ∀ i : Fin 5, (bm (zz_or (v.val : Int) (w.val : Int)) (i.val : Int) ↔ bm (v.val : Int) (i.val : Int) ∨ bm (w.val : Int) (i.val : Int)) := by decide +kernel
set_option maxRecDepth 100000 in
theorem bm_shl0 : ∀ k : Fin 5, (0 ≤ zz_shl 1 (k.val : Int) ∧ zz_shl 1 (k.val : Int) < 32) ∧ ∀ i : Fin 5, (bm (zz_shl 1 (k.val : Int)) (i.val : Int) ↔ (i.val : Int) = (k.val : Int)) := by decide +kernel
set_option maxRecDepth 100000 in
theorem bm_ext0 : ∀ v : Fin 32, ∀ w : Fin 32, (∀ i : Fin 5, (bm (v.val : Int) (i.val : Int) ↔ bm (w.val : Int) (i.val : Int))) → (v.val : Int) = (w.val : Int) := by decide +kernel
set_option maxRecDepth 100000 in
theorem bm_sub0 : ∀ v : Fin 32, ∀ w : Fin 32, (zz_and (v.val : Int) (zz_xor (w.val : Int) (-1)) = 0 ↔ ∀ i : Fin 5, bm (v.val : Int) (i.val : Int) → bm (w.val : Int) (i.val : Int)) := by decide +kernel
set_option maxRecDepth 100000 in
theorem pc_lt0 : ∀ v : Fin 32, ∀ w : Fin 32, (∀ i : Fin 5, bm (v.val : Int) (i.val : Int) → bm (w.val : Int) (i.val : Int)) → (v.val : Int) ≠ (w.val : Int) → pc (v.val : Int) < pc (w.val : Int) := by decide +kernel
set_option maxRecDepth 100000 in
theorem pc_le0 : ∀ v : Fin 32, ∀ R : Fin 6, (∀ i : Fin 5, (R.val : Int) ≤ (i.val : Int) → ¬ bm (v.val : Int) (i.val : Int)) → pc (v.val : Int) ≤ (R.val : Int) := by decide +kernel
set_option maxRecDepth 100000 in
theorem shl_lt0 : ∀ R : Fin 6, (1 ≤ zz_shl 1 (R.val : Int) ∧ zz_shl 1 (R.val : Int) ≤ 32) ∧ ∀ v : Fin 32, (v.val : Int) < zz_shl 1 (R.val : Int) → ∀ i : Fin 5, (R.val : Int) ≤ (i.val : Int) → ¬ bm (v.val : Int) (i.val : Int) := by decide +kernel
set_option maxRecDepth 100000 in
theorem bm_10 : (∀ i : Fin 5, (bm 1 (i.val : Int) ↔ (i.val : Int) = 0)) ∧ (∀ i : Fin 5, ¬ bm 0 (i.val : Int)) ∧ ∀ v : Fin 32, zz_or (v.val : Int) 0 = (v.val : Int) := by decide +kernel
theorem or_b {v w : Int} (hv : 0 ≤ v ∧ v < 32) (hw : 0 ≤ w ∧ w < 32) : 0 ≤ zz_or v w ∧ zz_or v w < 32 :=
  (m_f (N := 32) (P := fun v => 0 ≤ zz_or v w ∧ zz_or v w < 32) (fun v => (m_f (N := 32) (P := fun w => 0 ≤ zz_or (v.val : Int) w ∧ zz_or (v.val : Int) w < 32) (fun w => (bm_or0 v w).1) hw)) hv)
theorem bm_or {v w i : Int} (hv : 0 ≤ v ∧ v < 32) (hw : 0 ≤ w ∧ w < 32) (hi : 0 ≤ i ∧ i < 5) : bm (zz_or v w) i ↔ bm v i ∨ bm w i :=
  m_f (N := 32) (P := fun v => bm (zz_or v w) i ↔ bm v i ∨ bm w i) (fun v => m_f (N := 32) (P := fun w => bm (zz_or (v.val : Int) w) i ↔ bm (v.val : Int) i ∨ bm w i) (fun w => m_f (N := 5) (P := fun i => bm (zz_or (v.val : Int) (w.val : Int)) i ↔ bm (v.val : Int) i ∨ bm (w.val : Int) i) (fun i => (bm_or0 v w).2 i) hi) hw) hv
theorem shl_b {k : Int} (hk : 0 ≤ k ∧ k < 5) : 0 ≤ zz_shl 1 k ∧ zz_shl 1 k < 32 := m_f (N := 5) (P := fun k => 0 ≤ zz_shl 1 k ∧ zz_shl 1 k < 32) (fun k => (bm_shl0 k).1) hk
theorem bm_shl {k i : Int} (hk : 0 ≤ k ∧ k < 5) (hi : 0 ≤ i ∧ i < 5) : bm (zz_shl 1 k) i ↔ i = k :=
  m_f (N := 5) (P := fun k => bm (zz_shl 1 k) i ↔ i = k) (fun k => m_f (N := 5) (P := fun i => bm (zz_shl 1 (k.val : Int)) i ↔ i = (k.val : Int)) (fun i => (bm_shl0 k).2 i) hi) hk
theorem bm_1 {i : Int} (hi : 0 ≤ i ∧ i < 5) : bm 1 i ↔ i = 0 := m_f (N := 5) (P := fun i => bm 1 i ↔ i = 0) (fun i => bm_10.1 i) hi
theorem bm_0 {i : Int} (hi : 0 ≤ i ∧ i < 5) : ¬ bm 0 i := m_f (N := 5) (P := fun i => ¬ bm 0 i) (fun i => bm_10.2.1 i) hi
theorem or_0 {v : Int} (hv : 0 ≤ v ∧ v < 32) : zz_or v 0 = v := m_f (N := 32) (P := fun v => zz_or v 0 = v) (fun v => bm_10.2.2 v) hv
theorem bm_ext {v w : Int} (hv : 0 ≤ v ∧ v < 32) (hw : 0 ≤ w ∧ w < 32) (h : ∀ i, 0 ≤ i → i < 5 → (bm v i ↔ bm w i)) : v = w :=
  m_f (N := 32) (P := fun v => (∀ i, 0 ≤ i → i < 5 → (bm v i ↔ bm w i)) → v = w) (fun v => m_f (N := 32) (P := fun w => (∀ i, 0 ≤ i → i < 5 → (bm (v.val : Int) i ↔ bm w i)) → (v.val : Int) = w) (fun w h => bm_ext0 v w ((m_b (N := 5)).mpr h)) hw) hv h
theorem bm_sub {v w : Int} (hv : 0 ≤ v ∧ v < 32) (hw : 0 ≤ w ∧ w < 32) : zz_and v (zz_xor w (-1)) = 0 ↔ ∀ i, 0 ≤ i → i < 5 → bm v i → bm w i :=
  m_f (N := 32) (P := fun v => zz_and v (zz_xor w (-1)) = 0 ↔ ∀ i, 0 ≤ i → i < 5 → bm v i → bm w i) (fun v => m_f (N := 32) (P := fun w => zz_and (v.val : Int) (zz_xor w (-1)) = 0 ↔ ∀ i, 0 ≤ i → i < 5 → bm (v.val : Int) i → bm w i) (fun w => (bm_sub0 v w).trans (m_b (N := 5) (P := fun i => bm (v.val : Int) i → bm (w.val : Int) i))) hw) hv
theorem pc_lt {v w : Int} (hv : 0 ≤ v ∧ v < 32) (hw : 0 ≤ w ∧ w < 32) (h : ∀ i, 0 ≤ i → i < 5 → bm v i → bm w i) (hne : v ≠ w) : pc v < pc w :=
  m_f (N := 32) (P := fun v => (∀ i, 0 ≤ i → i < 5 → bm v i → bm w i) → v ≠ w → pc v < pc w) (fun v => m_f (N := 32) (P := fun w => (∀ i, 0 ≤ i → i < 5 → bm (v.val : Int) i → bm w i) → (v.val : Int) ≠ w → pc (v.val : Int) < pc w) (fun w h hne => pc_lt0 v w ((m_b (N := 5) (P := fun i => bm (v.val : Int) i → bm (w.val : Int) i)).mpr h) hne) hw) hv h hne
theorem pc_le {v R : Int} (hv : 0 ≤ v ∧ v < 32) (hR : 0 ≤ R ∧ R < 6) (h : ∀ i, 0 ≤ i → i < 5 → R ≤ i → ¬ bm v i) : pc v ≤ R :=
  m_f (N := 32) (P := fun v => (∀ i, 0 ≤ i → i < 5 → R ≤ i → ¬ bm v i) → pc v ≤ R) (fun v => m_f (N := 6) (P := fun R => (∀ i, 0 ≤ i → i < 5 → R ≤ i → ¬ bm (v.val : Int) i) → pc (v.val : Int) ≤ R) (fun R h => pc_le0 v R ((m_b (N := 5) (P := fun i => (R.val : Int) ≤ i → ¬ bm (v.val : Int) i)).mpr h)) hR) hv h
theorem shl_r {R : Int} (hR : 0 ≤ R ∧ R < 6) : 1 ≤ zz_shl 1 R ∧ zz_shl 1 R ≤ 32 := m_f (N := 6) (P := fun R => 1 ≤ zz_shl 1 R ∧ zz_shl 1 R ≤ 32) (fun R => (shl_lt0 R).1) hR
theorem shl_lt {v R : Int} (hR : 0 ≤ R ∧ R < 6) (h0 : 0 ≤ v) (h1 : v < zz_shl 1 R) : (0 ≤ v ∧ v < 32) ∧ ∀ i, 0 ≤ i → i < 5 → R ≤ i → ¬ bm v i := by
  have hv : 0 ≤ v ∧ v < 32 := by have := shl_r hR; omega
  refine ⟨hv, ?_⟩
  exact m_f (N := 32) (P := fun v => v < zz_shl 1 R → ∀ i, 0 ≤ i → i < 5 → R ≤ i → ¬ bm v i) (fun v => m_f (N := 6) (P := fun R => (v.val : Int) < zz_shl 1 R → ∀ i, 0 ≤ i → i < 5 → R ≤ i → ¬ bm (v.val : Int) i) (fun R h => (m_b (N := 5) (P := fun i => (R.val : Int) ≤ i → ¬ bm (v.val : Int) i)).mp ((shl_lt0 R).2 v h)) hR) hv h1
theorem pc_nn (v : Int) : 0 ≤ pc v := by
  unfold pc
  split <;> split <;> split <;> split <;> split <;> decide
theorem pc_1 {v : Int} (h : bm v 0) : 1 ≤ pc v := by
  unfold pc
  rw [if_pos h]
  split <;> split <;> split <;> split <;> decide
theorem i32_r (x : Int32) : R32 x.toInt := ⟨Int32.le_toInt x, Int32.toInt_lt x⟩
theorem and_r (x y : Int) : R32 (zz_and x y) := i32_r _
theorem shl_rr (x y : Int) : R32 (zz_shl x y) := i32_r _
theorem or_r (x y : Int) : R32 (zz_or x y) := i32_r _
/-! what comes of a set by products of two -/
theorem acc_bits {f : Int → Int → Int} {P : Int → Int → Prop} {n r0 : Int} (hn : 0 ≤ n) (h0 : 0 ≤ r0 ∧ r0 < 32) (hs : ∀ i r, 0 ≤ i → i < n → (0 ≤ r ∧ r < 32) → (0 ≤ f i r ∧ f i r < 32) ∧ ∀ k, 0 ≤ k → k < 5 → (bm (f i r) k ↔ bm r k ∨ P i k)) :
    (0 ≤ zi f r0 n ∧ zi f r0 n < 32) ∧ ∀ k, 0 ≤ k → k < 5 → (bm (zi f r0 n) k ↔ bm r0 k ∨ ∃ i, 0 ≤ i ∧ i < n ∧ P i k) := by
  refine zi_inv (P := fun m r => (0 ≤ r ∧ r < 32) ∧ ∀ k, 0 ≤ k → k < 5 → (bm r k ↔ bm r0 k ∨ ∃ i, 0 ≤ i ∧ i < m ∧ P i k)) hn ⟨h0, fun k k0 k1 => ⟨Or.inl, fun h => h.elim id (fun ⟨i, i0, i1, _⟩ => by omega)⟩⟩ (fun i r i0 i1 ⟨h1, h2⟩ => ?_)
  obtain ⟨g1, g2⟩ := hs i r i0 i1 h1
  refine ⟨g1, fun k k0 k1 => ?_⟩
  rw [g2 k k0 k1, h2 k k0 k1]
  constructor
  · rintro ((h | ⟨j, j0, j1, h⟩) | h)
    · exact Or.inl h
    · exact Or.inr ⟨j, j0, by omega, h⟩
    · exact Or.inr ⟨i, i0, by omega, h⟩
  · rintro (h | ⟨j, j0, j1, h⟩)
    · exact Or.inl (Or.inl h)
    · by_cases e : j = i
      · subst e; exact Or.inr h
      · exact Or.inl (Or.inr ⟨j, j0, by omega, h⟩)
def gwk (n : Int) (g : Gr) (v i j R r : Int) : Int := zi (fun k r => if bm v i ∧ bm v j ∧ 0 < nu n g i j k then zz_or r (zz_shl 1 k) else r) r R
def gwj (n : Int) (g : Gr) (v i R J r : Int) : Int := zi (fun j r => gwk n g v i j R r) r J
def gwi (n : Int) (g : Gr) (v R I r : Int) : Int := zi (fun i r => gwj n g v i R R r) r I
def gw (n : Int) (g : Gr) (v : Int) : Int := gwi n g v (rk n g) (rk n g) (zz_or v 1)
theorem gwk_s {n : Int} {g : Gr} {v i j R r : Int} (h : 0 ≤ R) : gwk n g v i j (R + 1) r = if bm v i ∧ bm v j ∧ 0 < nu n g i j R then zz_or (gwk n g v i j R r) (zz_shl 1 R) else gwk n g v i j R r := zi_s _ _ h
theorem gwj_s {n : Int} {g : Gr} {v i R J r : Int} (h : 0 ≤ J) : gwj n g v i R (J + 1) r = gwk n g v i J R (gwj n g v i R J r) := zi_s _ _ h
theorem gwi_s {n : Int} {g : Gr} {v R I r : Int} (h : 0 ≤ I) : gwi n g v R (I + 1) r = gwj n g v I R R (gwi n g v R I r) := zi_s _ _ h
theorem gwk_b {n : Int} {g : Gr} {v i j R r : Int} (hR : 0 ≤ R ∧ R ≤ 5) (hr : 0 ≤ r ∧ r < 32) : (0 ≤ gwk n g v i j R r ∧ gwk n g v i j R r < 32) ∧ ∀ l, 0 ≤ l → l < 5 → (bm (gwk n g v i j R r) l ↔ bm r l ∨ ∃ k, 0 ≤ k ∧ k < R ∧ ((bm v i ∧ bm v j ∧ 0 < nu n g i j k) ∧ l = k)) := by
  refine acc_bits hR.1 hr (fun k r k0 k1 hr => ?_)
  by_cases e : bm v i ∧ bm v j ∧ 0 < nu n g i j k
  · rw [if_pos e]
    have hk := shl_b (k := k) ⟨k0, by omega⟩
    refine ⟨or_b hr hk, fun l l0 l1 => ?_⟩
    rw [bm_or hr hk ⟨l0, l1⟩, bm_shl ⟨k0, by omega⟩ ⟨l0, l1⟩]
    exact ⟨fun h => h.elim Or.inl (fun h => Or.inr ⟨e, h⟩), fun h => h.elim Or.inl (fun h => Or.inr h.2)⟩
  · rw [if_neg e]
    exact ⟨hr, fun l l0 l1 => ⟨Or.inl, fun h => h.elim id (fun h => absurd h.1 e)⟩⟩
theorem gwj_b {n : Int} {g : Gr} {v i R J r : Int} (hR : 0 ≤ R ∧ R ≤ 5) (hJ : 0 ≤ J) (hr : 0 ≤ r ∧ r < 32) : (0 ≤ gwj n g v i R J r ∧ gwj n g v i R J r < 32) ∧ ∀ l, 0 ≤ l → l < 5 → (bm (gwj n g v i R J r) l ↔ bm r l ∨ ∃ j, 0 ≤ j ∧ j < J ∧ ∃ k, 0 ≤ k ∧ k < R ∧ ((bm v i ∧ bm v j ∧ 0 < nu n g i j k) ∧ l = k)) :=
  acc_bits hJ hr (fun _ _ _ _ hr => gwk_b hR hr)
theorem gwi_b {n : Int} {g : Gr} {v R I r : Int} (hR : 0 ≤ R ∧ R ≤ 5) (hI : 0 ≤ I) (hr : 0 ≤ r ∧ r < 32) : (0 ≤ gwi n g v R I r ∧ gwi n g v R I r < 32) ∧ ∀ l, 0 ≤ l → l < 5 → (bm (gwi n g v R I r) l ↔ bm r l ∨ ∃ i, 0 ≤ i ∧ i < I ∧ ∃ j, 0 ≤ j ∧ j < R ∧ ∃ k, 0 ≤ k ∧ k < R ∧ ((bm v i ∧ bm v j ∧ 0 < nu n g i j k) ∧ l = k)) :=
  acc_bits hI hr (fun _ _ _ _ hr => gwj_b hR hR.1 hr)
/-- products of two of a set -/
def pd (n : Int) (g : Gr) (v l : Int) : Prop := l < rk n g ∧ ∃ i j, (0 ≤ i ∧ i < rk n g) ∧ (0 ≤ j ∧ j < rk n g) ∧ bm v i ∧ bm v j ∧ 0 < nu n g i j l
theorem gw_b {n : Int} {g : Gr} {v : Int} (hR : 1 ≤ rk n g ∧ rk n g ≤ 5) (hv : 0 ≤ v ∧ v < 32) : (0 ≤ gw n g v ∧ gw n g v < 32) ∧ ∀ l, 0 ≤ l → l < 5 → (bm (gw n g v) l ↔ (bm v l ∨ l = 0) ∨ pd n g v l) := by
  obtain ⟨h1, h2⟩ := gwi_b (n := n) (g := g) (v := v) (R := rk n g) (I := rk n g) (r := zz_or v 1) ⟨by omega, hR.2⟩ (by omega) (or_b hv ⟨by decide, by decide⟩)
  refine ⟨h1, fun l l0 l1 => ?_⟩
  show bm (gwi n g v (rk n g) (rk n g) (zz_or v 1)) l ↔ _
  rw [h2 l l0 l1, bm_or hv ⟨by decide, by decide⟩ ⟨l0, l1⟩, bm_1 ⟨l0, l1⟩]
  constructor
  · rintro (h | ⟨i, i0, i1, j, j0, j1, k, k0, k1, ⟨a, b, c⟩, rfl⟩)
    · exact Or.inl h
    · exact Or.inr ⟨k1, i, j, ⟨i0, i1⟩, ⟨j0, j1⟩, a, b, c⟩
  · rintro (h | ⟨k1, i, j, ⟨i0, i1⟩, ⟨j0, j1⟩, a, b, c⟩)
    · exact Or.inl h
    · exact Or.inr ⟨i, i0, i1, j, j0, j1, l, l0, k1, ⟨a, b, c⟩, rfl⟩
/-- the bits lie below the rank -/
abbrev blw (n : Int) (g : Gr) (v : Int) : Prop := ∀ i, 0 ≤ i → i < 5 → rk n g ≤ i → ¬ bm v i
theorem gw_blw {n : Int} {g : Gr} {v : Int} (hR : 1 ≤ rk n g ∧ rk n g ≤ 5) (hv : 0 ≤ v ∧ v < 32) (hb : blw n g v) : blw n g (gw n g v) := by
  intro i i0 i1 hi h
  rcases ((gw_b hR hv).2 i i0 i1).mp h with (h | h) | h
  · exact hb i i0 i1 hi h
  · omega
  · exact absurd h.1 (by omega)
theorem gw_eq {n : Int} {g : Gr} {v p : Int} (hR : 1 ≤ rk n g ∧ rk n g ≤ 5) (hv : 0 ≤ v ∧ v < 32) (h0 : bm v 0) (hp : 0 ≤ p ∧ p < 32) (hb : ∀ l, 0 ≤ l → l < 5 → (bm p l ↔ pd n g v l)) : zz_or v p = gw n g v := by
  obtain ⟨h1, h2⟩ := gw_b (n := n) (g := g) hR hv
  refine bm_ext (or_b hv hp) h1 (fun l l0 l1 => ?_)
  rw [bm_or hv hp ⟨l0, l1⟩, h2 l l0 l1, hb l l0 l1]
  constructor
  · rintro (h | h)
    · exact Or.inl (Or.inl h)
    · exact Or.inr h
  · rintro ((h | h) | h)
    · exact Or.inl h
    · subst h; exact Or.inl h0
    · exact Or.inr h
/-- m steps of growing -/
def it (n : Int) (g : Gr) (v m : Int) : Int := zi (fun _ r => gw n g r) (zz_or v 1) m
theorem it_s {n : Int} {g : Gr} {v m : Int} (h : 0 ≤ m) : it n g v (m + 1) = gw n g (it n g v m) := zi_s _ _ h
/-- the hull -/
def hl (n : Int) (g : Gr) (v : Int) : Int := it n g v 5
theorem it_p {n : Int} {g : Gr} {v m : Int} (hR : 1 ≤ rk n g ∧ rk n g ≤ 5) (hv : 0 ≤ v ∧ v < 32) (hb : blw n g v) (hm : 0 ≤ m) : (0 ≤ it n g v m ∧ it n g v m < 32) ∧ blw n g (it n g v m) ∧ bm (it n g v m) 0 ∧ (gw n g (it n g v m) = it n g v m ∨ 1 + m ≤ pc (it n g v m)) := by
  have up : ∀ w, (0 ≤ w ∧ w < 32) → (∀ i, 0 ≤ i → i < 5 → bm w i → bm (gw n g w) i) := fun w hw i i0 i1 h => ((gw_b hR hw).2 i i0 i1).mpr (Or.inl (Or.inl h))
  refine zi_inv (P := fun m r => (0 ≤ r ∧ r < 32) ∧ blw n g r ∧ bm r 0 ∧ (gw n g r = r ∨ 1 + m ≤ pc r)) hm ?_ (fun i r i0 i1 ⟨h1, h2, h3, h4⟩ => ?_)
  · have h1 := or_b hv (w := 1) ⟨by decide, by decide⟩
    have h0 : bm (zz_or v 1) 0 := (bm_or hv ⟨by decide, by decide⟩ ⟨by decide, by decide⟩).mpr (Or.inr ((bm_1 ⟨by decide, by decide⟩).mpr rfl))
    refine ⟨h1, fun i i0 i1 hi h => ?_, h0, Or.inr ?_⟩
    · rcases (bm_or hv ⟨by decide, by decide⟩ ⟨i0, i1⟩).mp h with h | h
      · exact hb i i0 i1 hi h
      · have := (bm_1 ⟨i0, i1⟩).mp h
        omega
    · have := pc_1 h0
      omega
  · have g1 := (gw_b (n := n) (g := g) hR h1).1
    refine ⟨g1, gw_blw hR h1 h2, up r h1 0 (by decide) (by decide) h3, ?_⟩
    rcases h4 with h4 | h4
    · exact Or.inl (by rw [h4, h4])
    · by_cases e : gw n g (gw n g r) = gw n g r
      · exact Or.inl e
      · by_cases e2 : gw n g r = r
        · exact absurd (by rw [e2, e2]) e
        · have := pc_lt h1 g1 (up r h1) (Ne.symm e2)
          exact Or.inr (by omega)
theorem it_fix {n : Int} {g : Gr} {v m : Int} (h0 : 0 ≤ m) (hf : gw n g (it n g v m) = it n g v m) : ∀ k : Nat, it n g v (m + k) = it n g v m := by
  intro k
  induction k with
  | zero => rw [Int.natCast_zero, Int.add_zero]
  | succ k ih =>
    rw [show m + ((k + 1 : Nat) : Int) = m + k + 1 by omega, it_s (by omega), ih, hf]
theorem it_rk {n : Int} {g : Gr} {v : Int} (hR : 1 ≤ rk n g ∧ rk n g ≤ 5) (hv : 0 ≤ v ∧ v < 32) (hb : blw n g v) : gw n g (it n g v (rk n g)) = it n g v (rk n g) := by
  obtain ⟨h1, h2, h3, h4⟩ := it_p (m := rk n g) hR hv hb (by omega)
  rcases h4 with h4 | h4
  · exact h4
  · have := pc_le (R := rk n g) h1 ⟨by omega, by omega⟩ h2
    omega
theorem hl_rk {n : Int} {g : Gr} {v : Int} (hR : 1 ≤ rk n g ∧ rk n g ≤ 5) (hv : 0 ≤ v ∧ v < 32) (hb : blw n g v) : it n g v (rk n g) = hl n g v := by
  have := it_fix (n := n) (g := g) (v := v) (m := rk n g) (by omega) (it_rk hR hv hb) (5 - rk n g).toNat
  rw [show rk n g + ((5 - rk n g).toNat : Int) = 5 by omega] at this
  exact this.symm
theorem hl_fix {n : Int} {g : Gr} {v : Int} (hR : 1 ≤ rk n g ∧ rk n g ≤ 5) (hv : 0 ≤ v ∧ v < 32) (hb : blw n g v) : gw n g (hl n g v) = hl n g v := by
  rw [← hl_rk hR hv hb]
  exact it_rk hR hv hb
theorem hl_p {n : Int} {g : Gr} {v : Int} (hR : 1 ≤ rk n g ∧ rk n g ≤ 5) (hv : 0 ≤ v ∧ v < 32) (hb : blw n g v) : (0 ≤ hl n g v ∧ hl n g v < 32) ∧ blw n g (hl n g v) ∧ bm (hl n g v) 0 := by
  obtain ⟨h1, h2, h3, -⟩ := it_p (m := 5) hR hv hb (by decide)
  exact ⟨h1, h2, h3⟩
theorem hl_it {n : Int} {g : Gr} {v m : Int} (hm : 0 ≤ m ∧ m ≤ 5) (hf : gw n g (it n g v m) = it n g v m) : it n g v m = hl n g v := by
  have := it_fix (n := n) (g := g) (v := v) (m := m) hm.1 hf (5 - m).toNat
  rw [show m + ((5 - m).toNat : Int) = 5 by omega] at this
  exact this.symm
theorem gw_0 {n : Int} {g : Gr} {v : Int} (hR : 1 ≤ rk n g ∧ rk n g ≤ 5) (hv : 0 ≤ v ∧ v < 32) : bm (gw n g v) 0 := ((gw_b hR hv).2 0 (by decide) (by decide)).mpr (Or.inl (Or.inr rfl))
theorem hl_cl {n : Int} {g : Gr} {v : Int} (hR : 1 ≤ rk n g ∧ rk n g ≤ 5) (hv : 0 ≤ v ∧ v < 32) (hb : blw n g v) : hl n g v = v ↔ gw n g v = v := by
  constructor
  · intro h
    have := hl_fix hR hv hb
    rwa [h] at this
  · intro h
    have h0 : bm v 0 := by have := gw_0 (n := n) (g := g) hR hv; rwa [h] at this
    have h1 : zz_or v 1 = v := by
      refine bm_ext (or_b hv ⟨by decide, by decide⟩) hv (fun i i0 i1 => ?_)
      rw [bm_or hv ⟨by decide, by decide⟩ ⟨i0, i1⟩, bm_1 ⟨i0, i1⟩]
      exact ⟨fun h => h.elim id (fun h => by subst h; exact h0), Or.inl⟩
    have h2 : it n g v 0 = v := h1
    have := hl_it (n := n) (g := g) (v := v) (m := 0) ⟨by decide, by decide⟩ (by rw [h2]; exact h)
    rw [← this]
    exact h2
theorem cl_iff {n : Int} {g : Gr} {v : Int} (hR : 1 ≤ rk n g ∧ rk n g ≤ 5) (hv : 0 ≤ v ∧ v < 32) : gw n g v = v ↔ bm v 0 ∧ ∀ l, 0 ≤ l → l < 5 → pd n g v l → bm v l := by
  obtain ⟨h1, h2⟩ := gw_b (n := n) (g := g) hR hv
  constructor
  · intro h
    refine ⟨by have := gw_0 (n := n) (g := g) hR hv; rwa [h] at this, fun l l0 l1 hp => ?_⟩
    have := (h2 l l0 l1).mpr (Or.inr hp)
    rwa [h] at this
  · rintro ⟨h0, h3⟩
    refine bm_ext h1 hv (fun l l0 l1 => ?_)
    rw [h2 l l0 l1]
    constructor
    · rintro ((h | h) | h)
      · exact h
      · subst h; exact h0
      · exact h3 l l0 l1 h
    · exact fun h => Or.inl (Or.inl h)
/-- how many closed sets -/
def cs (n : Int) (g : Gr) (m : Int) : Int := zi (fun v s => if gw n g v = v then s + 1 else s) 0 m
theorem cs_s {n : Int} {g : Gr} {m : Int} (h : 0 ≤ m) : cs n g (m + 1) = if gw n g m = m then cs n g m + 1 else cs n g m := zi_s _ _ h
theorem cs_b {n : Int} {g : Gr} {m : Int} (h : 0 ≤ m) : 0 ≤ cs n g m ∧ cs n g m ≤ m := by
  refine zi_inv (P := fun i r => 0 ≤ r ∧ r ≤ i) h ⟨by decide, by decide⟩ (fun i r i0 i1 h => ?_)
  split <;> omega
/-- the order of a set -/
def od (n : Int) (g : Gr) (v m : Int) : Int := zi (fun i s => if bm v i then s + dg n g i else s) 0 m
theorem od_s {n : Int} {g : Gr} {v m : Int} (h : 0 ≤ m) : od n g v (m + 1) = if bm v m then od n g v m + dg n g m else od n g v m := zi_s _ _ h
theorem dg_0 {n : Int} {g : Gr} {i : Int} (hn : 0 ≤ n) (h : rk n g ≤ i) : dg n g i = 0 := by
  refine zi_inv (P := fun m r => r = 0) hn rfl (fun b r b0 b1 h2 => ?_)
  rw [if_neg (by have := rk_gt (n := n) (g := g) hn (a := 0) (b := b) ⟨by decide, by omega⟩ ⟨b0, b1⟩; omega)]
  exact h2
theorem od_rk {n : Int} {g : Gr} {v : Int} (hn : 0 ≤ n) (hR : 1 ≤ rk n g ∧ rk n g ≤ 5) : od n g v (rk n g) = od n g v 5 := by
  have key : ∀ k : Nat, od n g v (rk n g + k) = od n g v (rk n g) := by
    intro k
    induction k with
    | zero => rw [Int.natCast_zero, Int.add_zero]
    | succ k ih =>
      rw [show rk n g + ((k + 1 : Nat) : Int) = rk n g + k + 1 by omega, od_s (by omega), dg_0 hn (by omega), Int.add_zero, ih]
      split <;> rfl
  have := key (5 - rk n g).toNat
  rw [show rk n g + ((5 - rk n g).toNat : Int) = 5 by omega] at this
  exact this.symm
theorem od_b {n : Int} {g : Gr} {v m : Int} (hn : 0 ≤ n ∧ n ≤ 8) (h : 0 ≤ m) : 0 ≤ od n g v m ∧ od n g v m ≤ 8 * m := by
  refine zi_inv (P := fun i r => 0 ≤ r ∧ r ≤ 8 * i) h ⟨by decide, by decide⟩ (fun i r i0 i1 h => ?_)
  have := dg_b hn.1 g i
  split <;> omega
/-- whether N(i, j, k) is N(j, i, k) for all -/
def tu (n : Int) (g : Gr) : Int := if ∀ i ∈ zl5, ∀ j ∈ zl5, ∀ k ∈ zl5, i < rk n g → j < rk n g → k < rk n g → nu n g i j k = nu n g j i k then 1 else 0
theorem tu_1 {n : Int} {g : Gr} (hR : rk n g ≤ 5) (h : ∀ i j k, 0 ≤ i → i < rk n g → 0 ≤ j → j < rk n g → 0 ≤ k → k < rk n g → nu n g i j k = nu n g j i k) : tu n g = 1 :=
  if_pos (zl5_all.mpr fun i i0 i1 => zl5_all.mpr fun j j0 j1 => zl5_all.mpr fun k k0 k1 a b c => h i j k i0 a j0 b k0 c)
theorem tu_0 {n : Int} {g : Gr} (hR : rk n g ≤ 5) {i j k : Int} (hi : 0 ≤ i ∧ i < rk n g) (hj : 0 ≤ j ∧ j < rk n g) (hk : 0 ≤ k ∧ k < rk n g) (h : nu n g i j k ≠ nu n g j i k) : tu n g = 0 :=
  if_neg fun q => h ((zl5_all (P := fun k => i < rk n g → j < rk n g → k < rk n g → nu n g i j k = nu n g j i k)).mp ((zl5_all (P := fun j => ∀ k ∈ zl5, i < rk n g → j < rk n g → k < rk n g → nu n g i j k = nu n g j i k)).mp ((zl5_all (P := fun i => ∀ j ∈ zl5, ∀ k ∈ zl5, i < rk n g → j < rk n g → k < rk n g → nu n g i j k = nu n g j i k)).mp q i hi.1 (by omega)) j hj.1 (by omega)) k hk.1 (by omega) hi.2 hj.2 hk.2)
/-- products of two of a set, of which the first lies ahead of (i, j) -/
def pdx (n : Int) (g : Gr) (v i j l : Int) : Prop := l < rk n g ∧ ∃ a b, (0 ≤ a ∧ a < rk n g) ∧ (0 ≤ b ∧ b < rk n g) ∧ lx a b i j ∧ bm v a ∧ bm v b ∧ 0 < nu n g a b l
theorem pdx_y {n : Int} {g : Gr} {v i j p q : Int} (hp : 0 ≤ p ∧ p < 32) (hq : 0 ≤ q ∧ q < 32) (hi : 0 ≤ i ∧ i < rk n g) (hj : 0 ≤ j ∧ j < rk n g) (h1 : ∀ l, 0 ≤ l → l < 5 → (bm p l ↔ pdx n g v i j l)) (h2 : ∀ l, 0 ≤ l → l < 5 → (bm q l ↔ l < rk n g ∧ 0 < nu n g i j l)) (hbi : bm v i) (hbj : bm v j) : ∀ l, 0 ≤ l → l < 5 → (bm (zz_or p q) l ↔ pdx n g v i (j + 1) l) := by
  intro l l0 l1
  rw [bm_or hp hq ⟨l0, l1⟩, h1 l l0 l1, h2 l l0 l1]
  constructor
  · rintro (⟨a, x, y, hx, hy, hl, q⟩ | ⟨a, b⟩)
    · exact ⟨a, x, y, hx, hy, by omega, q⟩
    · exact ⟨a, i, j, hi, hj, by omega, hbi, hbj, b⟩
  · rintro ⟨a, x, y, hx, hy, hl, q⟩
    by_cases e : x = i ∧ y = j
    · rw [e.1, e.2] at q
      exact Or.inr ⟨a, q.2.2⟩
    · exact Or.inl ⟨a, x, y, hx, hy, by omega, q⟩
theorem pdx_n {n : Int} {g : Gr} {v i j p : Int} (h1 : ∀ l, 0 ≤ l → l < 5 → (bm p l ↔ pdx n g v i j l)) (hb : ¬ (bm v i ∧ bm v j)) : ∀ l, 0 ≤ l → l < 5 → (bm p l ↔ pdx n g v i (j + 1) l) := by
  intro l l0 l1
  rw [h1 l l0 l1]
  constructor
  · rintro ⟨a, x, y, hx, hy, hl, q⟩
    exact ⟨a, x, y, hx, hy, by omega, q⟩
  · rintro ⟨a, x, y, hx, hy, hl, q⟩
    by_cases e : x = i ∧ y = j
    · rw [e.1, e.2] at q
      exact absurd ⟨q.1, q.2.1⟩ hb
    · exact ⟨a, x, y, hx, hy, by omega, q⟩
theorem pdx_r {n : Int} {g : Gr} {v i p : Int} (h1 : ∀ l, 0 ≤ l → l < 5 → (bm p l ↔ pdx n g v i (rk n g) l)) : ∀ l, 0 ≤ l → l < 5 → (bm p l ↔ pdx n g v (i + 1) 0 l) := by
  intro l l0 l1
  rw [h1 l l0 l1]
  constructor
  · rintro ⟨a, x, y, hx, hy, hl, q⟩
    exact ⟨a, x, y, hx, hy, by omega, q⟩
  · rintro ⟨a, x, y, hx, hy, hl, q⟩
    exact ⟨a, x, y, hx, hy, by omega, q⟩
theorem pdx_e {n : Int} {g : Gr} {v p : Int} (h1 : ∀ l, 0 ≤ l → l < 5 → (bm p l ↔ pdx n g v (rk n g) 0 l)) : ∀ l, 0 ≤ l → l < 5 → (bm p l ↔ pd n g v l) := by
  intro l l0 l1
  rw [h1 l l0 l1]
  constructor
  · rintro ⟨a, x, y, hx, hy, hl, q⟩
    exact ⟨a, x, y, hx, hy, q⟩
  · rintro ⟨a, x, y, hx, hy, q⟩
    exact ⟨a, x, y, hx, hy, by omega, q⟩
theorem pdx_0 {n : Int} {g : Gr} {v : Int} : ∀ l, 0 ≤ l → l < 5 → (bm 0 l ↔ pdx n g v 0 0 l) := by
  intro l l0 l1
  constructor
  · intro h
    exact absurd h (bm_0 ⟨l0, l1⟩)
  · rintro ⟨a, x, y, hx, hy, hl, q⟩
    omega
