/-! fields, rows, making, calls, returns over the abstract machine -/
theorem zz_wd_put {D : va_G} {cI cJ : ClassId} {bs : Nat × Nat} {h : AH} {H H' : Heap} {k : Nat} {x : AC} (hw : zz_wd D cI cJ bs h H) (hk : k < h.1.1) (hx : va_at D vwCl (bs.1 + k, zz_ce cI cJ bs x) H') (hs : H'.size = H.size) (ho : ∀ q : Nat, q ≠ bs.1 + k → H'[q]? = H[q]?) : zz_wd D cI cJ bs (zz_put h k x) H' := by
  refine ⟨by rw [hs]; exact hw.1, fun j hj => ?_, fun j hj => ?_⟩
  · by_cases e : j = k
    · subst e
      simp only [zz_put, if_true]
      exact hx
    · simp only [zz_put, if_neg e]
      exact (hw.2.1 j hj).kept (ho _ (fun z => e (by have z' : bs.1 + j = bs.1 + k := z
                                                     omega)))
  · have hj' : h.1.1 ≤ j := hj
    simp only [zz_put]
    rw [if_neg (by omega)]
    exact hw.2.2 j hj'
theorem zz_wd_new {D : va_G} {cI cJ : ClassId} {bs : Nat × Nat} {h : AH} {H H' : Heap} {sz : Nat} {x : AC} (hw : zz_wd D cI cJ bs h H) (hx : va_at D vwCl (bs.1 + h.1.1, zz_ce cI cJ bs x) H') (hs : H'.size = H.size + 1) (ho : ∀ q : Nat, q < H.size → H'[q]? = H[q]?) : zz_wd D cI cJ bs (zz_new h sz x) H' := by
  refine ⟨by rw [hs, hw.1]; simp only [zz_new]; omega, fun j hj => ?_, fun j hj => ?_⟩
  · have hj' : j < h.1.1 + 1 := hj
    by_cases e : j = h.1.1
    · subst e
      simp only [zz_new, if_true]
      exact hx
    · simp only [zz_new, if_neg e]
      exact (hw.2.1 j (by omega)).kept (ho _ (by have := hw.1; omega))
  · have hj' : h.1.1 + 1 ≤ j := hj
    simp only [zz_new]
    rw [if_neg (by omega)]
    exact hw.2.2 j (by omega)
theorem zz_live {D : va_G} {cI cJ : ClassId} {bs : Nat × Nat} {h : AH} {H : Heap} {k : Nat} (hw : zz_wd D cI cJ bs h H) (hk : h.2 k ≠ zz_dead) : k < h.1.1 := by
  rcases Nat.lt_or_ge k h.1.1 with q | q
  · exact q
  · exact absurd (hw.2.2 k q) hk
theorem zz_P1 {D : va_G} {q : Nat × va_E} {H : Heap} (h : va_at D vwCl q H) : va_P D vwCl [q] H := by
  intro k q' hk
  have hl : k < 1 := (List.getElem?_eq_some_iff.mp hk).1
  rw [show k = 0 by omega] at hk
  cases hk
  exact h
theorem zz_at {D : va_G} {cI cJ : ClassId} {bs : Nat × Nat} {h : AH} {H : Heap} {k : Nat} {x : AC} (hw : zz_wd D cI cJ bs h H) (hg : zz_get h k = x) (hx : x ≠ zz_dead) : k < h.1.1 ∧ va_at D vwCl (bs.1 + k, zz_ce cI cJ bs x) H := by
  unfold zz_get at hg
  have hk := zz_live hw (by rw [hg]; exact hx)
  have := hw.2.1 k hk
  rw [hg] at this
  exact ⟨hk, this⟩
theorem zz_ndA {n : Nat} {f : Int → Int} : (cA n f : AC) ≠ zz_dead := by intro h; cases h
theorem zz_ndL {n : Nat} {f : Int → Int} : (cL n f : AC) ≠ zz_dead := by intro h; cases h
theorem zz_ndO {ci : Nat} {fs : List AV} (h : ci < 5) : (cO ci fs : AC) ≠ zz_dead := by
  intro e
  have := congrArg (fun x : AC => match x with | .inl q => q.1 | _ => 0) e
  simp only [zz_dead] at this
  omega
theorem lw_good : ∀ w ∈ zz_tbl, goodWord w = true := fun w hw => (List.mem_filter.mp hw).2
theorem zz_goodIn {ws : List Cond} (h : ∀ w ∈ ws, w ∈ zz_tbl) : GoodIn zz_tbl ws := fun w hw => ⟨h w hw, good_of_word (lw_good w (h w hw))⟩
/-! fields -/
def zz_fl (own : String) (idx ci i : Nat) (fin : Bool) (ty : FieldType) : Prop :=
  ∃ (Cn : String) (T : u_T) (N : Nat) (tys : Nat → FieldType), vwCl[ci]? = some (Cn, T, N) ∧ (∀ w ∈ u_ws Cn T N, w ∈ zz_tbl) ∧ (∀ k, k < N → parseFieldDescriptor (T k).2.2.1 = some (tys k)) ∧ (∀ a, a < N → ∀ b, b < N → a ≠ b → (T a).2.1 ≠ (T b).2.1) ∧
    i < N ∧ Cond.fieldLink own idx (T i).1 (T i).2.1 (T i).2.2.1 ∈ zz_tbl ∧ (T i).2.2.2 = fin ∧ tys i = ty ∧ (T i).1 = Cn ∧ ci < 5
theorem aw_getfield {X : CT} {cc : ByteArray} {own mn : String} {nL : Nat} (C : zz_C X cc own mn nL) {pc : Nat} {L : List (Option AV)} {st : List AV} {h : AH} (n : Nat) {a ci i idx : Nat} {fin : Bool} {ty : FieldType} {fs : List AV} {v : AV} (hd : decode cc pc = .ok (.getfield idx, 3)) (hn : pc + 3 = n) (hf : zz_fl own idx ci i fin ty) (hg : zz_get h a = cO ci fs) (hv : fs[i]? = some v) (k : AW X n L (v :: st) h) : AW X pc L (vR a :: st) h := by
  subst hn
  obtain ⟨p, l, e, R, s, m, args, below, meth, c, nL, D, cI, cJ, bs, NS, Q, RET, SC⟩ := X
  obtain ⟨⟨ox, ob, oml, oown, ots, osz, oK, omn⟩, oR, oL⟩ := C
  intro H locs ls h1 h2 h3 h5
  obtain ⟨Cn, T, N, tys, g1, g2, g3, g4, g5, g6, g7, g8, g9, g10⟩ := hf
  have k := k H locs ls h1 h2 h3 h5
  simp only [List.map_cons, zz_cv] at k ⊢
  obtain ⟨hk, ha⟩ := zz_at h1 hg (zz_ndO g10)
  exact va_get (cl := vwCl) ox ob ots g2 oown oK (zz_P1 ha) 0 rfl g1 i g5 (ots _ g6) (fun _ h9 => h9) (by rw [List.getElem?_map, hv]; rfl) hd k
def zz_fit : FieldType → AV → Bool
  | .int, .inl _ => true
  | .long, .inr (.inl _) => true
  | .object _, .inr (.inr (.inl _)) => true
  | .array _, .inr (.inr (.inl _)) => true
  | _, _ => false
theorem zz_fits {ty : FieldType} {v : AV} {bs : Nat × Nat} (h : zz_fit ty v = true) : narrow ty (zz_cv bs v) = zz_cv bs v ∧ fits ty (zz_cv bs v) = true := by
  rcases v with x | x | k | b <;> cases ty <;> simp only [zz_fit] at h <;> first | exact absurd h (by decide) | exact ⟨rfl, rfl⟩
theorem zz_setm {fs : List AV} {i : Nat} {v : AV} {bs : Nat × Nat} : (fs.set i v).map (zz_cv bs) = (fs.map (zz_cv bs)).set i (zz_cv bs v) := List.map_set
theorem aw_putfield {X : CT} {cc : ByteArray} {own mn : String} {nL : Nat} (C : zz_C X cc own mn nL) {pc : Nat} {L : List (Option AV)} {st : List AV} {h : AH} (n : Nat) {a ci i idx : Nat} {ty : FieldType} {fs : List AV} {v : AV} (hd : decode cc pc = .ok (.putfield idx, 3)) (hn : pc + 3 = n) (hf : zz_fl own idx ci i false ty) (hg : zz_get h a = cO ci fs) (hl : i < fs.length) (hv : zz_fit ty v = true) (k : AW X n L st (zz_put h a (cO ci (fs.set i v)))) : AW X pc L (v :: vR a :: st) h := by
  subst hn
  obtain ⟨p, l, e, R, s, m, args, below, meth, c, nL, D, cI, cJ, bs, NS, Q, RET, SC⟩ := X
  obtain ⟨⟨ox, ob, oml, oown, ots, osz, oK, omn⟩, oR, oL⟩ := C
  intro H locs ls h1 h2 h3 h5
  obtain ⟨Cn, T, N, tys, g1, g2, g3, g4, g5, g6, g7, g8, g9, g10⟩ := hf
  simp only [List.map_cons]
  obtain ⟨hk, ha⟩ := zz_at h1 hg (zz_ndO g10)
  have hap := va_apart (own := own) ots g2 tys g3 g4 oK g1
  obtain ⟨r, r1, cell, q1, q2, q3, q4⟩ := ha
  have hr : r = (Cn, T, N) := Option.some.inj (r1.symm.trans g1)
  subst hr
  obtain ⟨hS, hfc, kC, hkC, hkind⟩ := oK.1 ci _ g1
  obtain ⟨cf, kf, fi, f, hi, hsl⟩ := hS i g5
  have hlay := ots _ (g2 _ (u_in_lay g5))
  unfold u_lay at hlay
  rw [if_neg (by rw [g7]; decide)] at hlay
  have hst := (u_facts hfc hkC (u_lays ots g2 g5) hi).1
  have h6 := u_store (v := zz_cv bs v) hfc hkC hkind hlay hi (g3 i g5) (by rw [g8]; exact (zz_fits hv).1) (by rw [g8]; exact (zz_fits hv).2)
  refine W.putK ox ob (f := f) ⟨oown, ots _ g6, ⟨_, _, _, hi⟩, hst⟩ (by rw [q2]; exact h6) q1 q3 (by rw [hsl]; exact k2_hasslot (q4 i g5)) rfl rfl hd fun H' e1 e2 e3 => ?_
  rw [hsl] at e1 ⊢
  have hl' : i < (fs.map (zz_cv bs)).length := by rw [List.length_map]; exact hl
  have hat : va_at D vwCl (bs.1 + a, zz_ce cI cJ bs (cO ci (fs.set i v))) H' := by
    refine ⟨_, g1, t_OB.to (V := updV (vp_V (fs.map (zz_cv bs))) i (zz_cv bs v)) ⟨_, e1, q2, q3, t_set q4 hap g5 (zz_cv bs v)⟩ (fun j _ => ?_)⟩
    rw [vp_updV_set hl' (zz_cv bs v) j]
    show vp_V _ j = vp_V ((fs.set i v).map (zz_cv bs)) j
    rw [zz_setm]
  exact k H' _ ls (zz_wd_put h1 hk hat e2 e3) (h2.put e2 e3 (Nat.le_add_right _ _)) h3 h5
theorem aw_putfinal {X : CT} {cc : ByteArray} {own mn : String} {nL : Nat} (C : zz_C X cc own mn nL) {pc : Nat} {L : List (Option AV)} {st : List AV} {h : AH} (n : Nat) {a ci i idx : Nat} {ty : FieldType} {fs : List AV} {v : AV} (hd : decode cc pc = .ok (.putfield idx, 3)) (hn : pc + 3 = n) (hf : zz_fl own idx ci i true ty) (hmn : mn = "<init>" ∧ vwCl[ci]?.map (fun q => q.1) = some own) (hg : zz_get h a = cO ci fs) (hl : i < fs.length) (hv : zz_fit ty v = true) (k : AW X n L st (zz_put h a (cO ci (fs.set i v)))) : AW X pc L (v :: vR a :: st) h := by
  subst hn
  obtain ⟨p, l, e, R, s, m, args, below, meth, c, nL, D, cI, cJ, bs, NS, Q, RET, SC⟩ := X
  obtain ⟨⟨ox, ob, oml, oown, ots, osz, oK, omn⟩, oR, oL⟩ := C
  intro H locs ls h1 h2 h3 h5
  obtain ⟨Cn, T, N, tys, g1, g2, g3, g4, g5, g6, g7, g8, g9, g10⟩ := hf
  simp only [List.map_cons]
  obtain ⟨hk, ha⟩ := zz_at h1 hg (zz_ndO g10)
  have hap := va_apart (own := own) ots g2 tys g3 g4 oK g1
  obtain ⟨r, r1, cell, q1, q2, q3, q4⟩ := ha
  have hr : r = (Cn, T, N) := Option.some.inj (r1.symm.trans g1)
  subst hr
  have hdecl : (T i).1 = own := by
    have h9 := hmn.2
    rw [g1] at h9
    rw [g9]
    exact Option.some.inj h9
  obtain ⟨hS, hfc, kC, hkC, hkind⟩ := oK.1 ci _ g1
  obtain ⟨cf, kf, fi, f, hi, hsl⟩ := hS i g5
  have hlay := ots _ (g2 _ (u_in_lay g5))
  unfold u_lay at hlay
  rw [if_pos g7] at hlay
  have hst := (u_facts hfc hkC (u_lays ots g2 g5) hi).1
  have hcf : m.cls = cf := by
    obtain ⟨_, _, c', _, _, _, -, -, hf', -, -, -, hown2, -⟩ := Cond.laysFinal_spec hlay
    have e1 : c' = cf := by have := hi.symm.trans hf'; simp at this; exact this.1.symm
    rw [hdecl] at hown2
    rw [← e1]; exact Option.some.inj (oown.symm.trans hown2)
  have h6 := u_fits (v := zz_cv bs v) hfc hkC hkind (Or.inr hlay) hi (g3 i g5) (by rw [g8]; exact (zz_fits hv).1) (by rw [g8]; exact (zz_fits hv).2)
  refine W.putFinK ox ob oown (ots _ g6) hi hst hcf (omn.trans hmn.1) (by rw [q2]; exact h6) q1 q3 (by rw [hsl]; exact k2_hasslot (q4 i g5)) rfl rfl hd fun H' e1 e2 e3 => ?_
  rw [hsl] at e1 ⊢
  have hl' : i < (fs.map (zz_cv bs)).length := by rw [List.length_map]; exact hl
  have hat : va_at D vwCl (bs.1 + a, zz_ce cI cJ bs (cO ci (fs.set i v))) H' := by
    refine ⟨_, g1, t_OB.to (V := updV (vp_V (fs.map (zz_cv bs))) i (zz_cv bs v)) ⟨_, e1, q2, q3, t_set q4 hap g5 (zz_cv bs v)⟩ (fun j _ => ?_)⟩
    rw [vp_updV_set hl' (zz_cv bs v) j]
    show vp_V _ j = vp_V ((fs.set i v).map (zz_cv bs)) j
    rw [zz_setm]
  exact k H' _ ls (zz_wd_put h1 hk hat e2 e3) (h2.put e2 e3 (Nat.le_add_right _ _)) h3 h5
/-! rows of ints and longs -/
theorem zz_toNat {i : Int} (h : 0 ≤ i) : ((i.toNat : Nat) : Int) = i := Int.toNat_of_nonneg h
theorem zz_upm {f : Int → Int} {i x : Int} (h0 : 0 ≤ i) : (fun j : Nat => Int32.ofInt (zz_up f i x (j : Int))) = upd (fun j : Nat => Int32.ofInt (f (j : Int))) i.toNat (Int32.ofInt x) := by
  funext j
  unfold zz_up upd
  by_cases e : (j : Int) = i
  · rw [if_pos e, if_pos (by omega)]
  · rw [if_neg e, if_neg (by omega)]
theorem zz_upmL {f : Int → Int} {i x : Int} (h0 : 0 ≤ i) : (fun j : Nat => Int64.ofInt (zz_up f i x (j : Int))) = vp_updL (fun j : Nat => Int64.ofInt (f (j : Int))) i.toNat (Int64.ofInt x) := by
  funext j
  unfold zz_up vp_updL
  by_cases e : (j : Int) = i
  · rw [if_pos e, if_pos (by omega)]
  · rw [if_neg e, if_neg (by omega)]
theorem aw_iaload {X : CT} {cc : ByteArray} {own mn : String} {nL : Nat} (C : zz_C X cc own mn nL) {pc : Nat} {L : List (Option AV)} {st : List AV} {h : AH} (n : Nat) {a z : Nat} {i : Int} {f : Int → Int} (hd : decode cc pc = .ok (.iaload, 1)) (hn : pc + 1 = n) (hg : zz_get h a = cA z f) (hi : 0 ≤ i ∧ i < z) (hz : z < 2147483648) (k : AW X n L (vI (f i) :: st) h) : AW X pc L (vI i :: vR a :: st) h := by
  subst hn
  obtain ⟨p, l, e, R, s, m, args, below, meth, c, nL, D, cI, cJ, bs, NS, Q, RET, SC⟩ := X
  obtain ⟨⟨ox, ob, oml, oown, ots, osz, oK, omn⟩, oR, oL⟩ := C
  intro H locs ls h1 h2 h3 h5
  have k := k H locs ls h1 h2 h3 h5
  simp only [List.map_cons, zz_cv] at k ⊢
  obtain ⟨hk, ha⟩ := zz_at h1 hg zz_ndA
  refine va_iald (cl := vwCl) ox ob oK (zz_P1 ha) 0 0 rfl rfl (i32_in hi.1 hi.2 hz) hd ?_
  rw [i32_cl hi.1 hi.2 hz]
  simp only [zz_toNat hi.1]
  exact k
theorem aw_laload {X : CT} {cc : ByteArray} {own mn : String} {nL : Nat} (C : zz_C X cc own mn nL) {pc : Nat} {L : List (Option AV)} {st : List AV} {h : AH} (n : Nat) {a z : Nat} {i : Int} {f : Int → Int} (hd : decode cc pc = .ok (.laload, 1)) (hn : pc + 1 = n) (hg : zz_get h a = cL z f) (hi : 0 ≤ i ∧ i < z) (hz : z < 2147483648) (k : AW X n L (vJ (f i) :: st) h) : AW X pc L (vI i :: vR a :: st) h := by
  subst hn
  obtain ⟨p, l, e, R, s, m, args, below, meth, c, nL, D, cI, cJ, bs, NS, Q, RET, SC⟩ := X
  obtain ⟨⟨ox, ob, oml, oown, ots, osz, oK, omn⟩, oR, oL⟩ := C
  intro H locs ls h1 h2 h3 h5
  have k := k H locs ls h1 h2 h3 h5
  simp only [List.map_cons, zz_cv] at k ⊢
  obtain ⟨hk, ha⟩ := zz_at h1 hg zz_ndL
  refine va_lald (cl := vwCl) ox ob oK (zz_P1 ha) 0 1 rfl rfl (i32_in hi.1 hi.2 hz) hd ?_
  rw [i32_cl hi.1 hi.2 hz]
  simp only [zz_toNat hi.1]
  exact k
theorem aw_iastore {X : CT} {cc : ByteArray} {own mn : String} {nL : Nat} (C : zz_C X cc own mn nL) {pc : Nat} {L : List (Option AV)} {st : List AV} {h : AH} (n : Nat) {a z : Nat} {i x : Int} {f : Int → Int} (hd : decode cc pc = .ok (.iastore, 1)) (hn : pc + 1 = n) (hg : zz_get h a = cA z f) (hi : 0 ≤ i ∧ i < z) (hz : z < 2147483648) (k : AW X n L st (zz_put h a (cA z (zz_up f i x)))) : AW X pc L (vI x :: vI i :: vR a :: st) h := by
  subst hn
  obtain ⟨p, l, e, R, s, m, args, below, meth, c, nL, D, cI, cJ, bs, NS, Q, RET, SC⟩ := X
  obtain ⟨⟨ox, ob, oml, oown, ots, osz, oK, omn⟩, oR, oL⟩ := C
  intro H locs ls h1 h2 h3 h5
  simp only [List.map_cons, zz_cv]
  obtain ⟨hk, ha⟩ := zz_at h1 hg zz_ndA
  refine W.iast (cell := arrV cI z (fun j => .int (Int32.ofInt (f (j : Int))))) ox ob ha ((oK.2 0 _ rfl).1 z (fun j => .int (Int32.ofInt (f (j : Int))))) (fun q => by cases q) (by rw [arrV_size]; exact i32_in hi.1 hi.2 hz) rfl rfl hd fun H1 e1 e2 e3 => ?_
  have hat : va_at D vwCl (bs.1 + a, zz_ce cI cJ bs (cA z (zz_up f i x))) H1 := by
    show H1[bs.1 + a]? = some (vp_cell _ _)
    rw [e1, arrV_store, i32_cl hi.1 hi.2 hz, vp_cell_i]
    congr 2
    funext q
    have e5 : Int32.ofInt (zz_up f i x (q : Int)) = upd (fun j : Nat => Int32.ofInt (f (j : Int))) i.toNat (Int32.ofInt x) q := congrFun (zz_upm hi.1) q
    rw [e5]
    simp only [updV, upd]
    split <;> rfl
  exact k H1 _ ls (zz_wd_put h1 hk hat e2 e3) (h2.put e2 e3 (Nat.le_add_right _ _)) h3 h5
theorem aw_lastore {X : CT} {cc : ByteArray} {own mn : String} {nL : Nat} (C : zz_C X cc own mn nL) {pc : Nat} {L : List (Option AV)} {st : List AV} {h : AH} (n : Nat) {a z : Nat} {i x : Int} {f : Int → Int} (hd : decode cc pc = .ok (.lastore, 1)) (hn : pc + 1 = n) (hg : zz_get h a = cL z f) (hi : 0 ≤ i ∧ i < z) (hz : z < 2147483648) (k : AW X n L st (zz_put h a (cL z (zz_up f i x)))) : AW X pc L (vJ x :: vI i :: vR a :: st) h := by
  subst hn
  obtain ⟨p, l, e, R, s, m, args, below, meth, c, nL, D, cI, cJ, bs, NS, Q, RET, SC⟩ := X
  obtain ⟨⟨ox, ob, oml, oown, ots, osz, oK, omn⟩, oR, oL⟩ := C
  intro H locs ls h1 h2 h3 h5
  simp only [List.map_cons, zz_cv]
  obtain ⟨hk, ha⟩ := zz_at h1 hg zz_ndL
  refine W.last (cell := arrV cJ z (fun j => .long (Int64.ofInt (f (j : Int))))) ox ob ha ((oK.2 1 _ rfl).1 z (fun j => .long (Int64.ofInt (f (j : Int))))) (fun q => by cases q) (by rw [arrV_size]; exact i32_in hi.1 hi.2 hz) rfl rfl hd fun H1 e1 e2 e3 => ?_
  have hat : va_at D vwCl (bs.1 + a, zz_ce cI cJ bs (cL z (zz_up f i x))) H1 := by
    show H1[bs.1 + a]? = some (vp_cell _ _)
    rw [e1, arrV_store, i32_cl hi.1 hi.2 hz, vp_cell_l]
    congr 2
    funext q
    have e5 : Int64.ofInt (zz_up f i x (q : Int)) = vp_updL (fun j : Nat => Int64.ofInt (f (j : Int))) i.toNat (Int64.ofInt x) q := congrFun (zz_upmL hi.1) q
    rw [e5]
    simp only [updV, vp_updL]
    split <;> rfl
  exact k H1 _ ls (zz_wd_put h1 hk hat e2 e3) (h2.put e2 e3 (Nat.le_add_right _ _)) h3 h5
/-! making -/
abbrev zz_rm (X : CT) (h : AH) (k n : Nat) : Prop := h.1.1 + k ≤ (zz_NS X).1 + (zz_R X).cells ∧ h.1.2 + n ≤ (zz_NS X).2 + (zz_R X).slots
theorem aw_newI {X : CT} {cc : ByteArray} {own mn : String} {nL : Nat} (C : zz_C X cc own mn nL) {pc : Nat} {L : List (Option AV)} {st : List AV} {h : AH} (n : Nat) {sz : Nat} {z : Int} (hd : decode cc pc = .ok (.newarray .int, 2)) (hn : pc + 2 = n) (hz : z = (sz : Int)) (hs : sz < 100000) (hr : zz_rm X h 1 sz) (k : AW X n L (vR h.1.1 :: st) (zz_new h sz (cA sz (fun _ => 0)))) : AW X pc L (vI z :: st) h := by
  subst hz
  subst hn
  obtain ⟨p, l, e, R, s, m, args, below, meth, c, nL, D, cI, cJ, bs, NS, Q, RET, SC⟩ := X
  obtain ⟨⟨ox, ob, oml, oown, ots, osz, oK, omn⟩, oR, oL⟩ := C
  intro H locs ls h1 h2 h3 h5
  simp only [List.map_cons, zz_cv] at k ⊢
  simp only [zz_rm, zz_NS, zz_R] at hr
  have e0 : (Int32.ofInt (sz : Int)).toNatClampNeg = sz := by rw [Int32.toNatClampNeg_ofInt_of_le (by omega) (by omega)]; rfl
  refine va_newaK ox ob (atype := .int) (ots _ (by decide +kernel)) rfl hd rfl (by rw [i32_0, i32_lt ⟨by omega, by omega⟩ r32_0]; omega) e0 (by show sz * 4 ≤ _; omega) (by omega) (by omega) rfl fun H1 cA1 e1 z1 o1 hAr hNm => ?_
  have hc : cA1 = cI := by
    have h7 := (oK.2 0 _ rfl).2
    have h8 : s.vm.findClass ("[" ++ FieldType.int.toString) = some cI := h7
    exact Option.some.inj (hNm.symm.trans h8)
  subst hc
  have hat : va_at D vwCl (bs.1 + h.1.1, zz_ce cA1 cJ bs (cA sz (fun _ => 0))) H1 := by
    show H1[bs.1 + h.1.1]? = some (vp_cell _ _)
    rw [← h1.1, e1]
    rfl
  have k := k H1 locs ls (zz_wd_new h1 hat z1 o1) ⟨Nat.le_trans h2.1 (by omega), fun x x1 x2 => (o1 x (Nat.lt_of_lt_of_le x1 h2.1)).trans (h2.2.1 x x1 x2), h2.2.2⟩ ⟨by show NS.1 ≤ h.1.1 + 1; omega, by show NS.2 ≤ h.1.2 + sz; omega⟩ h5
  simp only [List.map_cons, zz_cv] at k
  rw [h1.1]
  exact W.cs (by show _ = h.1.1 + 1 - NS.1; omega) (by show _ = h.1.2 + sz - NS.2; omega) k
theorem aw_newL {X : CT} {cc : ByteArray} {own mn : String} {nL : Nat} (C : zz_C X cc own mn nL) {pc : Nat} {L : List (Option AV)} {st : List AV} {h : AH} (n : Nat) {sz : Nat} {z : Int} (hd : decode cc pc = .ok (.newarray .long, 2)) (hn : pc + 2 = n) (hz : z = (sz : Int)) (hs : sz < 100000) (hr : zz_rm X h 1 sz) (k : AW X n L (vR h.1.1 :: st) (zz_new h sz (cL sz (fun _ => 0)))) : AW X pc L (vI z :: st) h := by
  subst hz
  subst hn
  obtain ⟨p, l, e, R, s, m, args, below, meth, c, nL, D, cI, cJ, bs, NS, Q, RET, SC⟩ := X
  obtain ⟨⟨ox, ob, oml, oown, ots, osz, oK, omn⟩, oR, oL⟩ := C
  intro H locs ls h1 h2 h3 h5
  simp only [List.map_cons, zz_cv] at k ⊢
  simp only [zz_rm, zz_NS, zz_R] at hr
  have e0 : (Int32.ofInt (sz : Int)).toNatClampNeg = sz := by rw [Int32.toNatClampNeg_ofInt_of_le (by omega) (by omega)]; rfl
  refine va_newaK ox ob (atype := .long) (ots _ (by decide +kernel)) rfl hd rfl (by rw [i32_0, i32_lt ⟨by omega, by omega⟩ r32_0]; omega) e0 (by show sz * 8 ≤ _; omega) (by omega) (by omega) rfl fun H1 cA1 e1 z1 o1 hAr hNm => ?_
  have hc : cA1 = cJ := by
    have h7 := (oK.2 1 _ rfl).2
    have h8 : s.vm.findClass ("[" ++ FieldType.long.toString) = some cJ := h7
    exact Option.some.inj (hNm.symm.trans h8)
  subst hc
  have hat : va_at D vwCl (bs.1 + h.1.1, zz_ce cI cA1 bs (cL sz (fun _ => 0))) H1 := by
    show H1[bs.1 + h.1.1]? = some (vp_cell _ _)
    rw [← h1.1, e1]
    rfl
  have k := k H1 locs ls (zz_wd_new h1 hat z1 o1) ⟨Nat.le_trans h2.1 (by omega), fun x x1 x2 => (o1 x (Nat.lt_of_lt_of_le x1 h2.1)).trans (h2.2.1 x x1 x2), h2.2.2⟩ ⟨by show NS.1 ≤ h.1.1 + 1; omega, by show NS.2 ≤ h.1.2 + sz; omega⟩ h5
  simp only [List.map_cons, zz_cv] at k
  rw [h1.1]
  exact W.cs (by show _ = h.1.1 + 1 - NS.1; omega) (by show _ = h.1.2 + sz - NS.2; omega) k
def zz_nw (own : String) (idx ci N : Nat) (fs : List AV) : Prop :=
  ∃ (Cn : String) (T : u_T) (tys : Nat → FieldType), vwCl[ci]? = some (Cn, T, N) ∧ (∀ w ∈ u_ws Cn T N, w ∈ zz_tbl) ∧ (∀ k, k < N → parseFieldDescriptor (T k).2.2.1 = some (tys k)) ∧
    Cond.classLink own idx Cn ∈ zz_tbl ∧ Cond.instantiable Cn N ∈ zz_tbl ∧ Cond.initialized Cn ∈ zz_tbl ∧ (∀ j, j < N → defaultValue (tys j) = vp_V (fs.map (zz_cv (0, 0))) j) ∧ (∀ bs : Nat × Nat, fs.map (zz_cv bs) = fs.map (zz_cv (0, 0)))
theorem aw_new {X : CT} {cc : ByteArray} {own mn : String} {nL : Nat} (C : zz_C X cc own mn nL) {pc : Nat} {L : List (Option AV)} {st : List AV} {h : AH} (n : Nat) {idx ci N : Nat} {fs : List AV} (hd : decode cc pc = .ok (.new idx, 3)) (hn : pc + 3 = n) (hw : zz_nw own idx ci N fs) (hr : zz_rm X h 1 N) (k : AW X n L (vR h.1.1 :: st) (zz_new h N (cO ci fs))) : AW X pc L st h := by
  subst hn
  obtain ⟨p, l, e, R, s, m, args, below, meth, c, nL, D, cI, cJ, bs, NS, Q, RET, SC⟩ := X
  obtain ⟨⟨ox, ob, oml, oown, ots, osz, oK, omn⟩, oR, oL⟩ := C
  intro H locs ls h1 h2 h3 h5
  obtain ⟨Cn, T, tys, g1, g2, g3, g4, g5, g6, g7, g8⟩ := hw
  simp only [zz_rm, zz_NS, zz_R] at hr
  have hKn := oK.1 ci _ g1
  refine W.newcK ox ob oown (ots _ g4) (ots _ g5) (ots _ g6) rfl hd (by omega) (by omega) hKn.2.1 rfl fun H1 kC hkC e1 z1 o1 => ?_
  have hat : va_at D vwCl (bs.1 + h.1.1, zz_ce cI cJ bs (cO ci fs)) H1 := by
    refine ⟨_, g1, (u_born tys ots g2 hKn hkC (by rw [← h1.1]; exact e1) g3).to (fun j hj => ?_)⟩
    show defaultValue (tys j) = vp_V (fs.map (zz_cv bs)) j
    rw [g7 j hj, g8 bs]
  have k := k H1 locs ls (zz_wd_new h1 hat z1 o1) ⟨Nat.le_trans h2.1 (by omega), fun x x1 x2 => (o1 x (Nat.lt_of_lt_of_le x1 h2.1)).trans (h2.2.1 x x1 x2), h2.2.2⟩ ⟨by show NS.1 ≤ h.1.1 + 1; omega, by show NS.2 ≤ h.1.2 + N; omega⟩ h5
  simp only [List.map_cons, zz_cv] at k
  rw [h1.1]
  exact W.cs (by show _ = h.1.1 + 1 - NS.1; omega) (by show _ = h.1.2 + N - NS.2; omega) k
/-! the script -/
theorem aw_slen {X : CT} {cc : ByteArray} {own mn : String} {nL : Nat} (C : zz_C X cc own mn nL) {pc : Nat} {L : List (Option AV)} {st : List AV} {h : AH} (n : Nat) (hd : decode cc pc = .ok (.arraylength, 1)) (hn : pc + 1 = n) (hs : zz_sc X) (k : AW X n L (vI ((zz_scr X).1 : Int) :: st) h) : AW X pc L (vS :: st) h := by
  subst hn
  obtain ⟨p, l, e, R, s, m, args, below, meth, c, nL, D, cI, cJ, bs, NS, Q, RET, SC⟩ := X
  obtain ⟨⟨ox, ob, oml, oown, ots, osz, oK, omn⟩, oR, oL⟩ := C
  intro H locs ls h1 h2 h3 h5
  have k := k H locs ls h1 h2 h3 h5
  simp only [List.map_cons, zz_cv, zz_scr] at k ⊢
  obtain ⟨s1, s2, s3⟩ := hs
  exact va_slen ox ob s1 s2 (Nat.not_le.mpr s3) h2 hd k
theorem aw_sld {X : CT} {cc : ByteArray} {own mn : String} {nL : Nat} (C : zz_C X cc own mn nL) {pc : Nat} {L : List (Option AV)} {st : List AV} {h : AH} (n : Nat) {i : Int} (hd : decode cc pc = .ok (.iaload, 1)) (hn : pc + 1 = n) (hs : zz_sc X) (hi : 0 ≤ i ∧ i < ((zz_scr X).1 : Int)) (hz : (zz_scr X).1 < 2147483648) (k : AW X n L (vI ((zz_scr X).2 i.toNat).toInt :: st) h) : AW X pc L (vI i :: vS :: st) h := by
  subst hn
  obtain ⟨p, l, e, R, s, m, args, below, meth, c, nL, D, cI, cJ, bs, NS, Q, RET, SC⟩ := X
  obtain ⟨⟨ox, ob, oml, oown, ots, osz, oK, omn⟩, oR, oL⟩ := C
  intro H locs ls h1 h2 h3 h5
  have k := k H locs ls h1 h2 h3 h5
  simp only [List.map_cons, zz_cv, zz_scr, Int32.ofInt_toInt] at k hi hz ⊢
  obtain ⟨s1, s2, s3⟩ := hs
  refine va_sld ox ob s1 s2 (Nat.not_le.mpr s3) h2 (i32_in hi.1 hi.2 hz) hd ?_
  rw [i32_cl hi.1 hi.2 hz]
  exact k
/-! contracts and calls -/
/-- a method: its name, code, locals, what it returns; frames and locals' words below it; cells and slots that it makes -/
abbrev MD : Type := MethodName × ByteArray × Nat × Option FieldType × (Nat × Nat) × (Nat × Nat)
def zz_room (d : MD) : Room := { frames := d.2.2.2.2.1.1, cells := d.2.2.2.2.2.1, slots := d.2.2.2.2.2.2, locals := d.2.2.2.2.1.2 }
def zz_wsd (d : MD) : List Cond := .code d.1 d.2.1 d.2.2.1 d.2.2.2.1 :: zz_tbl
def MC (d : MD) (args : List AV) (h : AH) (Q : Option AV → AH → Prop) : Prop :=
  ∀ (l : Launch) (D : va_G) (cI cJ : ClassId) (bs : Nat × Nat), Met l d.1 (zz_wsd d) (zz_room d)
    (va_Pc (args.map (zz_cv bs)) (fun U => U.heap.size = bs.1 + h.1.1 ∧ zz_wd D cI cJ bs h U.heap ∧ va_K D vwCl [(cI, .int), (cJ, .long)] U))
    (fun _ st oc t => (∃ (r : Option AV) (h' : AH), oc = .returned (r.map (zz_cv bs)) ∧ Q r h' ∧ h'.1 = (h.1.1 + d.2.2.2.2.2.1, h.1.2 + d.2.2.2.2.2.2) ∧ zz_wd D cI cJ bs h' t.heap) ∧ va_F (fun q => bs.1 ≤ q) st t)
    d.2.2.2.2.2.1 d.2.2.2.2.2.2 (fun q => bs.1 ≤ q)
def zz_okr : Option FieldType → Option AV → Prop
  | none, v => v = none
  | some .int, some (.inl _) => True
  | some .boolean, some (.inl x) => x = 0 ∨ x = 1
  | some .long, some (.inr (.inl _)) => True
  | _, _ => False
def zz_ent : List AV → List (Option AV)
  | [] => []
  | .inr (.inl x) :: r => some (vJ x) :: none :: zz_ent r
  | .inl x :: r => some (vI x) :: zz_ent r
  | .inr (.inr x) :: r => some (.inr (.inr x)) :: zz_ent r
theorem zz_lc_app (bs : Nat × Nat) : ∀ (L : List (Option AV)) (i k : Nat), zz_lc bs i (L ++ List.replicate k none) = zz_lc bs i L := by
  intro L
  induction L with
  | nil =>
    intro i k
    induction k generalizing i with
    | zero => rfl
    | succ k ih =>
      rw [List.nil_append, List.replicate_succ]
      simp only [zz_lc]
      exact ih (i + 1)
  | cons a r ih =>
    intro i k
    cases a with
    | none => simp only [List.cons_append, zz_lc]; exact ih (i + 1) k
    | some v => simp only [List.cons_append, zz_lc]; rw [ih (i + 1) k]
theorem zz_lc_ent (bs : Nat × Nat) : ∀ (vs : List AV) (i : Nat), zz_lc bs i (zz_ent vs) = lv_args i (vs.map (zz_cv bs)) := by
  intro vs
  induction vs with
  | nil => intro i; rfl
  | cons a r ih =>
    intro i
    rcases a with x | x | x
    · simp only [zz_ent, zz_lc, List.map_cons, lv_args]
      rw [ih, if_neg (by rw [zz_cat]; simp)]
    · simp only [zz_ent, zz_lc, List.map_cons, lv_args]
      rw [ih, if_pos (by rw [zz_cat])]
    · simp only [zz_ent, zz_lc, List.map_cons, lv_args]
      rw [ih, if_neg (by rw [zz_cat]; simp)]
theorem zz_sl_len (bs : Nat × Nat) : ∀ (vs : List AV), (lg_sl (vs.map (zz_cv bs))).length = (zz_ent vs).length := by
  intro vs
  induction vs with
  | nil => rfl
  | cons a r ih =>
    have e : lg_sl (((a :: r)).map (zz_cv bs)) = lg_sl [zz_cv bs a] ++ lg_sl (r.map (zz_cv bs)) := by simp [lg_sl]
    rw [e, List.length_append, ih]
    rcases a with x | x | k | b
    · simp [zz_ent, zz_cv, lg_sl, Value.category]; omega
    · simp [zz_ent, zz_cv, lg_sl, Value.category]; omega
    · simp [zz_ent, zz_cv, lg_sl, Value.category]; omega
    · cases b <;> simp [zz_ent, zz_cv, lg_sl, Value.category] <;> omega
theorem mc_start (d : MD) {args : List AV} {h : AH} {Q : Option AV → AH → Prop} (own mn : String) (hnm : d.1.cls = own ∧ d.1.name = mn ∧ plainName d.1.cls = true) (L0 : List (Option AV)) (hL0 : ∃ k, zz_ent args ++ List.replicate k none = L0) (hlen : L0.length = d.2.2.1)
    (body : ∀ X : CT, zz_C X d.2.1 own mn d.2.2.1 → zz_R X = zz_room d → zz_NS X = h.1 → (∀ v h', zz_okr d.2.2.2.1 v → h'.1 = (h.1.1 + d.2.2.2.2.2.1, h.1.2 + d.2.2.2.2.2.2) → Q v h' → zz_ret X v h') → AW X 0 L0 [] h) : MC d args h Q := by
  obtain ⟨y, b, nL, rt, ⟨fr, lo⟩, mc, ms⟩ := d
  intro l D cI cJ bs
  refine Met.ofW (cc := b) (maxL := nL) (ret := rt) hnm.2.2 rfl ?_
  intro p e s m args' below meth c s₁ B hml hv
  obtain ⟨rfl, hsz, hw, hK⟩ := hv
  have hts := atoms_spec (ws := zz_wsd (y, b, nL, rt, (fr, lo), mc, ms)) B.pre
  have hown : s.vm.findClass own = some m.cls := by
    have := findClass_of_methodNamed B.named
    rw [← hnm.1]
    exact this
  have hmn : meth.name = mn := by
    rw [← hnm.2.1]
    exact (name_of_methodNamed B.named B.method).1
  obtain ⟨k0, hk0⟩ := hL0
  have hl := lv_entry (args.map (zz_cv bs)) (n := nL) (by
    rw [zz_sl_len]
    have := hlen
    rw [← hk0, List.length_append] at this
    have h9 : (zz_ent args).length + (List.replicate k0 (none : Option AV)).length = nL := this
    omega)
  rw [← zz_lc_ent bs args 0, ← zz_lc_app bs (zz_ent args) 0 k0, hk0] at hl
  rw [lg_entry_eq]
  have hS : va_S (fun q => bs.1 ≤ q) s.heap s.heap [] := va_S.rf
  have W0 := body (p, l, e, (headSpec (zz_wsd (y, b, nL, rt, (fr, lo), mc, ms)) (zz_room (y, b, nL, rt, (fr, lo), mc, ms))).room, s, m, (args.map (zz_cv bs)).toArray, below, meth, c, nL, D, cI, cJ, bs, h.1, MQ below (fun _ st oc t => (∃ (r : Option AV) (h' : AH), oc = .returned (r.map (zz_cv bs)) ∧ Q r h' ∧ h'.1 = (h.1.1 + mc, h.1.2 + ms) ∧ zz_wd D cI cJ bs h' t.heap) ∧ va_F (fun q => bs.1 ≤ q) st t) (args.map (zz_cv bs)).toArray s mc ms (fun q => bs.1 ≤ q), (fun v h' => zz_okr rt v ∧ h'.1 = (h.1.1 + mc, h.1.2 + ms) ∧ Q v h'), (0, fun _ => 0))
    ⟨⟨B.exec, B.bytes, hml, hown, fun w hw9 => hts w (List.mem_cons_of_mem _ hw9), hsz, hK, hmn⟩, ?_, rfl⟩ rfl rfl (fun v h' a1 a2 a3 => ⟨a1, a2, a3⟩)
  · have W1 := W0 s.heap [] _ hw hS ⟨Nat.le_refl _, Nat.le_refl _⟩ hl
    exact W.cs (Nat.sub_self _).symm (Nat.sub_self _).symm W1
  · intro v h' pc L hret hdec H locs ls h1 h2 h3 h5
    obtain ⟨a1, a2, a3⟩ := hret
    have ec : h'.1.1 - h.1.1 = mc := by rw [a2]; show h.1.1 + mc - h.1.1 = mc; omega
    have es : h'.1.2 - h.1.2 = ms := by rw [a2]; show h.1.2 + ms - h.1.2 = ms; omega
    refine W.cs ec es ?_
    have hq : ∀ t : State, t.heap = H → (∃ (r : Option AV) (h' : AH), (Outcome.returned (v.map (zz_cv bs))) = .returned (r.map (zz_cv bs)) ∧ Q r h' ∧ h'.1 = (h.1.1 + mc, h.1.2 + ms) ∧ zz_wd D cI cJ bs h' t.heap) ∧ va_F (fun q => bs.1 ≤ q) s t := fun t ht => ⟨⟨v, h', rfl, a3, a2, by rw [ht]; exact h1⟩, h2.F ht⟩
    have hlocks := B.notSynchronized
    have hr := B.returns
    rcases v with _ | x | x | x
    · have e1 : rt = none := by
        cases rt with
        | none => rfl
        | some t => cases t <;> exact absurd a1 (by simp [zz_okr])
      subst e1
      exact W.vret B.exec B.bytes hr (fun t ht _ => hq t ht) h2.2.2 hdec
    · have e1 : rt = some .int ∨ (rt = some .boolean ∧ (x = 0 ∨ x = 1)) := by
        cases rt with
        | none => exact absurd a1 (by simp [zz_okr])
        | some t => cases t <;> first | exact Or.inl rfl | exact Or.inr ⟨rfl, a1⟩ | exact absurd a1 (by simp [zz_okr])
      rcases e1 with e1 | ⟨e1, e2⟩
      · subst e1
        exact W.iret B.exec B.bytes hr (fun t ht _ => hq t ht) h2.2.2 hdec
      · subst e1
        refine W.zret B.exec B.bytes hr ?_ (fun t ht _ => hq t ht) h2.2.2 hdec
        rcases e2 with e2 | e2 <;> subst e2 <;> decide
    · have e1 : rt = some .long := by
        cases rt with
        | none => exact absurd a1 (by simp [zz_okr])
        | some t => cases t <;> first | rfl | exact absurd a1 (by simp [zz_okr])
      subst e1
      exact W.lret B.exec B.bytes hr (fun t ht _ => hq t ht) h2.2.2 hdec
    · exact absurd hdec (by simp)
theorem aw_ireturn {X : CT} {cc : ByteArray} {own mn : String} {nL : Nat} (C : zz_C X cc own mn nL) {pc : Nat} {L : List (Option AV)} {h : AH} {x : Int} (hd : decode cc pc = .ok (.ireturn, 1)) (k : zz_ret X (some (vI x)) h) : AW X pc L [vI x] h := C.2.1 (some (vI x)) h pc L k hd
theorem aw_lreturn {X : CT} {cc : ByteArray} {own mn : String} {nL : Nat} (C : zz_C X cc own mn nL) {pc : Nat} {L : List (Option AV)} {h : AH} {x : Int} (hd : decode cc pc = .ok (.lreturn, 1)) (k : zz_ret X (some (vJ x)) h) : AW X pc L [vJ x] h := C.2.1 (some (vJ x)) h pc L k hd
theorem aw_return {X : CT} {cc : ByteArray} {own mn : String} {nL : Nat} (C : zz_C X cc own mn nL) {pc : Nat} {L : List (Option AV)} {h : AH} (hd : decode cc pc = .ok (.return_, 1)) (k : zz_ret X none h) : AW X pc L [] h := C.2.1 none h pc L k hd
/-- what the tables say of a method: it is there (kind: 0 an object's, 1 static, 2 a constructor), and how many arguments it takes -/
def zz_mok (d : MD) (kind n : Nat) : Prop := (kind = 1 ∨ Cond.instanceMethod d.1 ∈ zz_tbl) ∧ (kind ≠ 0 ∨ Cond.selects d.1.cls d.1 d.1 ∈ zz_tbl) ∧ (kind ≠ 1 ∨ Cond.static d.1 ∈ zz_tbl) ∧ (kind ≠ 2 ∨ (d.1.name = "<init>" ∧ d.2.2.2.1 = none)) ∧ Cond.initialized d.1.cls ∈ zz_tbl ∧ Cond.code d.1 d.2.1 d.2.2.1 d.2.2.2.1 ∈ zz_tbl ∧
  (d.1.cls ≠ "java/lang/invoke/MethodHandle" ∧ d.1.cls ≠ "java/lang/invoke/VarHandle") ∧ (parseMethodDescriptor d.1.desc).map (fun q => q.parameters.length) = some n
def zz_wt : List AV → Nat
  | [] => 0
  | .inr (.inl _) :: r => zz_wt r + 2
  | .inl _ :: r => zz_wt r + 1
  | .inr (.inr _) :: r => zz_wt r + 1
theorem zz_wt_ok (bs : Nat × Nat) : ∀ st : List AV, ((st.map (zz_cv bs)).map fun v => v.category).sum = zz_wt st := by
  intro st
  induction st with
  | nil => rfl
  | cons a r ih =>
    rw [List.map_cons, List.map_cons, List.sum_cons, ih, zz_cat]
    rcases a with x | x | x <;> simp only [zz_wt] <;> omega
/-- room for a callee -/
abbrev zz_rc (X : CT) (d : MD) (h : AH) : Prop := d.2.2.2.2.1.1 + 1 ≤ (zz_R X).frames ∧ d.2.2.1 + 19 + d.2.2.2.2.1.2 ≤ (zz_R X).locals ∧ zz_rm X h d.2.2.2.2.2.1 d.2.2.2.2.2.2
theorem zz_blind {D : va_G} {cI cJ : ClassId} {bs : Nat × Nat} {av : List Value} {h : AH} : FrameBlind (va_Pc av (fun U => U.heap.size = bs.1 + h.1.1 ∧ zz_wd D cI cJ bs h U.heap ∧ va_K D vwCl [(cI, .int), (cJ, .long)] U)) :=
  fun a U g mk q => by
    obtain ⟨q0, q1, qP, qK⟩ := q
    exact ⟨q0, q1, qP, va_K.moved (u := U) (U := U.calling g mk a) (Vm.Alike.refl U.vm) qK⟩
theorem zz_go {p : Program} {l : Launch} {e : Env} {R : Room} {s : State} {m : MethodId} {args : Array Value} {below : List Frame} {meth : Method} {c : Code} {H : Heap} {locs : List Loc} {cells slots mc ms : Nat} {Q : State → Prop} {pc : Nat} {ls : Array Slot} {st0 rest : List Value} {D : va_G} {cI cJ : ClassId} {bs : Nat × Nat} {h : AH} {Q' : Option AV → AH → Prop}
    (hr : va_Run p l e R s m args below meth c H locs cells slots mc ms (F0 m pc ls st0) rest (fun st oc t => (∃ (r : Option AV) (h' : AH), oc = .returned (r.map (zz_cv bs)) ∧ Q' r h' ∧ h'.1 = (h.1.1 + mc, h.1.2 + ms) ∧ zz_wd D cI cJ bs h' t.heap) ∧ va_F (fun q => bs.1 ≤ q) st t) (fun q => bs.1 ≤ q)) (hS : va_S (fun q => bs.1 ≤ q) s.heap H locs)
    (kk : ∀ (r : Option AV) (h' : AH) (H1 : Heap) (locs1 : List Loc), Q' r h' → h'.1 = (h.1.1 + mc, h.1.2 + ms) → zz_wd D cI cJ bs h' H1 → va_S (fun q => bs.1 ≤ q) s.heap H1 locs1 → W p l e R s m args below meth c H1 locs1 (cells + mc) (slots + ms) Q (F0 m (pc + 3) ls ((r.map (zz_cv bs)).toList ++ rest))) : W p l e R s m args below meth c H locs cells slots Q (F0 m pc ls st0) := by
  intro T hT X
  obtain ⟨v, st₀, t, T', L, h0, X', hL, e1, e2, ⟨⟨r, h', hv, hq, hn, hw⟩, hz, hk⟩, st⟩ := hr T hT X
  cases hv
  rw [h0] at hz hk
  obtain ⟨t2, a1, b1⟩ := kk r h' T'.heap (locs ++ L) hq hn (by rw [e1]; exact hw)
    ⟨Nat.le_trans hS.1 (by rw [e1]; exact hz), fun q g1 g2 => by rw [e1, hk q (Nat.lt_of_lt_of_le g1 hS.1) g2]; exact hS.2.1 q g1 g2, fun q hq => by
      rcases List.mem_append.mp hq with h | h
      · exact hS.2.2 q h
      · exact hL q h⟩ T' rfl X'
  exact ⟨t2, st t2 a1, b1⟩
theorem zz_sub3 {a b m : Nat} (h : b ≤ a) : a - b + m = a + m - b := by omega
theorem aw_callV {X : CT} {cc : ByteArray} {own mn : String} {nL : Nat} (C : zz_C X cc own mn nL) {pc : Nat} {L : List (Option AV)} {st : List AV} {h : AH} (n : Nat) (d : MD) {a idx ci na : Nat} {as : List AV} {fs : List AV} {S0 : List AV} {Q' : Option AV → AH → Prop} (hd : decode cc pc = .ok (.invokevirtual idx, 3)) (hn : pc + 3 = n) (hm : zz_mok d 0 na) (hlk : Cond.methodLink own idx d.1 ∈ zz_tbl) (hg : zz_get h a = cO ci fs) (hci : (vwCl[ci]?).map (fun q => q.1) = some d.1.cls ∧ ci < 5) (hS : S0 = as.reverse ++ vR a :: st) (hna : as.length = na) (hrm : zz_rc X d h) (hwt : zz_wt st ≤ 8)
    (k : MC d (vR a :: as) h Q') (kk : ∀ r h', Q' r h' → AW X n L (r.toList ++ st) h') : AW X pc L S0 h := by
  subst hS
  subst hn
  obtain ⟨p, l, e, R, s, m, args, below, meth, c, nL, D, cI, cJ, bs, NS, Q, RET, SC⟩ := X
  obtain ⟨⟨ox, ob, oml, oown, ots, osz, oK, omn⟩, oR, oL⟩ := C
  intro H locs ls h1 h2 h3 h5
  obtain ⟨y, b, nM, rt, ⟨fr, lo⟩, mc, ms⟩ := d
  simp only [zz_rc, zz_rm, zz_NS, zz_R] at hrm
  obtain ⟨m1, m2, -, -, m5, m6, m7, m8⟩ := hm
  have hci5 : ci < 5 := hci.2
  obtain ⟨hk, ha⟩ := zz_at h1 hg (zz_ndO hci5)
  obtain ⟨q, hq⟩ : ∃ q, vwCl[ci]? = some q := by
    cases hv : vwCl[ci]? with
    | none => rw [hv] at hci; exact absurd hci.1 (by simp)
    | some q => exact ⟨q, rfl⟩
  have hq1 : q.1 = y.cls := by have := hci.1; rw [hq] at this; exact Option.some.inj this
  have hM := k l D cI cJ bs
  have hrecv := va_recv oK (zz_P1 ha) hq (q0 := 0) rfl
  rw [hq1] at hrecv
  have hG : GoodIn zz_tbl (wsV own idx y.cls y (zz_wsd (y, b, nM, rt, (fr, lo), mc, ms))) := by
    refine zz_goodIn fun w hw => ?_
    rcases List.mem_append.mp hw with hw | hw
    · simp only [List.mem_cons, List.not_mem_nil, or_false] at hw
      rcases hw with rfl | rfl | rfl | rfl
      · exact hlk
      · exact m1.resolve_left (by decide)
      · exact m2.resolve_left (by decide)
      · exact m5
    · rcases List.mem_cons.mp hw with rfl | hw
      · exact m6
      · exact hw
  have hmap : ((as.reverse ++ vR a :: st).map (zz_cv bs)) = (as.map (zz_cv bs)).reverse ++ .ref (bs.1 + a) :: st.map (zz_cv bs) := by
    rw [List.map_append, List.map_reverse, List.map_cons]
    rfl
  rw [hmap]
  refine zz_go (h := h) (va_runV (As := as.map (zz_cv bs)) (rest := st.map (zz_cv bs)) ⟨ox, ob, by rw [oml, show nL = nL from rfl], oown, ots⟩ hM (cwV na ots hG rfl rfl rfl ⟨rfl, m7.1, m7.2, m8⟩ ⟨hrm.1, by have := hrm.2.1; show 8 + (nM + 11) + lo ≤ R.locals; omega⟩) ⟨zz_blind, hrecv, fun U hU hW => ⟨rfl, by rw [hU]; exact h1.1, by rw [hU]; exact h1, va_K.moved hW.alike oK⟩⟩ rfl (by rw [List.length_map]; exact hna) h5.1 rfl (lv_room (by rw [zz_wt_ok]; exact hwt)) hd ⟨by have := hrm.2.2.1; show h.1.1 - NS.1 + mc ≤ R.cells; omega, by have := hrm.2.2.2; show h.1.2 - NS.2 + ms ≤ R.slots; omega⟩) h2 (fun r h' H1 locs1 z1 z2 z3 z4 => ?_)
  have W1 := kk r h' z1 H1 locs1 ls z3 z4 ⟨by rw [z2]; show NS.1 ≤ h.1.1 + mc; omega, by rw [z2]; show NS.2 ≤ h.1.2 + ms; omega⟩ h5
  rw [List.map_append] at W1
  refine W.cs ?_ ?_ (by cases r <;> exact W1)
  · rw [z2]; show h.1.1 - NS.1 + mc = h.1.1 + mc - NS.1; omega
  · rw [z2]; show h.1.2 - NS.2 + ms = h.1.2 + ms - NS.2; omega
theorem aw_callS {X : CT} {cc : ByteArray} {own mn : String} {nL : Nat} (C : zz_C X cc own mn nL) {pc : Nat} {L : List (Option AV)} {st : List AV} {h : AH} (n : Nat) (d : MD) {idx na : Nat} {as : List AV} {S0 : List AV} {Q' : Option AV → AH → Prop} (hd : decode cc pc = .ok (.invokestatic idx, 3)) (hn : pc + 3 = n) (hm : zz_mok d 1 na) (hlk : Cond.methodLink own idx d.1 ∈ zz_tbl) (hS : S0 = as.reverse ++ st) (hna : as.length = na) (hrm : zz_rc X d h) (hwt : zz_wt st ≤ 8)
    (k : MC d as h Q') (kk : ∀ r h', Q' r h' → AW X n L (r.toList ++ st) h') : AW X pc L S0 h := by
  subst hS
  subst hn
  obtain ⟨p, l, e, R, s, m, args, below, meth, c, nL, D, cI, cJ, bs, NS, Q, RET, SC⟩ := X
  obtain ⟨⟨ox, ob, oml, oown, ots, osz, oK, omn⟩, oR, oL⟩ := C
  intro H locs ls h1 h2 h3 h5
  obtain ⟨y, b, nM, rt, ⟨fr, lo⟩, mc, ms⟩ := d
  simp only [zz_rc, zz_rm, zz_NS, zz_R] at hrm
  obtain ⟨-, -, m3, -, m5, m6, m7, m8⟩ := hm
  have hM := k l D cI cJ bs
  have hG : GoodIn zz_tbl (zz_wsd (y, b, nM, rt, (fr, lo), mc, ms)) := by
    refine zz_goodIn fun w hw => ?_
    rcases List.mem_cons.mp hw with rfl | hw
    · exact m6
    · exact hw
  have hmap : ((as.reverse ++ st).map (zz_cv bs)) = (as.map (zz_cv bs)).reverse ++ st.map (zz_cv bs) := by
    rw [List.map_append, List.map_reverse]
  rw [hmap]
  refine zz_go (h := h) (va_runS (As := as.map (zz_cv bs)) (rest := st.map (zz_cv bs)) ⟨ox, ob, by rw [oml, show nL = nL from rfl], oown, ots⟩ hM ⟨callB_of na ots hG rfl rfl rfl (ots _ m5) (ots _ hlk) ⟨m7.1, m7.2, m8⟩ ⟨hrm.1, by have := hrm.2.1; show 8 + (nM + 11) + lo ≤ R.locals; omega⟩, ots _ (m3.resolve_left (by decide))⟩ ⟨zz_blind, fun U hU hW => ⟨rfl, by rw [hU]; exact h1.1, by rw [hU]; exact h1, va_K.moved hW.alike oK⟩⟩ rfl (by rw [List.length_map]; exact hna) h5.1 rfl (lv_room (by rw [zz_wt_ok]; exact hwt)) hd ⟨by have := hrm.2.2.1; show h.1.1 - NS.1 + mc ≤ R.cells; omega, by have := hrm.2.2.2; show h.1.2 - NS.2 + ms ≤ R.slots; omega⟩) h2 (fun r h' H1 locs1 z1 z2 z3 z4 => ?_)
  have W1 := kk r h' z1 H1 locs1 ls z3 z4 ⟨by rw [z2]; show NS.1 ≤ h.1.1 + mc; omega, by rw [z2]; show NS.2 ≤ h.1.2 + ms; omega⟩ h5
  rw [List.map_append] at W1
  refine W.cs ?_ ?_ (by cases r <;> exact W1)
  · rw [z2]; show h.1.1 - NS.1 + mc = h.1.1 + mc - NS.1; omega
  · rw [z2]; show h.1.2 - NS.2 + ms = h.1.2 + ms - NS.2; omega
theorem aw_callI {X : CT} {cc : ByteArray} {own mn : String} {nL : Nat} (C : zz_C X cc own mn nL) {pc : Nat} {L : List (Option AV)} {st : List AV} {h : AH} (n : Nat) (d : MD) {a idx na : Nat} {as : List AV} {S0 : List AV} {Q' : Option AV → AH → Prop} (hd : decode cc pc = .ok (.invokespecial idx, 3)) (hn : pc + 3 = n) (hm : zz_mok d 2 na) (hlk : Cond.methodLink own idx d.1 ∈ zz_tbl) (hS : S0 = as.reverse ++ vR a :: st) (hna : as.length = na) (hrm : zz_rc X d h) (hwt : zz_wt st ≤ 8)
    (k : MC d (vR a :: as) h Q') (kk : ∀ r h', Q' r h' → AW X n L (r.toList ++ st) h') : AW X pc L S0 h := by
  subst hS
  subst hn
  obtain ⟨p, l, e, R, s, m, args, below, meth, c, nL, D, cI, cJ, bs, NS, Q, RET, SC⟩ := X
  obtain ⟨⟨ox, ob, oml, oown, ots, osz, oK, omn⟩, oR, oL⟩ := C
  intro H locs ls h1 h2 h3 h5
  obtain ⟨y, b, nM, rt, ⟨fr, lo⟩, mc, ms⟩ := d
  simp only [zz_rc, zz_rm, zz_NS, zz_R] at hrm
  obtain ⟨m1, -, -, m4, m5, m6, m7, m8⟩ := hm
  have hM := k l D cI cJ bs
  obtain ⟨m41, m42⟩ := m4.resolve_left (by decide)
  have m42' : rt = none := m42
  subst m42'
  have hG : GoodIn zz_tbl (zz_wsd (y, b, nM, none, (fr, lo), mc, ms)) := by
    refine zz_goodIn fun w hw => ?_
    rcases List.mem_cons.mp hw with rfl | hw
    · exact m6
    · exact hw
  have hmap : ((as.reverse ++ vR a :: st).map (zz_cv bs)) = (as.map (zz_cv bs)).reverse ++ .ref (bs.1 + a) :: st.map (zz_cv bs) := by
    rw [List.map_append, List.map_reverse, List.map_cons]
    rfl
  rw [hmap]
  refine zz_go (h := h) (va_runI (As := as.map (zz_cv bs)) (rest := st.map (zz_cv bs)) ⟨ox, ob, by rw [oml, show nL = nL from rfl], oown, ots⟩ hM ⟨callB_of na ots hG rfl rfl rfl (ots _ m5) (ots _ hlk) ⟨m7.1, m7.2, m8⟩ ⟨hrm.1, by have := hrm.2.1; show 8 + (nM + 11) + lo ≤ R.locals; omega⟩, m41, ots _ (m1.resolve_left (by decide))⟩ ⟨zz_blind, fun U hU hW => ⟨rfl, by rw [hU]; exact h1.1, by rw [hU]; exact h1, va_K.moved hW.alike oK⟩⟩ rfl (by rw [List.length_map]; exact hna) h5.1 rfl (lv_room (by rw [zz_wt_ok]; exact hwt)) hd ⟨by have := hrm.2.2.1; show h.1.1 - NS.1 + mc ≤ R.cells; omega, by have := hrm.2.2.2; show h.1.2 - NS.2 + ms ≤ R.slots; omega⟩) h2 (fun r h' H1 locs1 z1 z2 z3 z4 => ?_)
  have W1 := kk r h' z1 H1 locs1 ls z3 z4 ⟨by rw [z2]; show NS.1 ≤ h.1.1 + mc; omega, by rw [z2]; show NS.2 ≤ h.1.2 + ms; omega⟩ h5
  rw [List.map_append] at W1
  refine W.cs ?_ ?_ (by cases r <;> exact W1)
  · rw [z2]; show h.1.1 - NS.1 + mc = h.1.1 + mc - NS.1; omega
  · rw [z2]; show h.1.2 - NS.2 + ms = h.1.2 + ms - NS.2; omega
theorem aw_objInit {X : CT} {cc : ByteArray} {own mn : String} {nL : Nat} (C : zz_C X cc own mn nL) {pc : Nat} {L : List (Option AV)} {st : List AV} {h : AH} (n : Nat) {a idx : Nat} (hd : decode cc pc = .ok (.invokespecial idx, 3)) (hn : pc + 3 = n) (hlk : Cond.methodLink own idx objectInit ∈ zz_tbl) (hin : Cond.instanceMethod objectInit ∈ zz_tbl) (hco : Cond.code objectInit ⟨#[0xb1]⟩ 1 none ∈ zz_tbl) (hrm : 1 ≤ (zz_R X).frames ∧ zz_wt st + 12 ≤ (zz_R X).locals) (k : AW X n L st h) : AW X pc L (vR a :: st) h := by
  subst hn
  obtain ⟨p, l, e, R, s, m, args, below, meth, c, nL, D, cI, cJ, bs, NS, Q, RET, SC⟩ := X
  obtain ⟨⟨ox, ob, oml, oown, ots, osz, oK, omn⟩, oR, oL⟩ := C
  intro H locs ls h1 h2 h3 h5
  have k := k H locs ls h1 h2 h3 h5
  simp only [List.map_cons, zz_cv, zz_R] at k hrm ⊢
  refine W.objInit ox ob oown (ots _ hlk) (ots _ hin) (ots _ hco) rfl (by rw [oml]; exact h5.1) rfl hd hrm.1 ?_ k
  rw [zz_wt_ok]
  show 2 * 0 + zz_wt st + 12 ≤ R.locals
  omega
theorem zz_gs (h : AH) (k : Nat) (x : AC) : zz_get (zz_put h k x) k = x := by rw [zz_get_put, if_pos rfl]
theorem zz_gn {h : AH} {k j : Nat} {x : AC} (hn : j ≠ k) : zz_get (zz_put h k x) j = zz_get h j := by rw [zz_get_put, if_neg hn]
theorem zz_rc0 {X : CT} {d : MD} {h h0 : AH} (m : MD) (hRm : zz_R X = zz_room m) (hNS : zz_NS X = h0.1) (hh : h.1 = h0.1) (e : (Nat.ble (d.2.2.2.2.1.1 + 1) m.2.2.2.2.1.1 && (Nat.ble (d.2.2.1 + 19 + d.2.2.2.2.1.2) m.2.2.2.2.1.2 && (Nat.ble d.2.2.2.2.2.1 0 && Nat.ble d.2.2.2.2.2.2 0))) = true) : zz_rc X d h := by
  simp only [Bool.and_eq_true] at e
  have e1 := Nat.le_of_ble_eq_true e.1
  have e2 := Nat.le_of_ble_eq_true e.2.1
  have e3 := Nat.le_of_ble_eq_true e.2.2.1
  have e4 := Nat.le_of_ble_eq_true e.2.2.2
  refine ⟨?_, ?_, ?_, ?_⟩
  · rw [hRm]; exact e1
  · rw [hRm]; exact e2
  · rw [hNS, hh]; omega
  · rw [hNS, hh]; omega
/-! calls by the number of arguments; an int comes back, or nothing -/
theorem aw_V0v {X : CT} {cc : ByteArray} {own mn : String} {nL : Nat} (C : zz_C X cc own mn nL) {pc : Nat} {L : List (Option AV)} {st : List AV} {h : AH} (n : Nat) (d : MD) {a idx ci : Nat} {fs : List AV} (hd : decode cc pc = .ok (.invokevirtual idx, 3)) (hn : pc + 3 = n) (hm : zz_mok d 0 0) (hlk : Cond.methodLink own idx d.1 ∈ zz_tbl) (hg : zz_get h a = cO ci fs) (hci : (vwCl[ci]?).map (fun q => q.1) = some d.1.cls ∧ ci < 5) (hrm : zz_rc X d h) (hwt : zz_wt st ≤ 8) (k : MC d [vR a] h (fun r h' => ∃ v, r = some v ∧ AW X n L (v :: st) h')) : AW X pc L (vR a :: st) h :=
  aw_callV C n d (as := []) (st := st) hd hn hm hlk hg hci rfl rfl hrm hwt k (fun r h' hQ => by obtain ⟨v, rfl, hA⟩ := hQ; exact hA)
theorem aw_V0n {X : CT} {cc : ByteArray} {own mn : String} {nL : Nat} (C : zz_C X cc own mn nL) {pc : Nat} {L : List (Option AV)} {st : List AV} {h : AH} (n : Nat) (d : MD) {a idx ci : Nat} {fs : List AV} (hd : decode cc pc = .ok (.invokevirtual idx, 3)) (hn : pc + 3 = n) (hm : zz_mok d 0 0) (hlk : Cond.methodLink own idx d.1 ∈ zz_tbl) (hg : zz_get h a = cO ci fs) (hci : (vwCl[ci]?).map (fun q => q.1) = some d.1.cls ∧ ci < 5) (hrm : zz_rc X d h) (hwt : zz_wt st ≤ 8) (k : MC d [vR a] h (fun r h' => r = none ∧ AW X n L st h')) : AW X pc L (vR a :: st) h :=
  aw_callV C n d (as := []) (st := st) hd hn hm hlk hg hci rfl rfl hrm hwt k (fun r h' hQ => by obtain ⟨rfl, hA⟩ := hQ; exact hA)
theorem aw_V1v {X : CT} {cc : ByteArray} {own mn : String} {nL : Nat} (C : zz_C X cc own mn nL) {pc : Nat} {L : List (Option AV)} {st : List AV} {h : AH} (n : Nat) (d : MD) {a idx ci : Nat} {fs : List AV} {x1 : AV} (hd : decode cc pc = .ok (.invokevirtual idx, 3)) (hn : pc + 3 = n) (hm : zz_mok d 0 1) (hlk : Cond.methodLink own idx d.1 ∈ zz_tbl) (hg : zz_get h a = cO ci fs) (hci : (vwCl[ci]?).map (fun q => q.1) = some d.1.cls ∧ ci < 5) (hrm : zz_rc X d h) (hwt : zz_wt st ≤ 8) (k : MC d [vR a, x1] h (fun r h' => ∃ v, r = some v ∧ AW X n L (v :: st) h')) : AW X pc L (x1 :: vR a :: st) h :=
  aw_callV C n d (as := [x1]) (st := st) hd hn hm hlk hg hci rfl rfl hrm hwt k (fun r h' hQ => by obtain ⟨v, rfl, hA⟩ := hQ; exact hA)
theorem aw_V1n {X : CT} {cc : ByteArray} {own mn : String} {nL : Nat} (C : zz_C X cc own mn nL) {pc : Nat} {L : List (Option AV)} {st : List AV} {h : AH} (n : Nat) (d : MD) {a idx ci : Nat} {fs : List AV} {x1 : AV} (hd : decode cc pc = .ok (.invokevirtual idx, 3)) (hn : pc + 3 = n) (hm : zz_mok d 0 1) (hlk : Cond.methodLink own idx d.1 ∈ zz_tbl) (hg : zz_get h a = cO ci fs) (hci : (vwCl[ci]?).map (fun q => q.1) = some d.1.cls ∧ ci < 5) (hrm : zz_rc X d h) (hwt : zz_wt st ≤ 8) (k : MC d [vR a, x1] h (fun r h' => r = none ∧ AW X n L st h')) : AW X pc L (x1 :: vR a :: st) h :=
  aw_callV C n d (as := [x1]) (st := st) hd hn hm hlk hg hci rfl rfl hrm hwt k (fun r h' hQ => by obtain ⟨rfl, hA⟩ := hQ; exact hA)
theorem aw_V2v {X : CT} {cc : ByteArray} {own mn : String} {nL : Nat} (C : zz_C X cc own mn nL) {pc : Nat} {L : List (Option AV)} {st : List AV} {h : AH} (n : Nat) (d : MD) {a idx ci : Nat} {fs : List AV} {x1 x2 : AV} (hd : decode cc pc = .ok (.invokevirtual idx, 3)) (hn : pc + 3 = n) (hm : zz_mok d 0 2) (hlk : Cond.methodLink own idx d.1 ∈ zz_tbl) (hg : zz_get h a = cO ci fs) (hci : (vwCl[ci]?).map (fun q => q.1) = some d.1.cls ∧ ci < 5) (hrm : zz_rc X d h) (hwt : zz_wt st ≤ 8) (k : MC d [vR a, x1, x2] h (fun r h' => ∃ v, r = some v ∧ AW X n L (v :: st) h')) : AW X pc L (x2 :: x1 :: vR a :: st) h :=
  aw_callV C n d (as := [x1, x2]) (st := st) hd hn hm hlk hg hci rfl rfl hrm hwt k (fun r h' hQ => by obtain ⟨v, rfl, hA⟩ := hQ; exact hA)
theorem aw_V2n {X : CT} {cc : ByteArray} {own mn : String} {nL : Nat} (C : zz_C X cc own mn nL) {pc : Nat} {L : List (Option AV)} {st : List AV} {h : AH} (n : Nat) (d : MD) {a idx ci : Nat} {fs : List AV} {x1 x2 : AV} (hd : decode cc pc = .ok (.invokevirtual idx, 3)) (hn : pc + 3 = n) (hm : zz_mok d 0 2) (hlk : Cond.methodLink own idx d.1 ∈ zz_tbl) (hg : zz_get h a = cO ci fs) (hci : (vwCl[ci]?).map (fun q => q.1) = some d.1.cls ∧ ci < 5) (hrm : zz_rc X d h) (hwt : zz_wt st ≤ 8) (k : MC d [vR a, x1, x2] h (fun r h' => r = none ∧ AW X n L st h')) : AW X pc L (x2 :: x1 :: vR a :: st) h :=
  aw_callV C n d (as := [x1, x2]) (st := st) hd hn hm hlk hg hci rfl rfl hrm hwt k (fun r h' hQ => by obtain ⟨rfl, hA⟩ := hQ; exact hA)
theorem aw_V3v {X : CT} {cc : ByteArray} {own mn : String} {nL : Nat} (C : zz_C X cc own mn nL) {pc : Nat} {L : List (Option AV)} {st : List AV} {h : AH} (n : Nat) (d : MD) {a idx ci : Nat} {fs : List AV} {x1 x2 x3 : AV} (hd : decode cc pc = .ok (.invokevirtual idx, 3)) (hn : pc + 3 = n) (hm : zz_mok d 0 3) (hlk : Cond.methodLink own idx d.1 ∈ zz_tbl) (hg : zz_get h a = cO ci fs) (hci : (vwCl[ci]?).map (fun q => q.1) = some d.1.cls ∧ ci < 5) (hrm : zz_rc X d h) (hwt : zz_wt st ≤ 8) (k : MC d [vR a, x1, x2, x3] h (fun r h' => ∃ v, r = some v ∧ AW X n L (v :: st) h')) : AW X pc L (x3 :: x2 :: x1 :: vR a :: st) h :=
  aw_callV C n d (as := [x1, x2, x3]) (st := st) hd hn hm hlk hg hci rfl rfl hrm hwt k (fun r h' hQ => by obtain ⟨v, rfl, hA⟩ := hQ; exact hA)
theorem aw_V3n {X : CT} {cc : ByteArray} {own mn : String} {nL : Nat} (C : zz_C X cc own mn nL) {pc : Nat} {L : List (Option AV)} {st : List AV} {h : AH} (n : Nat) (d : MD) {a idx ci : Nat} {fs : List AV} {x1 x2 x3 : AV} (hd : decode cc pc = .ok (.invokevirtual idx, 3)) (hn : pc + 3 = n) (hm : zz_mok d 0 3) (hlk : Cond.methodLink own idx d.1 ∈ zz_tbl) (hg : zz_get h a = cO ci fs) (hci : (vwCl[ci]?).map (fun q => q.1) = some d.1.cls ∧ ci < 5) (hrm : zz_rc X d h) (hwt : zz_wt st ≤ 8) (k : MC d [vR a, x1, x2, x3] h (fun r h' => r = none ∧ AW X n L st h')) : AW X pc L (x3 :: x2 :: x1 :: vR a :: st) h :=
  aw_callV C n d (as := [x1, x2, x3]) (st := st) hd hn hm hlk hg hci rfl rfl hrm hwt k (fun r h' hQ => by obtain ⟨rfl, hA⟩ := hQ; exact hA)
theorem aw_V4v {X : CT} {cc : ByteArray} {own mn : String} {nL : Nat} (C : zz_C X cc own mn nL) {pc : Nat} {L : List (Option AV)} {st : List AV} {h : AH} (n : Nat) (d : MD) {a idx ci : Nat} {fs : List AV} {x1 x2 x3 x4 : AV} (hd : decode cc pc = .ok (.invokevirtual idx, 3)) (hn : pc + 3 = n) (hm : zz_mok d 0 4) (hlk : Cond.methodLink own idx d.1 ∈ zz_tbl) (hg : zz_get h a = cO ci fs) (hci : (vwCl[ci]?).map (fun q => q.1) = some d.1.cls ∧ ci < 5) (hrm : zz_rc X d h) (hwt : zz_wt st ≤ 8) (k : MC d [vR a, x1, x2, x3, x4] h (fun r h' => ∃ v, r = some v ∧ AW X n L (v :: st) h')) : AW X pc L (x4 :: x3 :: x2 :: x1 :: vR a :: st) h :=
  aw_callV C n d (as := [x1, x2, x3, x4]) (st := st) hd hn hm hlk hg hci rfl rfl hrm hwt k (fun r h' hQ => by obtain ⟨v, rfl, hA⟩ := hQ; exact hA)
theorem aw_V4n {X : CT} {cc : ByteArray} {own mn : String} {nL : Nat} (C : zz_C X cc own mn nL) {pc : Nat} {L : List (Option AV)} {st : List AV} {h : AH} (n : Nat) (d : MD) {a idx ci : Nat} {fs : List AV} {x1 x2 x3 x4 : AV} (hd : decode cc pc = .ok (.invokevirtual idx, 3)) (hn : pc + 3 = n) (hm : zz_mok d 0 4) (hlk : Cond.methodLink own idx d.1 ∈ zz_tbl) (hg : zz_get h a = cO ci fs) (hci : (vwCl[ci]?).map (fun q => q.1) = some d.1.cls ∧ ci < 5) (hrm : zz_rc X d h) (hwt : zz_wt st ≤ 8) (k : MC d [vR a, x1, x2, x3, x4] h (fun r h' => r = none ∧ AW X n L st h')) : AW X pc L (x4 :: x3 :: x2 :: x1 :: vR a :: st) h :=
  aw_callV C n d (as := [x1, x2, x3, x4]) (st := st) hd hn hm hlk hg hci rfl rfl hrm hwt k (fun r h' hQ => by obtain ⟨rfl, hA⟩ := hQ; exact hA)
theorem aw_S1v {X : CT} {cc : ByteArray} {own mn : String} {nL : Nat} (C : zz_C X cc own mn nL) {pc : Nat} {L : List (Option AV)} {st : List AV} {h : AH} (n : Nat) (d : MD) {idx : Nat} {x1 : AV} (hd : decode cc pc = .ok (.invokestatic idx, 3)) (hn : pc + 3 = n) (hm : zz_mok d 1 1) (hlk : Cond.methodLink own idx d.1 ∈ zz_tbl) (hrm : zz_rc X d h) (hwt : zz_wt st ≤ 8) (k : MC d [x1] h (fun r h' => ∃ v, r = some v ∧ AW X n L (v :: st) h')) : AW X pc L (x1 :: st) h :=
  aw_callS C n d (as := [x1]) (st := st) hd hn hm hlk rfl rfl hrm hwt k (fun r h' hQ => by obtain ⟨v, rfl, hA⟩ := hQ; exact hA)
theorem aw_S1n {X : CT} {cc : ByteArray} {own mn : String} {nL : Nat} (C : zz_C X cc own mn nL) {pc : Nat} {L : List (Option AV)} {st : List AV} {h : AH} (n : Nat) (d : MD) {idx : Nat} {x1 : AV} (hd : decode cc pc = .ok (.invokestatic idx, 3)) (hn : pc + 3 = n) (hm : zz_mok d 1 1) (hlk : Cond.methodLink own idx d.1 ∈ zz_tbl) (hrm : zz_rc X d h) (hwt : zz_wt st ≤ 8) (k : MC d [x1] h (fun r h' => r = none ∧ AW X n L st h')) : AW X pc L (x1 :: st) h :=
  aw_callS C n d (as := [x1]) (st := st) hd hn hm hlk rfl rfl hrm hwt k (fun r h' hQ => by obtain ⟨rfl, hA⟩ := hQ; exact hA)
theorem aw_S2v {X : CT} {cc : ByteArray} {own mn : String} {nL : Nat} (C : zz_C X cc own mn nL) {pc : Nat} {L : List (Option AV)} {st : List AV} {h : AH} (n : Nat) (d : MD) {idx : Nat} {x1 x2 : AV} (hd : decode cc pc = .ok (.invokestatic idx, 3)) (hn : pc + 3 = n) (hm : zz_mok d 1 2) (hlk : Cond.methodLink own idx d.1 ∈ zz_tbl) (hrm : zz_rc X d h) (hwt : zz_wt st ≤ 8) (k : MC d [x1, x2] h (fun r h' => ∃ v, r = some v ∧ AW X n L (v :: st) h')) : AW X pc L (x2 :: x1 :: st) h :=
  aw_callS C n d (as := [x1, x2]) (st := st) hd hn hm hlk rfl rfl hrm hwt k (fun r h' hQ => by obtain ⟨v, rfl, hA⟩ := hQ; exact hA)
theorem aw_S2n {X : CT} {cc : ByteArray} {own mn : String} {nL : Nat} (C : zz_C X cc own mn nL) {pc : Nat} {L : List (Option AV)} {st : List AV} {h : AH} (n : Nat) (d : MD) {idx : Nat} {x1 x2 : AV} (hd : decode cc pc = .ok (.invokestatic idx, 3)) (hn : pc + 3 = n) (hm : zz_mok d 1 2) (hlk : Cond.methodLink own idx d.1 ∈ zz_tbl) (hrm : zz_rc X d h) (hwt : zz_wt st ≤ 8) (k : MC d [x1, x2] h (fun r h' => r = none ∧ AW X n L st h')) : AW X pc L (x2 :: x1 :: st) h :=
  aw_callS C n d (as := [x1, x2]) (st := st) hd hn hm hlk rfl rfl hrm hwt k (fun r h' hQ => by obtain ⟨rfl, hA⟩ := hQ; exact hA)
theorem aw_S3v {X : CT} {cc : ByteArray} {own mn : String} {nL : Nat} (C : zz_C X cc own mn nL) {pc : Nat} {L : List (Option AV)} {st : List AV} {h : AH} (n : Nat) (d : MD) {idx : Nat} {x1 x2 x3 : AV} (hd : decode cc pc = .ok (.invokestatic idx, 3)) (hn : pc + 3 = n) (hm : zz_mok d 1 3) (hlk : Cond.methodLink own idx d.1 ∈ zz_tbl) (hrm : zz_rc X d h) (hwt : zz_wt st ≤ 8) (k : MC d [x1, x2, x3] h (fun r h' => ∃ v, r = some v ∧ AW X n L (v :: st) h')) : AW X pc L (x3 :: x2 :: x1 :: st) h :=
  aw_callS C n d (as := [x1, x2, x3]) (st := st) hd hn hm hlk rfl rfl hrm hwt k (fun r h' hQ => by obtain ⟨v, rfl, hA⟩ := hQ; exact hA)
theorem aw_S3n {X : CT} {cc : ByteArray} {own mn : String} {nL : Nat} (C : zz_C X cc own mn nL) {pc : Nat} {L : List (Option AV)} {st : List AV} {h : AH} (n : Nat) (d : MD) {idx : Nat} {x1 x2 x3 : AV} (hd : decode cc pc = .ok (.invokestatic idx, 3)) (hn : pc + 3 = n) (hm : zz_mok d 1 3) (hlk : Cond.methodLink own idx d.1 ∈ zz_tbl) (hrm : zz_rc X d h) (hwt : zz_wt st ≤ 8) (k : MC d [x1, x2, x3] h (fun r h' => r = none ∧ AW X n L st h')) : AW X pc L (x3 :: x2 :: x1 :: st) h :=
  aw_callS C n d (as := [x1, x2, x3]) (st := st) hd hn hm hlk rfl rfl hrm hwt k (fun r h' hQ => by obtain ⟨rfl, hA⟩ := hQ; exact hA)
theorem aw_S4v {X : CT} {cc : ByteArray} {own mn : String} {nL : Nat} (C : zz_C X cc own mn nL) {pc : Nat} {L : List (Option AV)} {st : List AV} {h : AH} (n : Nat) (d : MD) {idx : Nat} {x1 x2 x3 x4 : AV} (hd : decode cc pc = .ok (.invokestatic idx, 3)) (hn : pc + 3 = n) (hm : zz_mok d 1 4) (hlk : Cond.methodLink own idx d.1 ∈ zz_tbl) (hrm : zz_rc X d h) (hwt : zz_wt st ≤ 8) (k : MC d [x1, x2, x3, x4] h (fun r h' => ∃ v, r = some v ∧ AW X n L (v :: st) h')) : AW X pc L (x4 :: x3 :: x2 :: x1 :: st) h :=
  aw_callS C n d (as := [x1, x2, x3, x4]) (st := st) hd hn hm hlk rfl rfl hrm hwt k (fun r h' hQ => by obtain ⟨v, rfl, hA⟩ := hQ; exact hA)
theorem aw_S4n {X : CT} {cc : ByteArray} {own mn : String} {nL : Nat} (C : zz_C X cc own mn nL) {pc : Nat} {L : List (Option AV)} {st : List AV} {h : AH} (n : Nat) (d : MD) {idx : Nat} {x1 x2 x3 x4 : AV} (hd : decode cc pc = .ok (.invokestatic idx, 3)) (hn : pc + 3 = n) (hm : zz_mok d 1 4) (hlk : Cond.methodLink own idx d.1 ∈ zz_tbl) (hrm : zz_rc X d h) (hwt : zz_wt st ≤ 8) (k : MC d [x1, x2, x3, x4] h (fun r h' => r = none ∧ AW X n L st h')) : AW X pc L (x4 :: x3 :: x2 :: x1 :: st) h :=
  aw_callS C n d (as := [x1, x2, x3, x4]) (st := st) hd hn hm hlk rfl rfl hrm hwt k (fun r h' hQ => by obtain ⟨rfl, hA⟩ := hQ; exact hA)
theorem aw_I0n {X : CT} {cc : ByteArray} {own mn : String} {nL : Nat} (C : zz_C X cc own mn nL) {pc : Nat} {L : List (Option AV)} {st : List AV} {h : AH} (n : Nat) (d : MD) {a idx : Nat} (hd : decode cc pc = .ok (.invokespecial idx, 3)) (hn : pc + 3 = n) (hm : zz_mok d 2 0) (hlk : Cond.methodLink own idx d.1 ∈ zz_tbl) (hrm : zz_rc X d h) (hwt : zz_wt st ≤ 8) (k : MC d [vR a] h (fun r h' => r = none ∧ AW X n L st h')) : AW X pc L (vR a :: st) h :=
  aw_callI C n d (as := []) (st := st) hd hn hm hlk rfl rfl hrm hwt k (fun r h' hQ => by obtain ⟨rfl, hA⟩ := hQ; exact hA)
