/-! division of what is not negative -/
theorem aw_idivN {X : CT} {cc : ByteArray} {own mn : String} {nL : Nat} (C : zz_C X cc own mn nL) {pc : Nat} {L : List (Option AV)} {st : List AV} {h : AH} (n : Nat) {x y : Int} (hd : decode cc pc = .ok (.idiv, 1)) (hn : pc + 1 = n) (hr : 0 ≤ x ∧ x < 2147483648 ∧ 0 < y ∧ y < 2147483648) (k : AW X n L (vI (x / y) :: st) h) : AW X pc L (vI y :: vI x :: st) h := by
  rw [← Int.tdiv_eq_ediv_of_nonneg hr.1] at k
  exact aw_idiv C n hd hn ⟨⟨by omega, by omega⟩, ⟨by omega, by omega⟩, by omega⟩ k
theorem aw_iremN {X : CT} {cc : ByteArray} {own mn : String} {nL : Nat} (C : zz_C X cc own mn nL) {pc : Nat} {L : List (Option AV)} {st : List AV} {h : AH} (n : Nat) {x y : Int} (hd : decode cc pc = .ok (.irem, 1)) (hn : pc + 1 = n) (hr : 0 ≤ x ∧ x < 2147483648 ∧ 0 < y ∧ y < 2147483648) (k : AW X n L (vI (x % y) :: st) h) : AW X pc L (vI y :: vI x :: st) h := by
  rw [← Int.tmod_eq_emod_of_nonneg hr.1] at k
  exact aw_irem C n hd hn ⟨⟨by omega, by omega⟩, ⟨by omega, by omega⟩, by omega⟩ k
theorem aw_ldivN {X : CT} {cc : ByteArray} {own mn : String} {nL : Nat} (C : zz_C X cc own mn nL) {pc : Nat} {L : List (Option AV)} {st : List AV} {h : AH} (n : Nat) {x y : Int} (hd : decode cc pc = .ok (.ldiv, 1)) (hn : pc + 1 = n) (hr : 0 ≤ x ∧ x < 9223372036854775808 ∧ 0 < y ∧ y < 9223372036854775808) (k : AW X n L (vJ (x / y) :: st) h) : AW X pc L (vJ y :: vJ x :: st) h := by
  rw [← Int.tdiv_eq_ediv_of_nonneg hr.1] at k
  exact aw_ldiv C n hd hn ⟨⟨by omega, by omega⟩, ⟨by omega, by omega⟩, by omega⟩ k
theorem aw_lremN {X : CT} {cc : ByteArray} {own mn : String} {nL : Nat} (C : zz_C X cc own mn nL) {pc : Nat} {L : List (Option AV)} {st : List AV} {h : AH} (n : Nat) {x y : Int} (hd : decode cc pc = .ok (.lrem, 1)) (hn : pc + 1 = n) (hr : 0 ≤ x ∧ x < 9223372036854775808 ∧ 0 < y ∧ y < 9223372036854775808) (k : AW X n L (vJ (x % y) :: st) h) : AW X pc L (vJ y :: vJ x :: st) h := by
  rw [← Int.tmod_eq_emod_of_nonneg hr.1] at k
  exact aw_lrem C n hd hn ⟨⟨by omega, by omega⟩, ⟨by omega, by omega⟩, by omega⟩ k
theorem zz_rm0 {X : CT} {h h0 : AH} (hNS : zz_NS X = h0.1) (hh : h.1 = h0.1) : zz_rm X h 0 0 := by
  constructor
  · rw [hNS, hh]; omega
  · rw [hNS, hh]; omega
theorem lkJ_max : Cond.static yJ_max ∈ zz_tbl ∧ Cond.initialized "java/lang/Math" ∈ zz_tbl ∧ Cond.code yJ_max cJ_max 2 (some .int) ∈ zz_tbl := ⟨(okmJ_max.2.2.1).resolve_left (by decide), okmJ_max.2.2.2.2.1, okmJ_max.2.2.2.2.2.1⟩
theorem aw_mmax {X : CT} {cc : ByteArray} {own mn : String} {nL : Nat} (C : zz_C X cc own mn nL) {pc : Nat} {L : List (Option AV)} {st : List AV} {h : AH} (n : Nat) {idx : Nat} {x y : Int} (hd : decode cc pc = .ok (.invokestatic idx, 3)) (hn : pc + 3 = n) (hlk : Cond.methodLink own idx yJ_max ∈ zz_tbl) (hrm : 1 ≤ (zz_R X).frames ∧ zz_wt st + 13 ≤ (zz_R X).locals) (hm : zz_rm X h 0 0) (hr : R32 x ∧ R32 y) (k : ∀ v, ((x < y ∧ v = y) ∨ (y ≤ x ∧ v = x)) → AW X n L (vI v :: st) h) : AW X pc L (vI y :: vI x :: st) h := by
  have k := k (if x < y then (y) else (x)) (by split <;> omega)
  subst hn
  obtain ⟨p, l, e, R, s, m, args, below, meth, c, nL, D, cI, cJ, bs, NS, Q, RET, SC⟩ := X
  obtain ⟨⟨ox, ob, oml, oown, ots, osz, oK, omn⟩, oR, oL⟩ := C
  intro H locs ls h1 h2 h3 h5
  have k := k H locs ls h1 h2 h3 h5
  simp only [List.map_cons, zz_cv, zz_R, zz_rm, zz_NS] at k hrm hm ⊢
  have e1 : Lib.Math.max.name = yJ_max := rfl
  have e2 : Lib.Math.max.code = cJ_max := by decide +kernel
  refine va_mmax ox ob (by rw [oml]; exact h5.1.symm) oown (by rw [e1]; exact ots _ hlk) (by rw [e1]; exact ots _ lkJ_max.1) (ots _ lkJ_max.2.1) (by rw [e1, e2]; exact ots _ lkJ_max.2.2) hrm.1 (by rw [zz_wt_ok]; exact hrm.2) (by omega) (by omega) hd ?_
  have e3 : Int32.ofInt (if x < y then (y) else (x)) = if Int32.ofInt x < Int32.ofInt y then (Int32.ofInt y) else (Int32.ofInt x) := by
    simp only [i32_lt hr.1 hr.2]
    split <;> rfl
  rw [e3] at k
  exact k
theorem lkJ_min : Cond.static yJ_min ∈ zz_tbl ∧ Cond.initialized "java/lang/Math" ∈ zz_tbl ∧ Cond.code yJ_min cJ_min 2 (some .int) ∈ zz_tbl := ⟨(okmJ_min.2.2.1).resolve_left (by decide), okmJ_min.2.2.2.2.1, okmJ_min.2.2.2.2.2.1⟩
theorem aw_mmin {X : CT} {cc : ByteArray} {own mn : String} {nL : Nat} (C : zz_C X cc own mn nL) {pc : Nat} {L : List (Option AV)} {st : List AV} {h : AH} (n : Nat) {idx : Nat} {x y : Int} (hd : decode cc pc = .ok (.invokestatic idx, 3)) (hn : pc + 3 = n) (hlk : Cond.methodLink own idx yJ_min ∈ zz_tbl) (hrm : 1 ≤ (zz_R X).frames ∧ zz_wt st + 13 ≤ (zz_R X).locals) (hm : zz_rm X h 0 0) (hr : R32 x ∧ R32 y) (k : ∀ v, ((y < x ∧ v = y) ∨ (x ≤ y ∧ v = x)) → AW X n L (vI v :: st) h) : AW X pc L (vI y :: vI x :: st) h := by
  have k := k (if y < x then (y) else (x)) (by split <;> omega)
  subst hn
  obtain ⟨p, l, e, R, s, m, args, below, meth, c, nL, D, cI, cJ, bs, NS, Q, RET, SC⟩ := X
  obtain ⟨⟨ox, ob, oml, oown, ots, osz, oK, omn⟩, oR, oL⟩ := C
  intro H locs ls h1 h2 h3 h5
  have k := k H locs ls h1 h2 h3 h5
  simp only [List.map_cons, zz_cv, zz_R, zz_rm, zz_NS] at k hrm hm ⊢
  have e1 : Lib.Math.min.name = yJ_min := rfl
  have e2 : Lib.Math.min.code = cJ_min := by decide +kernel
  refine va_mmin ox ob (by rw [oml]; exact h5.1.symm) oown (by rw [e1]; exact ots _ hlk) (by rw [e1]; exact ots _ lkJ_min.1) (ots _ lkJ_min.2.1) (by rw [e1, e2]; exact ots _ lkJ_min.2.2) hrm.1 (by rw [zz_wt_ok]; exact hrm.2) (by omega) (by omega) hd ?_
  have e3 : Int32.ofInt (if y < x then (y) else (x)) = if Int32.ofInt y < Int32.ofInt x then (Int32.ofInt y) else (Int32.ofInt x) := by
    simp only [i32_lt hr.2 hr.1]
    split <;> rfl
  rw [e3] at k
  exact k
