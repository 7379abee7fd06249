/-! division of what is not negative -/
theorem aw_idivN {X : CT} {cc : ByteArray} {own mn : String} {nL : Nat} (C : zz_C X cc own mn nL) {pc : Nat} {L : List (Option AV)} {st : List AV} {h : AH} (n : Nat) {x y : Int} (hd : decode cc pc = .ok (.idiv, 1)) (hn : pc + 1 = n) (hr : 0 ≤ x ∧ x < 2147483648 ∧ 0 < y ∧ y < 2147483648) (k : AW X n L (vI (x / y) :: st) h) : AW X pc L (vI y :: vI x :: st) h := by
  rw [← Int.tdiv_eq_ediv_of_nonneg hr.1] at k
  exact aw_idiv C n hd hn ⟨⟨by omega, by omega⟩, ⟨by omega, by omega⟩, by omega⟩ k
theorem aw_iremN {X : CT} {cc : ByteArray} {own mn : String} {nL : Nat} (C : zz_C X cc own mn nL) {pc : Nat} {L : List (Option AV)} {st : List AV} {h : AH} (n : Nat) {x y : Int} (hd : decode cc pc = .ok (.irem, 1)) (hn : pc + 1 = n) (hr : 0 ≤ x ∧ x < 2147483648 ∧ 0 < y ∧ y < 2147483648) (k : AW X n L (vI (x % y) :: st) h) : AW X pc L (vI y :: vI x :: st) h := by
  rw [← Int.tmod_eq_emod_of_nonneg hr.1] at k
  exact aw_irem C n hd hn ⟨⟨by omega, by omega⟩, ⟨by omega, by omega⟩, by omega⟩ k
theorem aw_ldivN {X : CT} {cc : ByteArray} {own mn : String} {nL : Nat} (C : zz_C X cc own mn nL) {pc : Nat} {L : List (Option AV)} {st : List AV} {h : AH} (n : Nat) {x y : Int} (hd : decode cc pc = .ok (.ldiv, 1)) (hn : pc + 1 = n) (hr : 0 ≤ x ∧ x < 9223372036854775808 ∧ 0 < y ∧ y < 9223372036854775808) (k : AW X n L (vJ (x / y) :: st) h) : AW X pc L (vJ y :: vJ x :: st) h := by
  rw [← Int.tdiv_eq_ediv_of_nonneg hr.1] at k
  exact aw_ldiv C n hd hn ⟨⟨by omega, by omega⟩, ⟨by omega, by omega⟩, by omega⟩ k
theorem aw_lremN {X : CT} {cc : ByteArray} {own mn : String} {nL : Nat} (C : zz_C X cc own mn nL) {pc : Nat} {L : List (Option AV)} {st : List AV} {h : AH} (n : Nat) {x y : Int} (hd : decode cc pc = .ok (.lrem, 1)) (hn : pc + 1 = n) (hr : 0 ≤ x ∧ x < 9223372036854775808 ∧ 0 < y ∧ y < 9223372036854775808) (k : AW X n L (vJ (x % y) :: st) h) : AW X pc L (vJ y :: vJ x :: st) h := by
  rw [← Int.tmod_eq_emod_of_nonneg hr.1] at k
  exact aw_lrem C n hd hn ⟨⟨by omega, by omega⟩, ⟨by omega, by omega⟩, by omega⟩ k
