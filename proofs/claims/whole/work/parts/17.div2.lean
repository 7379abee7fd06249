theorem ah_ext {h h' : AH} (h1 : h.1 = h'.1) (h2 : ∀ k, zz_get h k = zz_get h' k) : h = h' := Prod.ext h1 (funext h2)
theorem hcd {h : AH} {w t : Nat} {B L Be C F Nu Co : Int → Int} {z n r f : Int} (hd : t + 4 < w ∨ w + 3 < t) : hcol (hdiv h w B L Be z) t C F Nu Co n r f = hdiv (hcol h t C F Nu Co n r f) w B L Be z := by
  refine ah_ext rfl (fun k => ?_)
  by_cases e0 : k = t
  · subst e0; rw [hc_0, hd_x (by omega), hc_0]
  by_cases e1 : k = t + 1
  · subst e1; rw [hc_1, hd_x (by omega), hc_1]
  by_cases e2 : k = t + 2
  · subst e2; rw [hc_2, hd_x (by omega), hc_2]
  by_cases e3 : k = t + 3
  · subst e3; rw [hc_3, hd_x (by omega), hc_3]
  by_cases e4 : k = t + 4
  · subst e4; rw [hc_4, hd_x (by omega), hc_4]
  rw [hc_x (by omega)]
  by_cases f0 : k = w
  · subst f0; rw [hd_0, hd_0]
  by_cases f1 : k = w + 1
  · subst f1; rw [hd_1, hd_1]
  by_cases f2 : k = w + 2
  · subst f2; rw [hd_2, hd_2]
  by_cases f3 : k = w + 3
  · subst f3; rw [hd_3, hd_3]
  rw [hd_x (by omega), hd_x (by omega), hc_x (by omega)]
/-- joining colours, as far as (a, b) -/
def JI (n : Int) (g : Gr) (B L Be : Int → Int) (a b : Int) : Prop := KI n g B L ∧ (∀ x y, 0 ≤ x → x < n → 0 ≤ y → y < n → lx x y a b → Be (8 * B x + B y) ≠ -1 ∧ L (g x y) = L (Be (8 * B x + B y))) ∧ ∀ i, 0 ≤ i → i < 64 → Be i = -1 ∨ ∃ x y, (0 ≤ x ∧ x < n) ∧ (0 ≤ y ∧ y < n) ∧ lx x y a b ∧ i = 8 * B x + B y ∧ Be i = g x y
theorem ji_new {n : Int} {g : Gr} {B L Be : Int → Int} {a b v : Int} (hg : rgn n g) (ha : 0 ≤ a ∧ a < n) (hb : 0 ≤ b ∧ b < n) (h : JI n g B L Be a b) (hv : v = g a b) (h1 : Be (8 * B a + B b) = -1) : JI n g B L (zz_up Be (8 * B a + B b) v) a (b + 1) := by
  obtain ⟨k1, k2, k3⟩ := h
  refine ⟨k1, fun x y x0 x1 y0 y1 hl => ?_, fun i i0 i1 => ?_⟩
  · unfold zz_up
    by_cases e : 8 * B x + B y = 8 * B a + B b
    · rw [if_pos e]
      by_cases e2 : x = a ∧ y = b
      · rw [e2.1, e2.2, ← hv]
        have := hg a b ha.1 ha.2 hb.1 hb.2
        exact ⟨by omega, rfl⟩
      · have := (k2 x y x0 x1 y0 y1 (by omega)).1
        rw [e] at this
        exact absurd h1 this
    · rw [if_neg e]
      exact k2 x y x0 x1 y0 y1 (by
        by_cases e2 : x = a ∧ y = b
        · rw [e2.1, e2.2] at e
          exact absurd rfl e
        · omega)
  · unfold zz_up
    by_cases e : i = 8 * B a + B b
    · rw [if_pos e]
      exact Or.inr ⟨a, b, ha, hb, by omega, e, hv⟩
    · rw [if_neg e]
      rcases k3 i i0 i1 with q | ⟨x, y, hx, hy, hl, q1, q2⟩
      · exact Or.inl q
      · exact Or.inr ⟨x, y, hx, hy, by omega, q1, q2⟩
theorem ji_join {n : Int} {g : Gr} {B L L' Be : Int → Int} {a b v m : Int} (hg : rgn n g) (ha : 0 ≤ a ∧ a < n) (hb : 0 ≤ b ∧ b < n) (h : JI n g B L Be a b) (hB : (0 ≤ B a ∧ B a < 8) ∧ (0 ≤ B b ∧ B b < 8) ∧ ∀ x, 0 ≤ x → x < n → 0 ≤ B x ∧ B x < 8) (hv : v = g a b) (h1 : Be (8 * B a + B b) ≠ -1) (hm : (L (Be (8 * B a + B b)) ≤ L v ∧ m = L (Be (8 * B a + B b))) ∨ (L v ≤ L (Be (8 * B a + B b)) ∧ m = L v)) (hL : ∀ c, 0 ≤ c → c < 5 → L' c = if L c = L (Be (8 * B a + B b)) ∨ L c = L v then m else L c) : JI n g B L' Be a (b + 1) := by
  obtain ⟨k1, k2, k3⟩ := h
  obtain ⟨x, y, hx, hy, hl, q1, q2⟩ := (k3 (8 * B a + B b) (by omega) (by omega)).resolve_left h1
  have gv := hg a b ha.1 ha.2 hb.1 hb.2
  have gu := hg x y hx.1 hx.2 hy.1 hy.2
  have bx := hB.2.2 x hx.1 hx.2
  have by' := hB.2.2 y hy.1 hy.2
  generalize hu : Be (8 * B a + B b) = u at *
  have ruv : rr n g B u v := rr_r1 ⟨x, y, a, b, hx, hy, ha, hb, by omega, by omega, q2.symm, hv.symm⟩
  have ku := k1 u (by omega) (by omega)
  have kv := k1 v (by omega) (by omega)
  have rab : rr n g B (L u) (L v) := rr_trans (rr_sym ku.2) (rr_trans ruv kv.2)
  refine ⟨fun c c0 c1 => ?_, fun x' y' x0 x1 y0 y1 hl' => ?_, fun i i0 i1 => ?_⟩
  · rw [hL c c0 c1]
    obtain ⟨p1, p2⟩ := k1 c c0 c1
    by_cases e : L c = L u ∨ L c = L v
    · rw [if_pos e]
      refine ⟨by omega, ?_⟩
      rcases hm with ⟨_, hm⟩ | ⟨_, hm⟩ <;> rcases e with e | e <;> rw [hm]
      · rw [← e]; exact p2
      · rw [e] at p2; exact rr_trans p2 (rr_sym rab)
      · rw [e] at p2; exact rr_trans p2 rab
      · rw [← e]; exact p2
    · rw [if_neg e]
      exact ⟨p1, p2⟩
  · by_cases e2 : x' = a ∧ y' = b
    · rw [e2.1, e2.2, hu, ← hv, hL v (by omega) (by omega), hL u (by omega) (by omega), if_pos (Or.inr rfl), if_pos (Or.inl rfl)]
      exact ⟨h1, rfl⟩
    · obtain ⟨w1, w2⟩ := k2 x' y' x0 x1 y0 y1 (by omega)
      refine ⟨w1, ?_⟩
      have g1 := hg x' y' x0 x1 y0 y1
      have b1 := hB.2.2 x' x0 x1
      have b2 := hB.2.2 y' y0 y1
      obtain ⟨x2, y2, hx2, hy2, -, -, q4⟩ := (k3 (8 * B x' + B y') (by omega) (by omega)).resolve_left w1
      have g2 := hg x2 y2 hx2.1 hx2.2 hy2.1 hy2.2
      rw [hL _ g1.1 (by omega), hL (Be (8 * B x' + B y')) (by omega) (by omega), w2]
  · rcases k3 i i0 i1 with q | ⟨x', y', hx', hy', hl', q3, q4⟩
    · exact Or.inl q
    · exact Or.inr ⟨x', y', hx', hy', by omega, q3, q4⟩
theorem ji_row {n : Int} {g : Gr} {B L Be : Int → Int} {a : Int} (h : JI n g B L Be a n) : JI n g B L Be (a + 1) 0 := by
  obtain ⟨k1, k2, k3⟩ := h
  refine ⟨k1, fun x y x0 x1 y0 y1 hl => k2 x y x0 x1 y0 y1 (by omega), fun i i0 i1 => ?_⟩
  rcases k3 i i0 i1 with q | ⟨x, y, hx, hy, hl, q1, q2⟩
  · exact Or.inl q
  · exact Or.inr ⟨x, y, hx, hy, by omega, q1, q2⟩
theorem ji_end {n : Int} {g : Gr} {B L Be : Int → Int} (hg : rgn n g) (h : JI n g B L Be n 0) : ∀ c, 0 ≤ c → c < 5 → L c = kM n g B c := by
  obtain ⟨k1, k2, k3⟩ := h
  intro c c0 c1
  refine KI_u hg k1 (fun x y hxy => ?_) ⟨c0, c1⟩
  obtain ⟨a, b, c, d, h1, h2, h3, h4, h5, h6, h7, h8⟩ := hxy
  have w1 := (k2 a b h1.1 h1.2 h2.1 h2.2 (by omega)).2
  have w2 := (k2 c d h3.1 h3.2 h4.1 h4.2 (by omega)).2
  rw [h5, h6] at w1
  rw [← h7, ← h8, w1, w2]
theorem JI_congr {n : Int} {g : Gr} {B B' L Be : Int → Int} {a b : Int} (h : JI n g B L Be a b) (e : B = B') : JI n g B' L Be a b := e ▸ h
set_option maxRecDepth 100000 in
set_option maxHeartbeats 4000000 in
theorem s_X1_joinColours {h : AH} {Q : Option AV → AH → Prop} {w q : Nat} {C B L Be : Int → Int} {n r f z : Int} {g : Gr} {S : Int} (hn : 1 ≤ n ∧ n ≤ 8) (hA : ag n C g) (hg : rgn n g) (hq : q + 4 < w ∨ w + 3 < q) (hO : zz_get h q = cCol q n r f) (hC : zz_get h (q + 1) = cA 64 C) (hO4 : True) (hB : ∀ x, 0 ≤ x → x < n → B x = (bst g S n).1 x) (k : ∀ L' Be', (∀ c, 0 ≤ c → c < 5 → L' c = kM n g (bst g S n).1 c) → Q none (hdiv h w B L' Be' z)) : MC mX1_joinColours [vR w, vR q] (hdiv h w B L Be z) Q := by
  refine mc_start mX1_joinColours RX1 "joinColours" ⟨rfl, rfl, by decide +kernel⟩ [some (vR w), some (vR q), none, none, none] ⟨3, rfl⟩ rfl (fun X cx hRm hNS hRet => ?_)
  have hBI := BI_all (g := g) (S := S) n (by omega)
  have hZ := zQ_b (n := n) (g := g) (S := S) hn
  have hBr : ∀ x, 0 ≤ x → x < n → 0 ≤ (bst g S n).1 x ∧ (bst g S n).1 x < 8 := fun x x0 x1 => by have := hBI.2.1 x x0 x1; unfold zQ at hZ; omega
  refine aw_iconst cx 1 dX1_joinColours_0 rfl ?_
  refine aw_istore_n cx 2 2 dX1_joinColours_1 rfl rfl ⟨Nat.le_of_ble_eq_true rfl, Nat.le_of_ble_eq_true rfl⟩ rfl ?_
  dsimp only [List.set]
  have lp2 : ∀ (kf : Nat) (c : Int) (Lc : Int → Int), (5 - c < (kf : Int)) → (0 ≤ c ∧ c ≤ 5) → (∀ y, 0 ≤ y → y < c → Lc y = y) → AW X 2 [some (vR w), some (vR q), some (vI c), none, none] [] (hdiv h w B Lc Be z) := by
    intro kf
    induction kf with
    | zero =>
      intro c Lc hk hc hy
      exfalso
      omega
    | succ kf ih2 =>
      intro c Lc hk hc hy
      refine aw_iload_n cx 3 dX1_joinColours_2 rfl rfl ?_
      refine aw_iconst cx 4 dX1_joinColours_3 rfl ?_
      refine aw_icmp_ge cx 7 20 dX1_joinColours_4 rfl (by decide) ⟨⟨by omega, by omega⟩, ⟨by omega, by omega⟩⟩ (fun c4 => ?_) (fun c4 => ?_)
      · refine aw_iconst cx 21 dX1_joinColours_20 rfl ?_
        refine aw_istore_n cx 22 2 dX1_joinColours_21 rfl rfl ⟨Nat.le_of_ble_eq_true rfl, Nat.le_of_ble_eq_true rfl⟩ rfl ?_
        dsimp only [List.set]
        have lp22 : ∀ (kf : Nat) (c2 : Int) (Bc : Int → Int), (64 - c2 < (kf : Int)) → (0 ≤ c2 ∧ c2 ≤ 64) → (∀ y, 0 ≤ y → y < c2 → Bc y = -1) → AW X 22 [some (vR w), some (vR q), some (vI c2), none, none] [] (hdiv h w B Lc Bc z) := by
          intro kf
          induction kf with
          | zero =>
            intro c2 Bc hk hc2 hy2
            exfalso
            omega
          | succ kf ih22 =>
            intro c2 Bc hk hc2 hy2
            refine aw_iload_n cx 23 dX1_joinColours_22 rfl rfl ?_
            refine aw_bipush cx 25 dX1_joinColours_23 rfl (by decide +kernel) ?_
            refine aw_icmp_ge cx 28 41 dX1_joinColours_25 rfl (by decide) ⟨⟨by omega, by omega⟩, ⟨by omega, by omega⟩⟩ (fun c25 => ?_) (fun c25 => ?_)
            · refine aw_iconst cx 42 dX1_joinColours_41 rfl ?_
              refine aw_istore_n cx 43 2 dX1_joinColours_42 rfl rfl ⟨Nat.le_of_ble_eq_true rfl, Nat.le_of_ble_eq_true rfl⟩ rfl ?_
              dsimp only [List.set]
              have lp43 : ∀ (kf : Nat) (a : Int) (La Ba : Int → Int), (n - a < (kf : Int)) → (0 ≤ a ∧ a ≤ n) → JI n g (bst g S n).1 La Ba a 0 → AW X 43 [some (vR w), some (vR q), some (vI a), none, none] [] (hdiv h w B La Ba z) := by
                intro kf
                induction kf with
                | zero =>
                  intro a La Ba hk ha hJ
                  exfalso
                  omega
                | succ kf ih43 =>
                  intro a La Ba hk ha hJ
                  refine aw_iload_n cx 44 dX1_joinColours_43 rfl rfl ?_
                  refine aw_aload_n cx 45 dX1_joinColours_44 rfl rfl ?_
                  refine aw_getfield cx 48 dX1_joinColours_45 rfl fdX1_33 (by first | assumption | exact hd_0 | exact hd_1 | exact hd_2 | exact hd_3 | exact (hd_x (by omega)).trans (by first | assumption)) (by rfl) ?_
                  refine aw_icmp_ge cx 51 145 dX1_joinColours_48 rfl (by decide) ⟨⟨by omega, by omega⟩, ⟨by omega, by omega⟩⟩ (fun c48 => ?_) (fun c48 => ?_)
                  · refine aw_return cx dX1_joinColours_145 ?_
                    refine hRet _ _ rfl rfl ?_
                    exact k _ _ (ji_end hg (by rw [show a = n by omega] at hJ; exact hJ))
                  · refine aw_iconst cx 52 dX1_joinColours_51 rfl ?_
                    refine aw_istore_n cx 53 3 dX1_joinColours_52 rfl rfl ⟨Nat.le_of_ble_eq_true rfl, Nat.le_of_ble_eq_true rfl⟩ rfl ?_
                    dsimp only [List.set]
                    have lp53 : ∀ (kf : Nat) (b : Int) (Lb Bb : Int → Int), (n - b < (kf : Int)) → (0 ≤ b ∧ b ≤ n) → JI n g (bst g S n).1 Lb Bb a b → AW X 53 [some (vR w), some (vR q), some (vI a), some (vI b), none] [] (hdiv h w B Lb Bb z) := by
                      intro kf
                      induction kf with
                      | zero =>
                        intro b Lb Bb hk hb hJ2
                        exfalso
                        omega
                      | succ kf ih53 =>
                        intro b Lb Bb hk hb hJ2
                        refine aw_iload_n cx 54 dX1_joinColours_53 rfl rfl ?_
                        refine aw_aload_n cx 55 dX1_joinColours_54 rfl rfl ?_
                        refine aw_getfield cx 58 dX1_joinColours_55 rfl fdX1_33 (by first | assumption | exact hd_0 | exact hd_1 | exact hd_2 | exact hd_3 | exact (hd_x (by omega)).trans (by first | assumption)) (by rfl) ?_
                        refine aw_icmp_ge cx 61 139 dX1_joinColours_58 rfl (by decide) ⟨⟨by omega, by omega⟩, ⟨by omega, by omega⟩⟩ (fun c58 => ?_) (fun c58 => ?_)
                        · refine aw_iinc cx 142 dX1_joinColours_139 rfl rfl (Nat.le_of_ble_eq_true rfl) rfl ?_
                          dsimp only [List.set]
                          refine aw_goto cx 43 dX1_joinColours_142 (by decide) ?_
                          exact aw_weak (ih43 (a + 1) _ _ (by omega) ⟨by omega, by omega⟩ (ji_row (by rw [show b = n by omega] at hJ2; exact hJ2))) (by simp [zz_le])
                        · refine aw_aload_n cx 62 dX1_joinColours_61 rfl rfl ?_
                          refine aw_getfield cx 65 dX1_joinColours_62 rfl fdX1_9 (by first | assumption | exact hd_0 | exact hd_1 | exact hd_2 | exact hd_3 | exact (hd_x (by omega)).trans (by first | assumption)) (by rfl) ?_
                          refine aw_iload_n cx 66 dX1_joinColours_65 rfl rfl ?_
                          refine aw_iaload cx 67 dX1_joinColours_66 rfl (by first | assumption | exact hd_0 | exact hd_1 | exact hd_2 | exact hd_3 | exact (hd_x (by omega)).trans (by first | assumption)) ⟨by omega, by omega⟩ (by decide) ?_
                          refine aw_bipush cx 69 dX1_joinColours_67 rfl (by decide +kernel) ?_
                          refine aw_imul cx 70 dX1_joinColours_69 rfl ?_
                          refine aw_aload_n cx 71 dX1_joinColours_70 rfl rfl ?_
                          refine aw_getfield cx 74 dX1_joinColours_71 rfl fdX1_9 (by first | assumption | exact hd_0 | exact hd_1 | exact hd_2 | exact hd_3 | exact (hd_x (by omega)).trans (by first | assumption)) (by rfl) ?_
                          refine aw_iload_n cx 75 dX1_joinColours_74 rfl rfl ?_
                          refine aw_iaload cx 76 dX1_joinColours_75 rfl (by first | assumption | exact hd_0 | exact hd_1 | exact hd_2 | exact hd_3 | exact (hd_x (by omega)).trans (by first | assumption)) ⟨by omega, by omega⟩ (by decide) ?_
                          refine aw_iadd cx 77 dX1_joinColours_76 rfl ?_
                          refine aw_istore cx 79 dX1_joinColours_77 rfl ⟨Nat.le_of_ble_eq_true rfl, Nat.le_of_ble_eq_true rfl⟩ rfl ?_
                          dsimp only [List.set]
                          refine aw_aload_n cx 80 dX1_joinColours_79 rfl rfl ?_
                          refine aw_getfield cx 83 dX1_joinColours_80 rfl fdX1_18 (by first | assumption | exact hd_0 | exact hd_1 | exact hd_2 | exact hd_3 | exact (hd_x (by omega)).trans (by first | assumption)) (by rfl) ?_
                          have ra := hBr a (by omega) (by omega)
                          have rb := hBr b (by omega) (by omega)
                          have i77 : B a * 8 + B b = 8 * (bst g S n).1 a + (bst g S n).1 b := by rw [hB a (by omega) (by omega), hB b (by omega) (by omega)]; omega
                          have LK : ∀ c, 0 ≤ c → c < 5 → 0 ≤ Lb c ∧ Lb c < 5 := fun c c0 c1 => by have := (hJ2.1 c c0 c1).1; omega
                          refine aw_iload cx 85 dX1_joinColours_83 rfl rfl ?_
                          refine aw_iaload cx 86 dX1_joinColours_85 rfl (by first | assumption | exact hd_0 | exact hd_1 | exact hd_2 | exact hd_3 | exact (hd_x (by omega)).trans (by first | assumption)) ⟨by omega, by omega⟩ (by decide) ?_
                          rw [i77]
                          have w85 : Bb (8 * (bst g S n).1 a + (bst g S n).1 b) = -1 ∨ (0 ≤ Bb (8 * (bst g S n).1 a + (bst g S n).1 b) ∧ Bb (8 * (bst g S n).1 a + (bst g S n).1 b) < 5) := by
                            rcases hJ2.2.2 (8 * (bst g S n).1 a + (bst g S n).1 b) (by omega) (by omega) with q9 | ⟨x, y, hx, hy, -, -, q9⟩
                            · exact Or.inl q9
                            · have := hg x y hx.1 hx.2 hy.1 hy.2
                              exact Or.inr (by omega)
                          refine aw_iconst cx 87 dX1_joinColours_86 rfl ?_
                          refine aw_icmp_ne cx 90 106 dX1_joinColours_87 rfl (by decide) ⟨⟨by omega, by omega⟩, ⟨by omega, by omega⟩⟩ (fun c87 => ?_) (fun c87 => ?_)
                          · refine aw_aload_n cx 107 dX1_joinColours_106 rfl rfl ?_
                            refine aw_aload_n cx 108 dX1_joinColours_107 rfl rfl ?_
                            refine aw_getfield cx 111 dX1_joinColours_108 rfl fdX1_15 (by first | assumption | exact hd_0 | exact hd_1 | exact hd_2 | exact hd_3 | exact (hd_x (by omega)).trans (by first | assumption)) (by rfl) ?_
                            refine aw_aload_n cx 112 dX1_joinColours_111 rfl rfl ?_
                            refine aw_getfield cx 115 dX1_joinColours_112 rfl fdX1_18 (by first | assumption | exact hd_0 | exact hd_1 | exact hd_2 | exact hd_3 | exact (hd_x (by omega)).trans (by first | assumption)) (by rfl) ?_
                            refine aw_iload cx 117 dX1_joinColours_115 rfl rfl ?_
                            refine aw_iaload cx 118 dX1_joinColours_117 rfl (by first | assumption | exact hd_0 | exact hd_1 | exact hd_2 | exact hd_3 | exact (hd_x (by omega)).trans (by first | assumption)) ⟨by omega, by omega⟩ (by decide) ?_
                            refine aw_iaload cx 119 dX1_joinColours_118 rfl (by first | assumption | exact hd_0 | exact hd_1 | exact hd_2 | exact hd_3 | exact (hd_x (by omega)).trans (by first | assumption)) ⟨by omega, by omega⟩ (by decide) ?_
                            refine aw_aload_n cx 120 dX1_joinColours_119 rfl rfl ?_
                            refine aw_getfield cx 123 dX1_joinColours_120 rfl fdX1_15 (by first | assumption | exact hd_0 | exact hd_1 | exact hd_2 | exact hd_3 | exact (hd_x (by omega)).trans (by first | assumption)) (by rfl) ?_
                            refine aw_aload_n cx 124 dX1_joinColours_123 rfl rfl ?_
                            refine aw_iload_n cx 125 dX1_joinColours_124 rfl rfl ?_
                            refine aw_iload_n cx 126 dX1_joinColours_125 rfl rfl ?_
                            refine aw_V2v cx 129 mX0_colourOf (ci := 0) dX1_joinColours_126 rfl okmX0_colourOf lkX1_36 (by first | assumption | exact hd_0 | exact hd_1 | exact hd_2 | exact hd_3 | exact (hd_x (by omega)).trans (by first | assumption)) ⟨rfl, by decide⟩ (zz_rc0 mX1_joinColours hRm hNS rfl rfl) (Nat.le_of_ble_eq_true rfl) ?_
                            refine s_X0_colourOf (by first | assumption | exact hd_0 | exact hd_1 | exact hd_2 | exact hd_3 | exact (hd_x (by omega)).trans (by first | assumption)) (by first | assumption | exact hd_0 | exact hd_1 | exact hd_2 | exact hd_3 | exact (hd_x (by omega)).trans (by first | assumption)) ⟨by omega, by omega⟩ ⟨by omega, by omega⟩ (fun v126 e126 => ⟨_, rfl, ?_⟩)
                            have q126 := hA a b (by omega) (by omega) (by omega) (by omega)
                            have w126 := hg a b (by omega) (by omega) (by omega) (by omega)
                            refine aw_iaload cx 130 dX1_joinColours_129 rfl (by first | assumption | exact hd_0 | exact hd_1 | exact hd_2 | exact hd_3 | exact (hd_x (by omega)).trans (by first | assumption)) ⟨by omega, by omega⟩ (by decide) ?_
                            have l1 := LK (Bb (8 * (bst g S n).1 a + (bst g S n).1 b)) (by omega) (by omega)
                            have l2 := LK v126 (by omega) (by omega)
                            refine aw_V2n cx 133 mX1_join (ci := 1) dX1_joinColours_130 rfl okmX1_join lkX1_55 (by first | assumption | exact hd_0 | exact hd_1 | exact hd_2 | exact hd_3 | exact (hd_x (by omega)).trans (by first | assumption)) ⟨rfl, by decide⟩ (zz_rc0 mX1_joinColours hRm hNS rfl rfl) (Nat.le_of_ble_eq_true rfl) ?_
                            refine s_X1_join ⟨by omega, by omega⟩ ⟨by omega, by omega⟩ (by assumption) (fun L130 m130 w130 e130 => ⟨rfl, ?_⟩)
                            refine aw_iinc cx 136 dX1_joinColours_133 rfl rfl (Nat.le_of_ble_eq_true rfl) rfl ?_
                            dsimp only [List.set]
                            refine aw_goto cx 53 dX1_joinColours_136 (by decide) ?_
                            first
                            | exact aw_weak (ih53 (b + 1) _ _ (by omega) ⟨by omega, by omega⟩ j99) (by simp [zz_le])
                            | exact aw_weak (ih53 (b + 1) _ _ (by omega) ⟨by omega, by omega⟩ (ji_join hg ⟨by omega, by omega⟩ ⟨by omega, by omega⟩ hJ2 ⟨hBr a (by omega) (by omega), hBr b (by omega) (by omega), hBr⟩ (e126.trans q126) c87 w130 e130)) (by simp [zz_le])
                          · refine aw_aload_n cx 91 dX1_joinColours_90 rfl rfl ?_
                            refine aw_getfield cx 94 dX1_joinColours_91 rfl fdX1_18 (by first | assumption | exact hd_0 | exact hd_1 | exact hd_2 | exact hd_3 | exact (hd_x (by omega)).trans (by first | assumption)) (by rfl) ?_
                            refine aw_iload cx 96 dX1_joinColours_94 rfl rfl ?_
                            refine aw_aload_n cx 97 dX1_joinColours_96 rfl rfl ?_
                            refine aw_iload_n cx 98 dX1_joinColours_97 rfl rfl ?_
                            refine aw_iload_n cx 99 dX1_joinColours_98 rfl rfl ?_
                            refine aw_V2v cx 102 mX0_colourOf (ci := 0) dX1_joinColours_99 rfl okmX0_colourOf lkX1_36 (by first | assumption | exact hd_0 | exact hd_1 | exact hd_2 | exact hd_3 | exact (hd_x (by omega)).trans (by first | assumption)) ⟨rfl, by decide⟩ (zz_rc0 mX1_joinColours hRm hNS rfl rfl) (Nat.le_of_ble_eq_true rfl) ?_
                            refine s_X0_colourOf (by first | assumption | exact hd_0 | exact hd_1 | exact hd_2 | exact hd_3 | exact (hd_x (by omega)).trans (by first | assumption)) (by first | assumption | exact hd_0 | exact hd_1 | exact hd_2 | exact hd_3 | exact (hd_x (by omega)).trans (by first | assumption)) ⟨by omega, by omega⟩ ⟨by omega, by omega⟩ (fun v99 e99 => ⟨_, rfl, ?_⟩)
                            have q99 := hA a b (by omega) (by omega) (by omega) (by omega)
                            have j99 := ji_new hg ⟨by omega, by omega⟩ ⟨by omega, by omega⟩ hJ2 (e99.trans q99) c87
                            refine aw_iastore cx 103 dX1_joinColours_102 rfl (by first | assumption | exact hd_0 | exact hd_1 | exact hd_2 | exact hd_3 | exact (hd_x (by omega)).trans (by first | assumption)) ⟨by omega, by omega⟩ (by decide) ?_
                            first | rw [hq_1] | rw [hq_2] | rw [hq_3] | rw [hq_0]
                            refine aw_goto cx 133 dX1_joinColours_103 (by decide) ?_
                            refine aw_iinc cx 136 dX1_joinColours_133 rfl rfl (Nat.le_of_ble_eq_true rfl) rfl ?_
                            dsimp only [List.set]
                            refine aw_goto cx 53 dX1_joinColours_136 (by decide) ?_
                            first
                            | exact aw_weak (ih53 (b + 1) _ _ (by omega) ⟨by omega, by omega⟩ j99) (by simp [zz_le])
                            | exact aw_weak (ih53 (b + 1) _ _ (by omega) ⟨by omega, by omega⟩ (ji_join hg ⟨by omega, by omega⟩ ⟨by omega, by omega⟩ hJ2 ⟨hBr a (by omega) (by omega), hBr b (by omega) (by omega), hBr⟩ (e126.trans q126) c87 w130 e130)) (by simp [zz_le])
                    exact aw_weak (lp53 (n.toNat + 1) 0 La Ba (by omega) ⟨by omega, by omega⟩ hJ) (by simp [zz_le])
              exact lp43 (n.toNat + 1) 0 Lc Bc (by omega) ⟨by omega, by omega⟩ ⟨fun c0 d0 d1 => by
                rw [hy c0 d0 (by omega)]
                exact ⟨⟨d0, Int.le_refl _⟩, rr_refl c0⟩, fun x y x0 x1 y0 y1 hl => by omega, fun i i0 i1 => Or.inl (hy2 i i0 (by omega))⟩
            · refine aw_aload_n cx 29 dX1_joinColours_28 rfl rfl ?_
              refine aw_getfield cx 32 dX1_joinColours_29 rfl fdX1_18 (by first | assumption | exact hd_0 | exact hd_1 | exact hd_2 | exact hd_3 | exact (hd_x (by omega)).trans (by first | assumption)) (by rfl) ?_
              refine aw_iload_n cx 33 dX1_joinColours_32 rfl rfl ?_
              refine aw_iconst cx 34 dX1_joinColours_33 rfl ?_
              refine aw_iastore cx 35 dX1_joinColours_34 rfl (by first | assumption | exact hd_0 | exact hd_1 | exact hd_2 | exact hd_3 | exact (hd_x (by omega)).trans (by first | assumption)) ⟨by omega, by omega⟩ (by decide) ?_
              first | rw [hq_1] | rw [hq_2] | rw [hq_3] | rw [hq_0]
              refine aw_iinc cx 38 dX1_joinColours_35 rfl rfl (Nat.le_of_ble_eq_true rfl) rfl ?_
              dsimp only [List.set]
              refine aw_goto cx 22 dX1_joinColours_38 (by decide) ?_
              exact ih22 (c2 + 1) _ (by omega) ⟨by omega, by omega⟩ (fun y y0 y1 => by
                unfold zz_up
                split
                · rfl
                · exact hy2 y y0 (by omega))
        exact lp22 65 0 Be (by omega) ⟨by omega, by omega⟩ (fun y y0 y1 => by omega)
      · refine aw_aload_n cx 8 dX1_joinColours_7 rfl rfl ?_
        refine aw_getfield cx 11 dX1_joinColours_8 rfl fdX1_15 (by first | assumption | exact hd_0 | exact hd_1 | exact hd_2 | exact hd_3 | exact (hd_x (by omega)).trans (by first | assumption)) (by rfl) ?_
        refine aw_iload_n cx 12 dX1_joinColours_11 rfl rfl ?_
        refine aw_iload_n cx 13 dX1_joinColours_12 rfl rfl ?_
        refine aw_iastore cx 14 dX1_joinColours_13 rfl (by first | assumption | exact hd_0 | exact hd_1 | exact hd_2 | exact hd_3 | exact (hd_x (by omega)).trans (by first | assumption)) ⟨by omega, by omega⟩ (by decide) ?_
        first | rw [hq_1] | rw [hq_2] | rw [hq_3] | rw [hq_0]
        refine aw_iinc cx 17 dX1_joinColours_14 rfl rfl (Nat.le_of_ble_eq_true rfl) rfl ?_
        dsimp only [List.set]
        refine aw_goto cx 2 dX1_joinColours_17 (by decide) ?_
        exact ih2 (c + 1) _ (by omega) ⟨by omega, by omega⟩ (fun y y0 y1 => by
          unfold zz_up
          split
          · omega
          · exact hy y y0 (by omega))
  exact lp2 6 0 L (by omega) ⟨by omega, by omega⟩ (fun y y0 y1 => by omega)
