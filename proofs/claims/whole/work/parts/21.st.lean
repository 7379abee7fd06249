/-! ShareTables: its 20 cells, and the words that both sides answer -/
abbrev cST (p q : Nat) (tr : Int) : AC := cO 3 [vR 1, vR 2, vR 6, vR p, vR q, vJ tr]
def xCol (h : AH) (p : Nat) (C F Nu Co : Int → Int) (n r f : Int) : Prop := zz_get h p = cCol p n r f ∧ zz_get h (p + 1) = cA 64 C ∧ zz_get h (p + 2) = cA 5 F ∧ zz_get h (p + 3) = cA 125 Nu ∧ zz_get h (p + 4) = cA 25 Co
def xWk (h : AH) (S Y N : Int → Int) (a : Int) : Prop := zz_get h 2 = cWk 2 a ∧ zz_get h (2 + 1) = cL 5 S ∧ zz_get h (2 + 2) = cL 8 Y ∧ zz_get h (2 + 3) = cL 8 N
def xDv (h : AH) (B L Be : Int → Int) (z : Int) : Prop := zz_get h 6 = cDiv 6 z ∧ zz_get h (6 + 1) = cA 8 B ∧ zz_get h (6 + 2) = cA 5 L ∧ zz_get h (6 + 3) = cA 64 Be
abbrev pq (p q : Nat) : Prop := (p = 10 ∧ q = 15) ∨ (p = 15 ∧ q = 10)
def xW (h : AH) : Prop := ∃ S Y N a, xWk h S Y N a
def xD (h : AH) : Prop := ∃ B L Be z, xDv h B L Be z
def xS (h : AH) (q : Nat) : Prop := ∃ C F Nu Co n r f, xCol h q C F Nu Co n r f
/-- the state: colouring p with its rows, the rest as it may be -/
def XC (h : AH) (p q : Nat) (C F Nu Co : Int → Int) (n r f : Int) (V : Int → Int) (tr : Int) : Prop := pq p q ∧ zz_get h 0 = cST p q tr ∧ zz_get h 1 = cA 5 V ∧ xCol h p C F Nu Co n r f ∧ xS h q ∧ xW h ∧ xD h
def XI (h : AH) (n : Int) (g : Gr) (V : Int → Int) (tr : Int) : Prop := ∃ p q C F Nu Co r f, XC h p q C F Nu Co n r f V tr ∧ msd n g C F Nu r f ∧ wtI V
/-- what isn't the class's stays -/
def xo (h h' : AH) : Prop := (∀ k, 20 ≤ k → zz_get h' k = zz_get h k) ∧ h'.1 = h.1
theorem xo_r (h : AH) : xo h h := ⟨fun _ _ => rfl, rfl⟩
theorem xo_t {h h' h'' : AH} (a : xo h h') (b : xo h' h'') : xo h h'' := ⟨fun k hk => (b.1 k hk).trans (a.1 k hk), b.2.trans a.2⟩
section
variable {h : AH} {p q : Nat} {C F Nu Co V C' F' Nu' Co' V' : Int → Int} {n r f tr n' r' f' tr' : Int}
theorem xc_p (H : XC h p q C F Nu Co n r f V tr) : h = hcol h p C F Nu Co n r f := by
  obtain ⟨-, -, -, ⟨a, b, c, d, e⟩, -⟩ := H
  exact hc_in a b c d e
theorem xo_col {C F Nu Co : Int → Int} {n r f : Int} {p : Nat} (hp : p + 4 < 20) : xo h (hcol h p C F Nu Co n r f) := ⟨fun k hk => hc_x (by omega), rfl⟩
theorem xo_wk {S Y N : Int → Int} {a : Int} : xo h (hwk h 2 S Y N a) := ⟨fun k hk => hw_x (by omega), rfl⟩
theorem xo_dv {S Y N : Int → Int} {a : Int} : xo h (hdiv h 6 S Y N a) := ⟨fun k hk => hd_x (by omega), rfl⟩
theorem xo_put {k : Nat} {x : AC} (hk : k < 20) : xo h (zz_put h k x) := ⟨fun j hj => zz_gn (by omega), rfl⟩
theorem xS_k {h' : AH} (H : xS h q) (e : ∀ k, q ≤ k → k ≤ q + 4 → zz_get h' k = zz_get h k) : xS h' q := by
  obtain ⟨C, F, Nu, Co, n, r, f, a, b, c, d, i⟩ := H
  exact ⟨C, F, Nu, Co, n, r, f, (e _ (by omega) (by omega)).trans a, (e _ (by omega) (by omega)).trans b, (e _ (by omega) (by omega)).trans c, (e _ (by omega) (by omega)).trans d, (e _ (by omega) (by omega)).trans i⟩
theorem xW_k {h' : AH} (H : xW h) (e : ∀ k, 2 ≤ k → k ≤ 5 → zz_get h' k = zz_get h k) : xW h' := by
  obtain ⟨S, Y, N, a, b, c, d, i⟩ := H
  exact ⟨S, Y, N, a, (e _ (by omega) (by omega)).trans b, (e _ (by omega) (by omega)).trans c, (e _ (by omega) (by omega)).trans d, (e _ (by omega) (by omega)).trans i⟩
theorem xD_k {h' : AH} (H : xD h) (e : ∀ k, 6 ≤ k → k ≤ 9 → zz_get h' k = zz_get h k) : xD h' := by
  obtain ⟨S, Y, N, a, b, c, d, i⟩ := H
  exact ⟨S, Y, N, a, (e _ (by omega) (by omega)).trans b, (e _ (by omega) (by omega)).trans c, (e _ (by omega) (by omega)).trans d, (e _ (by omega) (by omega)).trans i⟩
theorem xcol_k {h' : AH} (H : xCol h p C F Nu Co n r f) (e : ∀ k, p ≤ k → k ≤ p + 4 → zz_get h' k = zz_get h k) : xCol h' p C F Nu Co n r f := by
  obtain ⟨a, b, c, d, i⟩ := H
  exact ⟨(e _ (by omega) (by omega)).trans a, (e _ (by omega) (by omega)).trans b, (e _ (by omega) (by omega)).trans c, (e _ (by omega) (by omega)).trans d, (e _ (by omega) (by omega)).trans i⟩
theorem xcol_s : xCol (hcol h p C F Nu Co n r f) p C F Nu Co n r f := ⟨hc_0, hc_1, hc_2, hc_3, hc_4⟩
theorem xc_now (H : XC h p q C F Nu Co n r f V tr) : XC (hcol h p C' F' Nu' Co' n' r' f') p q C' F' Nu' Co' n' r' f' V tr := by
  obtain ⟨a, b, c, d, e, i, j⟩ := H
  exact ⟨a, (hc_x (by omega)).trans b, (hc_x (by omega)).trans c, xcol_s, xS_k e (fun k k0 k1 => hc_x (by omega)), xW_k i (fun k k0 k1 => hc_x (by omega)), xD_k j (fun k k0 k1 => hc_x (by omega))⟩
theorem xc_spare (H : XC h p q C F Nu Co n r f V tr) : XC (hcol h q C' F' Nu' Co' n' r' f') p q C F Nu Co n r f V tr := by
  obtain ⟨a, b, c, d, e, i, j⟩ := H
  exact ⟨a, (hc_x (by omega)).trans b, (hc_x (by omega)).trans c, xcol_k d (fun k k0 k1 => hc_x (by omega)), ⟨_, _, _, _, _, _, _, xcol_s⟩, xW_k i (fun k k0 k1 => hc_x (by omega)), xD_k j (fun k k0 k1 => hc_x (by omega))⟩
theorem xc_wk {S Y N : Int → Int} {a : Int} (H : XC h p q C F Nu Co n r f V tr) : XC (hwk h 2 S Y N a) p q C F Nu Co n r f V tr := by
  obtain ⟨a, b, c, d, e, i, j⟩ := H
  exact ⟨a, (hw_x (by omega)).trans b, (hw_x (by omega)).trans c, xcol_k d (fun k k0 k1 => hw_x (by omega)), xS_k e (fun k k0 k1 => hw_x (by omega)), ⟨_, _, _, _, hw_0, hw_1, hw_2, hw_3⟩, xD_k j (fun k k0 k1 => hw_x (by omega))⟩
theorem xc_dv {B L Be : Int → Int} {z : Int} (H : XC h p q C F Nu Co n r f V tr) : XC (hdiv h 6 B L Be z) p q C F Nu Co n r f V tr := by
  obtain ⟨a, b, c, d, e, i, j⟩ := H
  exact ⟨a, (hd_x (by omega)).trans b, (hd_x (by omega)).trans c, xcol_k d (fun k k0 k1 => hd_x (by omega)), xS_k e (fun k k0 k1 => hd_x (by omega)), xW_k i (fun k k0 k1 => hd_x (by omega)), ⟨_, _, _, _, hd_0, hd_1, hd_2, hd_3⟩⟩
theorem xc_tr (H : XC h p q C F Nu Co n r f V tr) : XC (zz_put h 0 (cST p q tr')) p q C F Nu Co n r f V tr' := by
  obtain ⟨a, b, c, d, e, i, j⟩ := H
  exact ⟨a, zz_gs _ _ _, (zz_gn (by omega)).trans c, xcol_k d (fun k k0 k1 => zz_gn (by omega)), xS_k e (fun k k0 k1 => zz_gn (by omega)), xW_k i (fun k k0 k1 => zz_gn (by omega)), xD_k j (fun k k0 k1 => zz_gn (by omega))⟩
theorem xc_V (H : XC h p q C F Nu Co n r f V tr) : XC (zz_put h 1 (cA 5 V')) p q C F Nu Co n r f V' tr := by
  obtain ⟨a, b, c, d, e, i, j⟩ := H
  exact ⟨a, (zz_gn (by omega)).trans b, zz_gs _ _ _, xcol_k d (fun k k0 k1 => zz_gn (by omega)), xS_k e (fun k k0 k1 => zz_gn (by omega)), xW_k i (fun k k0 k1 => zz_gn (by omega)), xD_k j (fun k k0 k1 => zz_gn (by omega))⟩
theorem xc_swap (H : XC h p q C F Nu Co n r f V tr) (H2 : xCol h q C' F' Nu' Co' n' r' f') : XC (zz_put h 0 (cST q p tr)) q p C' F' Nu' Co' n' r' f' V tr := by
  obtain ⟨a, b, c, d, e, i, j⟩ := H
  exact ⟨by omega, zz_gs _ _ _, (zz_gn (by omega)).trans c, xcol_k H2 (fun k k0 k1 => zz_gn (by omega)), xS_k ⟨_, _, _, _, _, _, _, d⟩ (fun k k0 k1 => zz_gn (by omega)), xW_k i (fun k k0 k1 => zz_gn (by omega)), xD_k j (fun k k0 k1 => zz_gn (by omega))⟩
end
def XP (h h' : AH) (n : Int) (g : Gr) (V : Int → Int) (tr : Int) : Prop := XI h' n g V tr ∧ xo h h'
/-! the words -/
def f_points (n m : Int) : Int := if 1 ≤ m ∧ m ≤ 8 then n else -1
def n_points (n m : Int) : Int := if 1 ≤ m ∧ m ≤ 8 then m else n
def g_points (g : Gr) (m : Int) : Gr := if 1 ≤ m ∧ m ≤ 8 then gB else g
abbrev ok_colour (n a b c : Int) : Prop := (0 ≤ a ∧ a < n) ∧ (0 ≤ b ∧ b < n) ∧ (0 ≤ c ∧ c ≤ 4)
def up2 (g : Gr) (a b c : Int) : Gr := fun x y => if x = a ∧ y = b then c else g x y
def f_colour (n : Int) (g : Gr) (a b c : Int) : Int := if ok_colour n a b c then g a b else -1
def g_colour (n : Int) (g : Gr) (a b c : Int) : Gr := if ok_colour n a b c then up2 g a b c else g
def f_at (n : Int) (g : Gr) (a b : Int) : Int := if (0 ≤ a ∧ a < n) ∧ (0 ≤ b ∧ b < n) then g a b else -1
def p5 (n : Int) : Int := zi (fun _ b => b * 5) 1 n
def f_ring (n d : Int) : Int := if 0 ≤ d ∧ d < p5 (n - 1) then (if fl n (gR n d) = 0 then 1 else 0) else -1
def g_ring (n : Int) (g : Gr) (d : Int) : Gr := if 0 ≤ d ∧ d < p5 (n - 1) then gR n d else g
abbrev okc (n : Int) (g : Gr) (i : Int) : Prop := 0 ≤ i ∧ i < rk n g
abbrev oks (n : Int) (g : Gr) (s : Int) : Prop := 0 ≤ s ∧ s < zz_shl 1 (rk n g)
def f_number (n : Int) (g : Gr) (i j k : Int) : Int := if okc n g i ∧ okc n g j ∧ okc n g k then (if fl n g = 0 then nu n g i j k else -2) else -1
def f_of (n : Int) (g : Gr) (i w : Int) : Int := if okc n g i ∧ (0 ≤ w ∧ w ≤ 1) then (if fl n g = 0 then (if w = 0 then rv n g i else dg n g i) else -2) else -1
def f_turns (n : Int) (g : Gr) : Int := if fl n g = 0 then tu n g else -2
def f_closed (n : Int) (g : Gr) (s w : Int) : Int := if (0 ≤ w ∧ w ≤ 2) ∧ (w = 2 ∨ oks n g s) then (if fl n g = 0 then (if w = 0 then (if gw n g s = s then 1 else 0) else if w = 1 then hl n g s else cs n g (zz_shl 1 (rk n g))) else -2) else -1
def f_order (n : Int) (g : Gr) (s : Int) : Int := if oks n g s then (if fl n g = 0 then od n g (hl n g s) 5 else -2) else -1
abbrev ok_worth (n : Int) (g : Gr) (w i : Int) : Prop := (0 ≤ w ∧ w ≤ 2) ∧ okc n g i
def f_worth (n : Int) (g : Gr) (w i : Int) : Int := if ok_worth n g w i then (if fl n g = 0 then (if w = 0 then dg n g i else if w = 1 then dg n g i * od n g (hl n g (zz_shl 1 i)) 5 else dg n g i * od n g (hl n g (zz_shl 1 i)) 5 + nu n g i i i) else -2) else -1
def t_worth (n : Int) (g : Gr) (w i tr : Int) : Int := if ok_worth n g w i then (if fl n g = 0 then (if w = 0 then tr + 1 else if w = 1 then tr + 11 else tr + 111) else tr) else tr
abbrev ok_fuse (n : Int) (g : Gr) (m : Int) : Prop := (0 ≤ m ∧ m < 625) ∧ ∀ c, 1 ≤ c → c < rk n g → fz m c ≠ 0
noncomputable def f_fuse (n : Int) (g : Gr) (m : Int) : Int := @ite Int (ok_fuse n g m) (Classical.propDecidable _) (if fl n g = 0 then (if fl n (gF m g) = 0 then 1 else 0) else -2) (-1)
noncomputable def g_fuse (n : Int) (g : Gr) (m : Int) : Gr := @ite Gr (ok_fuse n g m ∧ fl n g = 0 ∧ fl n (gF m g) = 0) (Classical.propDecidable _) (gF m g) g
def f_quot (n : Int) (g : Gr) (s : Int) : Int := if oks n g s then (if fl n g = 0 then zQ n g (hl n g s) else -2) else -1
def n_quot (n : Int) (g : Gr) (s : Int) : Int := if oks n g s ∧ fl n g = 0 then zQ n g (hl n g s) else n
noncomputable def g_quot (n : Int) (g : Gr) (s : Int) : Gr := if oks n g s ∧ fl n g = 0 then gQ n g (hl n g s) else g
abbrev ok_weight (i v : Int) : Prop := (0 ≤ i ∧ i < 5) ∧ (0 ≤ v ∧ v ≤ 9)
def f_weight (V : Int → Int) (i v : Int) : Int := if ok_weight i v then V i else -1
def v_weight (V : Int → Int) (i v : Int) : Int → Int := if ok_weight i v then zz_up V i v else V
def f_chance (n : Int) (g : Gr) (V : Int → Int) (i t part : Int) : Int := if okc n g i ∧ (0 ≤ t ∧ t ≤ 6) ∧ (0 ≤ part ∧ part ≤ 1) then (if fl n g = 0 ∧ wt V (rk n g) ≠ 0 then chv n g V i t part else -2) else -1
def f_sieve (n k l m : Int) : Int := if svI n k l m then sv n k l m else -1
def f_many (n : Int) : Int := if 2 ≤ n ∧ n ≤ 40 then mn n else -1
def f_count (n : Int) (g : Gr) (V : Int → Int) (w : Int) : Int := if w = 0 then n else if w = 1 then rk n g else if w = 2 then (if fl n g = 0 then 1 else 0) else if w = 3 then wt V (rk n g) else -1
set_option maxRecDepth 100000 in
set_option maxHeartbeats 4000000 in
theorem s_X4_isPoint {h : AH} {Q : Option AV → AH → Prop} {p q : Nat} {n r f tr : Int} (g0 : zz_get h 0 = cST p q tr) (gp : zz_get h p = cCol p n r f) {a : Int} (hn : 1 ≤ n ∧ n ≤ 8) (ha : R32 a) (k : ∀ v, ((v = 1 ∧ 0 ≤ a ∧ a < n) ∨ (v = 0 ∧ ¬ (0 ≤ a ∧ a < n))) → Q (some (vI v)) h) : MC mX4_isPoint [vR 0, vI a] h Q := by
  refine mc_start mX4_isPoint RX4 "isPoint" ⟨rfl, rfl, by decide +kernel⟩ [some (vR 0), some (vI a)] ⟨0, rfl⟩ rfl (fun X cx hRm hNS hRet => ?_)
  refine aw_iload_n cx 1 dX4_isPoint_0 rfl rfl ?_
  refine aw_if_lt cx 4 19 dX4_isPoint_1 rfl (by decide) ⟨by omega, by omega⟩ (fun c1 => ?_) (fun c1 => ?_)
  · refine aw_iconst cx 20 dX4_isPoint_19 rfl ?_
    refine aw_ireturn cx dX4_isPoint_20 ?_
    refine hRet _ _ (by first | exact Or.inl rfl | exact Or.inr rfl | assumption) rfl ?_
    exact k _ (by omega)
  · refine aw_iload_n cx 5 dX4_isPoint_4 rfl rfl ?_
    refine aw_aload_n cx 6 dX4_isPoint_5 rfl rfl ?_
    refine aw_getfield cx 9 dX4_isPoint_6 rfl fdX4_30 (by first | assumption) (by rfl) ?_
    refine aw_getfield cx 12 dX4_isPoint_9 rfl fdX4_45 (by first | assumption) (by rfl) ?_
    refine aw_icmp_ge cx 15 19 dX4_isPoint_12 rfl (by decide) ⟨⟨by omega, by omega⟩, ⟨by omega, by omega⟩⟩ (fun c12 => ?_) (fun c12 => ?_)
    · refine aw_iconst cx 20 dX4_isPoint_19 rfl ?_
      refine aw_ireturn cx dX4_isPoint_20 ?_
      refine hRet _ _ (by first | exact Or.inl rfl | exact Or.inr rfl | assumption) rfl ?_
      exact k _ (by omega)
    · refine aw_iconst cx 16 dX4_isPoint_15 rfl ?_
      refine aw_goto cx 20 dX4_isPoint_16 (by decide) ?_
      refine aw_ireturn cx dX4_isPoint_20 ?_
      refine hRet _ _ (by first | exact Or.inl rfl | exact Or.inr rfl | assumption) rfl ?_
      exact k _ (by omega)
set_option maxRecDepth 100000 in
set_option maxHeartbeats 4000000 in
theorem s_X4_isColour {h : AH} {Q : Option AV → AH → Prop} {p q : Nat} {n r f tr : Int} (g0 : zz_get h 0 = cST p q tr) (gp : zz_get h p = cCol p n r f) {a : Int} (hr : 1 ≤ r ∧ r ≤ 5) (ha : R32 a) (k : ∀ v, ((v = 1 ∧ 0 ≤ a ∧ a < r) ∨ (v = 0 ∧ ¬ (0 ≤ a ∧ a < r))) → Q (some (vI v)) h) : MC mX4_isColour [vR 0, vI a] h Q := by
  refine mc_start mX4_isColour RX4 "isColour" ⟨rfl, rfl, by decide +kernel⟩ [some (vR 0), some (vI a)] ⟨0, rfl⟩ rfl (fun X cx hRm hNS hRet => ?_)
  refine aw_iload_n cx 1 dX4_isColour_0 rfl rfl ?_
  refine aw_if_lt cx 4 19 dX4_isColour_1 rfl (by decide) ⟨by omega, by omega⟩ (fun c1 => ?_) (fun c1 => ?_)
  · refine aw_iconst cx 20 dX4_isColour_19 rfl ?_
    refine aw_ireturn cx dX4_isColour_20 ?_
    refine hRet _ _ (by first | exact Or.inl rfl | exact Or.inr rfl | assumption) rfl ?_
    exact k _ (by omega)
  · refine aw_iload_n cx 5 dX4_isColour_4 rfl rfl ?_
    refine aw_aload_n cx 6 dX4_isColour_5 rfl rfl ?_
    refine aw_getfield cx 9 dX4_isColour_6 rfl fdX4_30 (by first | assumption) (by rfl) ?_
    refine aw_getfield cx 12 dX4_isColour_9 rfl fdX4_158 (by first | assumption) (by rfl) ?_
    refine aw_icmp_ge cx 15 19 dX4_isColour_12 rfl (by decide) ⟨⟨by omega, by omega⟩, ⟨by omega, by omega⟩⟩ (fun c12 => ?_) (fun c12 => ?_)
    · refine aw_iconst cx 20 dX4_isColour_19 rfl ?_
      refine aw_ireturn cx dX4_isColour_20 ?_
      refine hRet _ _ (by first | exact Or.inl rfl | exact Or.inr rfl | assumption) rfl ?_
      exact k _ (by omega)
    · refine aw_iconst cx 16 dX4_isColour_15 rfl ?_
      refine aw_goto cx 20 dX4_isColour_16 (by decide) ?_
      refine aw_ireturn cx dX4_isColour_20 ?_
      refine hRet _ _ (by first | exact Or.inl rfl | exact Or.inr rfl | assumption) rfl ?_
      exact k _ (by omega)
set_option maxRecDepth 100000 in
set_option maxHeartbeats 4000000 in
theorem s_X4_isSet {h : AH} {Q : Option AV → AH → Prop} {p q : Nat} {n r f tr : Int} (g0 : zz_get h 0 = cST p q tr) (gp : zz_get h p = cCol p n r f) {a : Int} (ha : R32 a) (k : ∀ v, ((v = 1 ∧ 0 ≤ a ∧ a < zz_shl 1 r) ∨ (v = 0 ∧ ¬ (0 ≤ a ∧ a < zz_shl 1 r))) → Q (some (vI v)) h) : MC mX4_isSet [vR 0, vI a] h Q := by
  refine mc_start mX4_isSet RX4 "isSet" ⟨rfl, rfl, by decide +kernel⟩ [some (vR 0), some (vI a)] ⟨0, rfl⟩ rfl (fun X cx hRm hNS hRet => ?_)
  refine aw_iload_n cx 1 dX4_isSet_0 rfl rfl ?_
  refine aw_if_lt cx 4 21 dX4_isSet_1 rfl (by decide) ⟨by omega, by omega⟩ (fun c1 => ?_) (fun c1 => ?_)
  · refine aw_iconst cx 22 dX4_isSet_21 rfl ?_
    refine aw_ireturn cx dX4_isSet_22 ?_
    refine hRet _ _ (by first | exact Or.inl rfl | exact Or.inr rfl | assumption) rfl ?_
    exact k _ (by omega)
  · refine aw_iload_n cx 5 dX4_isSet_4 rfl rfl ?_
    refine aw_iconst cx 6 dX4_isSet_5 rfl ?_
    refine aw_aload_n cx 7 dX4_isSet_6 rfl rfl ?_
    refine aw_getfield cx 10 dX4_isSet_7 rfl fdX4_30 (by first | assumption) (by rfl) ?_
    refine aw_getfield cx 13 dX4_isSet_10 rfl fdX4_158 (by first | assumption) (by rfl) ?_
    refine aw_ishl cx 14 dX4_isSet_13 rfl ?_
    refine aw_icmp_ge cx 17 21 dX4_isSet_14 rfl (by decide) ⟨ha, shl_rr _ _⟩ (fun c14 => ?_) (fun c14 => ?_)
    · refine aw_iconst cx 22 dX4_isSet_21 rfl ?_
      refine aw_ireturn cx dX4_isSet_22 ?_
      refine hRet _ _ (by first | exact Or.inl rfl | exact Or.inr rfl | assumption) rfl ?_
      exact k _ (by omega)
    · refine aw_iconst cx 18 dX4_isSet_17 rfl ?_
      refine aw_goto cx 22 dX4_isSet_18 (by decide) ?_
      refine aw_ireturn cx dX4_isSet_22 ?_
      refine hRet _ _ (by first | exact Or.inl rfl | exact Or.inr rfl | assumption) rfl ?_
      exact k _ (by omega)
set_option maxRecDepth 100000 in
set_option maxHeartbeats 4000000 in
theorem s_X4_isEven {h : AH} {Q : Option AV → AH → Prop} {p q : Nat} {n r f tr : Int} (g0 : zz_get h 0 = cST p q tr) (gp : zz_get h p = cCol p n r f) (hf : R32 f) (k : ∀ v, ((v = 1 ∧ f = 0) ∨ (v = 0 ∧ ¬ f = 0)) → Q (some (vI v)) h) : MC mX4_isEven [vR 0] h Q := by
  refine mc_start mX4_isEven RX4 "isEven" ⟨rfl, rfl, by decide +kernel⟩ [some (vR 0)] ⟨0, rfl⟩ rfl (fun X cx hRm hNS hRet => ?_)
  refine aw_aload_n cx 1 dX4_isEven_0 rfl rfl ?_
  refine aw_getfield cx 4 dX4_isEven_1 rfl fdX4_30 (by first | assumption) (by rfl) ?_
  refine aw_getfield cx 7 dX4_isEven_4 rfl fdX4_71 (by first | assumption) (by rfl) ?_
  refine aw_if_ne cx 10 14 dX4_isEven_7 rfl (by decide) hf (fun c7 => ?_) (fun c7 => ?_)
  · refine aw_iconst cx 15 dX4_isEven_14 rfl ?_
    refine aw_ireturn cx dX4_isEven_15 ?_
    refine hRet _ _ (by first | exact Or.inl rfl | exact Or.inr rfl | assumption) rfl ?_
    exact k _ (by omega)
  · refine aw_iconst cx 11 dX4_isEven_10 rfl ?_
    refine aw_goto cx 15 dX4_isEven_11 (by decide) ?_
    refine aw_ireturn cx dX4_isEven_15 ?_
    refine hRet _ _ (by first | exact Or.inl rfl | exact Or.inr rfl | assumption) rfl ?_
    exact k _ (by omega)
set_option maxRecDepth 100000 in
set_option maxHeartbeats 4000000 in
theorem s_X4_weightBelowRank {h : AH} {Q : Option AV → AH → Prop} {p q : Nat} {n r f tr : Int} (g0 : zz_get h 0 = cST p q tr) (gp : zz_get h p = cCol p n r f) {V : Int → Int} (g1 : zz_get h 1 = cA 5 V) (hr : 1 ≤ r ∧ r ≤ 5) (k : ∀ v, v = wt V r → Q (some (vI v)) h) : MC mX4_weightBelowRank [vR 0] h Q := by
  refine mc_start mX4_weightBelowRank RX4 "weightBelowRank" ⟨rfl, rfl, by decide +kernel⟩ [some (vR 0), none, none] ⟨2, rfl⟩ rfl (fun X cx hRm hNS hRet => ?_)
  refine aw_iconst cx 1 dX4_weightBelowRank_0 rfl ?_
  refine aw_istore_n cx 2 1 dX4_weightBelowRank_1 rfl rfl ⟨Nat.le_of_ble_eq_true rfl, Nat.le_of_ble_eq_true rfl⟩ rfl ?_
  dsimp only [List.set]
  refine aw_iconst cx 3 dX4_weightBelowRank_2 rfl ?_
  refine aw_istore_n cx 4 2 dX4_weightBelowRank_3 rfl rfl ⟨Nat.le_of_ble_eq_true rfl, Nat.le_of_ble_eq_true rfl⟩ rfl ?_
  dsimp only [List.set]
  have lp4 : ∀ (kf : Nat) (c s : Int), (r - c < (kf : Int)) → (0 ≤ c ∧ c ≤ r) → s = wt V c → AW X 4 [some (vR 0), some (vI s), some (vI c)] [] (h) := by
    intro kf
    induction kf with
    | zero =>
      intro c s hk hc hs
      exfalso
      omega
    | succ kf ih4 =>
      intro c s hk hc hs
      refine aw_iload_n cx 5 dX4_weightBelowRank_4 rfl rfl ?_
      refine aw_aload_n cx 6 dX4_weightBelowRank_5 rfl rfl ?_
      refine aw_getfield cx 9 dX4_weightBelowRank_6 rfl fdX4_30 (by first | assumption) (by rfl) ?_
      refine aw_getfield cx 12 dX4_weightBelowRank_9 rfl fdX4_158 (by first | assumption) (by rfl) ?_
      refine aw_icmp_ge cx 15 30 dX4_weightBelowRank_12 rfl (by decide) ⟨⟨by omega, by omega⟩, ⟨by omega, by omega⟩⟩ (fun c12 => ?_) (fun c12 => ?_)
      · refine aw_iload_n cx 31 dX4_weightBelowRank_30 rfl rfl ?_
        refine aw_ireturn cx dX4_weightBelowRank_31 ?_
        refine hRet _ _ True.intro rfl ?_
        exact k _ (by rw [hs, show c = r by omega])
      · refine aw_iload_n cx 16 dX4_weightBelowRank_15 rfl rfl ?_
        refine aw_aload_n cx 17 dX4_weightBelowRank_16 rfl rfl ?_
        refine aw_getfield cx 20 dX4_weightBelowRank_17 rfl fdX4_9 (by first | assumption) (by rfl) ?_
        refine aw_iload_n cx 21 dX4_weightBelowRank_20 rfl rfl ?_
        refine aw_iaload cx 22 dX4_weightBelowRank_21 rfl (by first | assumption) ⟨by omega, by omega⟩ (by decide) ?_
        refine aw_iadd cx 23 dX4_weightBelowRank_22 rfl ?_
        refine aw_istore_n cx 24 1 dX4_weightBelowRank_23 rfl rfl ⟨Nat.le_of_ble_eq_true rfl, Nat.le_of_ble_eq_true rfl⟩ rfl ?_
        dsimp only [List.set]
        refine aw_iinc cx 27 dX4_weightBelowRank_24 rfl rfl (Nat.le_of_ble_eq_true rfl) rfl ?_
        dsimp only [List.set]
        refine aw_goto cx 4 dX4_weightBelowRank_27 (by decide) ?_
        exact ih4 (c + 1) _ (by omega) ⟨by omega, by omega⟩ (by rw [wt_s hc.1, hs])
  exact lp4 6 0 0 (by omega) ⟨by omega, by omega⟩ rfl
theorem fl_b {n : Int} {g : Gr} (hn : 1 ≤ n ∧ n ≤ 8) : R32 (fl n g) := by
  have b : ∀ t : Int → Int → Int, (∀ x y, 0 ≤ x → x < n → 0 ≤ y → y < n → 0 ≤ t x y ∧ t x y ≤ 1000) → 0 ≤ sc n t ∧ sc n t ≤ 1000 := fun t ht => sc1_b (by omega) (by decide) fun x x0 x1 => sc1_b (by omega) (by decide) fun y y0 y1 => ht x y x0 x1 y0 y1
  have b1 := b (tA g) (fun x y x0 x1 y0 y1 => by unfold tA; split <;> omega)
  have b2 := b (tC n g) (fun x y x0 x1 y0 y1 => by unfold tC; split <;> omega)
  have b3 := b (tD n g) (fun x y x0 x1 y0 y1 => by unfold tD; split <;> omega)
  have b4 : 0 ≤ tB n g ∧ tB n g ≤ 1000 := by unfold tB; split <;> omega
  unfold fl
  constructor <;> (split <;> (try split) <;> (try split) <;> omega)
set_option maxRecDepth 100000 in
set_option maxHeartbeats 4000000 in
theorem s_X4_at {h : AH} {Q : Option AV → AH → Prop} {n tr : Int} {g : Gr} {V : Int → Int} (hX : XI h n g V tr) {a b : Int} (ha : R32 a) (hb : R32 b) (k : ∀ v h', v = f_at n g a b → XP h h' (n) (g) (V) (tr) → Q (some (vI v)) h') : MC mX4_at [vR 0, vI a, vI b] h Q := by
  refine mc_start mX4_at RX4 "at" ⟨rfl, rfl, by decide +kernel⟩ [some (vR 0), some (vI a), some (vI b)] ⟨0, rfl⟩ rfl (fun X cx hRm hNS hRet => ?_)
  obtain ⟨p, q, C, F, Nu, Co, r, f, hXC, hM, hV⟩ := hX
  obtain ⟨hpq, g0, g1, ⟨c0, c1, c2, c3, c4⟩, -⟩ := id hXC
  obtain ⟨hn, hA, hg, hr, hf, hF, hN⟩ := id hM
  have hR := rk_b (n := n) (g := g) (by omega) hg
  refine aw_aload_n cx 1 dX4_at_0 rfl rfl ?_
  refine aw_iload_n cx 2 dX4_at_1 rfl rfl ?_
  refine aw_V1v cx 5 mX4_isPoint (ci := 3) dX4_at_2 rfl okmX4_isPoint lkX4_49 (by first | assumption) ⟨rfl, by decide⟩ (zz_rc0 mX4_at hRm hNS rfl rfl) (Nat.le_of_ble_eq_true rfl) ?_
  refine s_X4_isPoint (by assumption) (by assumption) hn (by assumption) (fun v2 e2 => ⟨_, rfl, ?_⟩)
  refine aw_if_eq cx 8 16 dX4_at_5 rfl (by decide) ⟨by omega, by omega⟩ (fun c5 => ?_) (fun c5 => ?_)
  · refine aw_iconst cx 17 dX4_at_16 rfl ?_
    refine aw_ireturn cx dX4_at_17 ?_
    refine hRet _ _ True.intro rfl ?_
    exact k _ _ (by unfold f_at; rw [if_neg (by omega)]) ⟨⟨p, q, C, F, Nu, Co, r, f, hXC, hM, hV⟩, xo_r _⟩
  · refine aw_aload_n cx 9 dX4_at_8 rfl rfl ?_
    refine aw_iload_n cx 10 dX4_at_9 rfl rfl ?_
    refine aw_V1v cx 13 mX4_isPoint (ci := 3) dX4_at_10 rfl okmX4_isPoint lkX4_49 (by first | assumption) ⟨rfl, by decide⟩ (zz_rc0 mX4_at hRm hNS rfl rfl) (Nat.le_of_ble_eq_true rfl) ?_
    refine s_X4_isPoint (by assumption) (by assumption) hn (by assumption) (fun v10 e10 => ⟨_, rfl, ?_⟩)
    refine aw_if_ne cx 16 18 dX4_at_13 rfl (by decide) ⟨by omega, by omega⟩ (fun c13 => ?_) (fun c13 => ?_)
    · refine aw_aload_n cx 19 dX4_at_18 rfl rfl ?_
      refine aw_getfield cx 22 dX4_at_19 rfl fdX4_30 (by first | assumption) (by rfl) ?_
      refine aw_iload_n cx 23 dX4_at_22 rfl rfl ?_
      refine aw_iload_n cx 24 dX4_at_23 rfl rfl ?_
      refine aw_V2v cx 27 mX0_colourOf (ci := 0) dX4_at_24 rfl okmX0_colourOf lkX4_53 (by first | assumption) ⟨rfl, by decide⟩ (zz_rc0 mX4_at hRm hNS rfl rfl) (Nat.le_of_ble_eq_true rfl) ?_
      refine s_X0_colourOf (by assumption) (by assumption) ⟨by omega, by omega⟩ ⟨by omega, by omega⟩ (fun v24 e24 => ⟨_, rfl, ?_⟩)
      refine aw_ireturn cx dX4_at_27 ?_
      refine hRet _ _ True.intro rfl ?_
      exact k _ _ (by rw [e24, hA a b (by omega) (by omega) (by omega) (by omega)]; unfold f_at; rw [if_pos (by omega)]) ⟨⟨p, q, C, F, Nu, Co, r, f, hXC, hM, hV⟩, xo_r _⟩
    · refine aw_iconst cx 17 dX4_at_16 rfl ?_
      refine aw_ireturn cx dX4_at_17 ?_
      refine hRet _ _ True.intro rfl ?_
      exact k _ _ (by unfold f_at; rw [if_neg (by omega)]) ⟨⟨p, q, C, F, Nu, Co, r, f, hXC, hM, hV⟩, xo_r _⟩
set_option maxRecDepth 100000 in
set_option maxHeartbeats 4000000 in
theorem s_X4_fails {h : AH} {Q : Option AV → AH → Prop} {n tr : Int} {g : Gr} {V : Int → Int} (hX : XI h n g V tr)  (k : ∀ v h', v = fl n g → XP h h' (n) (g) (V) (tr) → Q (some (vI v)) h') : MC mX4_fails [vR 0] h Q := by
  refine mc_start mX4_fails RX4 "fails" ⟨rfl, rfl, by decide +kernel⟩ [some (vR 0)] ⟨0, rfl⟩ rfl (fun X cx hRm hNS hRet => ?_)
  obtain ⟨p, q, C, F, Nu, Co, r, f, hXC, hM, hV⟩ := hX
  obtain ⟨hpq, g0, g1, ⟨c0, c1, c2, c3, c4⟩, -⟩ := id hXC
  obtain ⟨hn, hA, hg, hr, hf, hF, hN⟩ := id hM
  have hR := rk_b (n := n) (g := g) (by omega) hg
  refine aw_aload_n cx 1 dX4_fails_0 rfl rfl ?_
  refine aw_getfield cx 4 dX4_fails_1 rfl fdX4_30 (by first | assumption) (by rfl) ?_
  refine aw_getfield cx 7 dX4_fails_4 rfl fdX4_71 (by first | assumption) (by rfl) ?_
  refine aw_ireturn cx dX4_fails_7 ?_
  refine hRet _ _ True.intro rfl ?_
  exact k _ _ (by exact hf) ⟨⟨p, q, C, F, Nu, Co, r, f, hXC, hM, hV⟩, xo_r _⟩
set_option maxRecDepth 100000 in
set_option maxHeartbeats 4000000 in
theorem s_X4_number {h : AH} {Q : Option AV → AH → Prop} {n tr : Int} {g : Gr} {V : Int → Int} (hX : XI h n g V tr) {a b c : Int} (ha : R32 a) (hb : R32 b) (hc : R32 c) (k : ∀ v h', v = f_number n g a b c → XP h h' (n) (g) (V) (tr) → Q (some (vI v)) h') : MC mX4_number [vR 0, vI a, vI b, vI c] h Q := by
  refine mc_start mX4_number RX4 "number" ⟨rfl, rfl, by decide +kernel⟩ [some (vR 0), some (vI a), some (vI b), some (vI c)] ⟨0, rfl⟩ rfl (fun X cx hRm hNS hRet => ?_)
  obtain ⟨p, q, C, F, Nu, Co, r, f, hXC, hM, hV⟩ := hX
  obtain ⟨hpq, g0, g1, ⟨c0, c1, c2, c3, c4⟩, -⟩ := id hXC
  obtain ⟨hn, hA, hg, hr, hf, hF, hN⟩ := id hM
  have hR := rk_b (n := n) (g := g) (by omega) hg
  refine aw_aload_n cx 1 dX4_number_0 rfl rfl ?_
  refine aw_iload_n cx 2 dX4_number_1 rfl rfl ?_
  refine aw_V1v cx 5 mX4_isColour (ci := 3) dX4_number_2 rfl okmX4_isColour lkX4_74 (by first | assumption) ⟨rfl, by decide⟩ (zz_rc0 mX4_number hRm hNS rfl rfl) (Nat.le_of_ble_eq_true rfl) ?_
  refine s_X4_isColour (by assumption) (by assumption) ⟨by omega, by omega⟩ (by assumption) (fun v2 e2 => ⟨_, rfl, ?_⟩)
  refine aw_if_eq cx 8 24 dX4_number_5 rfl (by decide) ⟨by omega, by omega⟩ (fun c5 => ?_) (fun c5 => ?_)
  · refine aw_iconst cx 25 dX4_number_24 rfl ?_
    refine aw_ireturn cx dX4_number_25 ?_
    refine hRet _ _ True.intro rfl ?_
    exact k _ _ (by unfold f_number; rw [if_neg (by omega)]) ⟨⟨p, q, C, F, Nu, Co, r, f, hXC, hM, hV⟩, xo_r _⟩
  · refine aw_aload_n cx 9 dX4_number_8 rfl rfl ?_
    refine aw_iload_n cx 10 dX4_number_9 rfl rfl ?_
    refine aw_V1v cx 13 mX4_isColour (ci := 3) dX4_number_10 rfl okmX4_isColour lkX4_74 (by first | assumption) ⟨rfl, by decide⟩ (zz_rc0 mX4_number hRm hNS rfl rfl) (Nat.le_of_ble_eq_true rfl) ?_
    refine s_X4_isColour (by assumption) (by assumption) ⟨by omega, by omega⟩ (by assumption) (fun v10 e10 => ⟨_, rfl, ?_⟩)
    refine aw_if_eq cx 16 24 dX4_number_13 rfl (by decide) ⟨by omega, by omega⟩ (fun c13 => ?_) (fun c13 => ?_)
    · refine aw_iconst cx 25 dX4_number_24 rfl ?_
      refine aw_ireturn cx dX4_number_25 ?_
      refine hRet _ _ True.intro rfl ?_
      exact k _ _ (by unfold f_number; rw [if_neg (by omega)]) ⟨⟨p, q, C, F, Nu, Co, r, f, hXC, hM, hV⟩, xo_r _⟩
    · refine aw_aload_n cx 17 dX4_number_16 rfl rfl ?_
      refine aw_iload_n cx 18 dX4_number_17 rfl rfl ?_
      refine aw_V1v cx 21 mX4_isColour (ci := 3) dX4_number_18 rfl okmX4_isColour lkX4_74 (by first | assumption) ⟨rfl, by decide⟩ (zz_rc0 mX4_number hRm hNS rfl rfl) (Nat.le_of_ble_eq_true rfl) ?_
      refine s_X4_isColour (by assumption) (by assumption) ⟨by omega, by omega⟩ (by assumption) (fun v18 e18 => ⟨_, rfl, ?_⟩)
      refine aw_if_ne cx 24 26 dX4_number_21 rfl (by decide) ⟨by omega, by omega⟩ (fun c21 => ?_) (fun c21 => ?_)
      · refine aw_aload_n cx 27 dX4_number_26 rfl rfl ?_
        refine aw_V0v cx 30 mX4_isEven (ci := 3) dX4_number_27 rfl okmX4_isEven lkX4_67 (by first | assumption) ⟨rfl, by decide⟩ (zz_rc0 mX4_number hRm hNS rfl rfl) (Nat.le_of_ble_eq_true rfl) ?_
        refine s_X4_isEven (by assumption) (by assumption) (by rw [hf]; exact fl_b hn) (fun v27 e27 => ⟨_, rfl, ?_⟩)
        rw [hf] at e27
        refine aw_if_ne cx 33 36 dX4_number_30 rfl (by decide) ⟨by omega, by omega⟩ (fun c30 => ?_) (fun c30 => ?_)
        · refine aw_aload_n cx 37 dX4_number_36 rfl rfl ?_
          refine aw_getfield cx 40 dX4_number_37 rfl fdX4_30 (by first | assumption) (by rfl) ?_
          refine aw_iload_n cx 41 dX4_number_40 rfl rfl ?_
          refine aw_iload_n cx 42 dX4_number_41 rfl rfl ?_
          refine aw_iload_n cx 43 dX4_number_42 rfl rfl ?_
          refine aw_V3v cx 46 mX0_numberOf (ci := 0) dX4_number_43 rfl okmX0_numberOf lkX4_77 (by first | assumption) ⟨rfl, by decide⟩ (zz_rc0 mX4_number hRm hNS rfl rfl) (Nat.le_of_ble_eq_true rfl) ?_
          refine s_X0_numberOf (by assumption) (by assumption) ⟨by omega, by omega⟩ ⟨by omega, by omega⟩ ⟨by omega, by omega⟩ (fun v43 e43 => ⟨_, rfl, ?_⟩)
          refine aw_ireturn cx dX4_number_46 ?_
          refine hRet _ _ True.intro rfl ?_
          exact k _ _ (by unfold f_number; rw [if_pos (by omega), if_pos (by omega), e43]; exact hN (by omega) a b c (by omega) (by omega) (by omega) (by omega) (by omega) (by omega)) ⟨⟨p, q, C, F, Nu, Co, r, f, hXC, hM, hV⟩, xo_r _⟩
        · refine aw_bipush cx 35 dX4_number_33 rfl (by decide +kernel) ?_
          refine aw_ireturn cx dX4_number_35 ?_
          refine hRet _ _ True.intro rfl ?_
          exact k _ _ (by unfold f_number; rw [if_pos (by omega), if_neg (by omega)]) ⟨⟨p, q, C, F, Nu, Co, r, f, hXC, hM, hV⟩, xo_r _⟩
      · refine aw_iconst cx 25 dX4_number_24 rfl ?_
        refine aw_ireturn cx dX4_number_25 ?_
        refine hRet _ _ True.intro rfl ?_
        exact k _ _ (by unfold f_number; rw [if_neg (by omega)]) ⟨⟨p, q, C, F, Nu, Co, r, f, hXC, hM, hV⟩, xo_r _⟩
set_option maxRecDepth 100000 in
set_option maxHeartbeats 4000000 in
theorem s_X4_of {h : AH} {Q : Option AV → AH → Prop} {n tr : Int} {g : Gr} {V : Int → Int} (hX : XI h n g V tr) {a b : Int} (ha : R32 a) (hb : R32 b) (k : ∀ v h', v = f_of n g a b → XP h h' (n) (g) (V) (tr) → Q (some (vI v)) h') : MC mX4_of [vR 0, vI a, vI b] h Q := by
  refine mc_start mX4_of RX4 "of" ⟨rfl, rfl, by decide +kernel⟩ [some (vR 0), some (vI a), some (vI b)] ⟨0, rfl⟩ rfl (fun X cx hRm hNS hRet => ?_)
  obtain ⟨p, q, C, F, Nu, Co, r, f, hXC, hM, hV⟩ := hX
  obtain ⟨hpq, g0, g1, ⟨c0, c1, c2, c3, c4⟩, -⟩ := id hXC
  obtain ⟨hn, hA, hg, hr, hf, hF, hN⟩ := id hM
  have hR := rk_b (n := n) (g := g) (by omega) hg
  refine aw_aload_n cx 1 dX4_of_0 rfl rfl ?_
  refine aw_iload_n cx 2 dX4_of_1 rfl rfl ?_
  refine aw_V1v cx 5 mX4_isColour (ci := 3) dX4_of_2 rfl okmX4_isColour lkX4_74 (by first | assumption) ⟨rfl, by decide⟩ (zz_rc0 mX4_of hRm hNS rfl rfl) (Nat.le_of_ble_eq_true rfl) ?_
  refine s_X4_isColour (by assumption) (by assumption) ⟨by omega, by omega⟩ (by assumption) (fun v2 e2 => ⟨_, rfl, ?_⟩)
  refine aw_if_eq cx 8 17 dX4_of_5 rfl (by decide) ⟨by omega, by omega⟩ (fun c5 => ?_) (fun c5 => ?_)
  · refine aw_iconst cx 18 dX4_of_17 rfl ?_
    refine aw_ireturn cx dX4_of_18 ?_
    refine hRet _ _ True.intro rfl ?_
    exact k _ _ (by unfold f_of; rw [if_neg (by omega)]) ⟨⟨p, q, C, F, Nu, Co, r, f, hXC, hM, hV⟩, xo_r _⟩
  · refine aw_iload_n cx 9 dX4_of_8 rfl rfl ?_
    refine aw_if_lt cx 12 17 dX4_of_9 rfl (by decide) ⟨by omega, by omega⟩ (fun c9 => ?_) (fun c9 => ?_)
    · refine aw_iconst cx 18 dX4_of_17 rfl ?_
      refine aw_ireturn cx dX4_of_18 ?_
      refine hRet _ _ True.intro rfl ?_
      exact k _ _ (by unfold f_of; rw [if_neg (by omega)]) ⟨⟨p, q, C, F, Nu, Co, r, f, hXC, hM, hV⟩, xo_r _⟩
    · refine aw_iload_n cx 13 dX4_of_12 rfl rfl ?_
      refine aw_iconst cx 14 dX4_of_13 rfl ?_
      refine aw_icmp_le cx 17 19 dX4_of_14 rfl (by decide) ⟨⟨by omega, by omega⟩, ⟨by omega, by omega⟩⟩ (fun c14 => ?_) (fun c14 => ?_)
      · refine aw_aload_n cx 20 dX4_of_19 rfl rfl ?_
        refine aw_V0v cx 23 mX4_isEven (ci := 3) dX4_of_20 rfl okmX4_isEven lkX4_67 (by first | assumption) ⟨rfl, by decide⟩ (zz_rc0 mX4_of hRm hNS rfl rfl) (Nat.le_of_ble_eq_true rfl) ?_
        refine s_X4_isEven (by assumption) (by assumption) (by rw [hf]; exact fl_b hn) (fun v20 e20 => ⟨_, rfl, ?_⟩)
        rw [hf] at e20
        refine aw_if_ne cx 26 29 dX4_of_23 rfl (by decide) ⟨by omega, by omega⟩ (fun c23 => ?_) (fun c23 => ?_)
        · refine aw_iload_n cx 30 dX4_of_29 rfl rfl ?_
          refine aw_if_ne cx 33 44 dX4_of_30 rfl (by decide) ⟨by omega, by omega⟩ (fun c30 => ?_) (fun c30 => ?_)
          · refine aw_aload_n cx 45 dX4_of_44 rfl rfl ?_
            refine aw_getfield cx 48 dX4_of_45 rfl fdX4_30 (by first | assumption) (by rfl) ?_
            refine aw_iload_n cx 49 dX4_of_48 rfl rfl ?_
            refine aw_V1v cx 52 mX0_degreeOf (ci := 0) dX4_of_49 rfl okmX0_degreeOf lkX4_85 (by first | assumption) ⟨rfl, by decide⟩ (zz_rc0 mX4_of hRm hNS rfl rfl) (Nat.le_of_ble_eq_true rfl) ?_
            rw [xc_p hXC]
            refine s_X0_degreeOf hn hA hg ⟨by omega, by omega⟩ (fun v49 e49 => ⟨_, rfl, ?_⟩)
            rw [← xc_p hXC]
            refine aw_ireturn cx dX4_of_52 ?_
            refine hRet _ _ True.intro rfl ?_
            exact k _ _ (by unfold f_of; rw [if_pos (by omega), if_pos (by omega)]; first | (rw [if_pos (by omega), e38, hF a (by omega) (by omega)]; exact rv_eq ⟨by omega, by omega⟩ hA a) | (rw [if_neg (by omega)]; exact e49)) ⟨⟨p, q, C, F, Nu, Co, r, f, hXC, hM, hV⟩, xo_r _⟩
          · refine aw_aload_n cx 34 dX4_of_33 rfl rfl ?_
            refine aw_getfield cx 37 dX4_of_34 rfl fdX4_30 (by first | assumption) (by rfl) ?_
            refine aw_iload_n cx 38 dX4_of_37 rfl rfl ?_
            have r38 : -1 ≤ F a ∧ F a < 64 := by rw [hF a (by omega) (by omega)]; exact fp_b ⟨by omega, by omega⟩ a
            refine aw_V1v cx 41 mX0_reverseOf (ci := 0) dX4_of_38 rfl okmX0_reverseOf lkX4_81 (by first | assumption) ⟨rfl, by decide⟩ (zz_rc0 mX4_of hRm hNS rfl rfl) (Nat.le_of_ble_eq_true rfl) ?_
            refine s_X0_reverseOf (by assumption) (by assumption) (by assumption) ⟨by omega, by omega⟩ (by assumption) (fun v38 e38 => ⟨_, rfl, ?_⟩)
            refine aw_goto cx 52 dX4_of_41 (by decide) ?_
            refine aw_ireturn cx dX4_of_52 ?_
            refine hRet _ _ True.intro rfl ?_
            exact k _ _ (by unfold f_of; rw [if_pos (by omega), if_pos (by omega)]; first | (rw [if_pos (by omega), e38, hF a (by omega) (by omega)]; exact rv_eq ⟨by omega, by omega⟩ hA a) | (rw [if_neg (by omega)]; exact e49)) ⟨⟨p, q, C, F, Nu, Co, r, f, hXC, hM, hV⟩, xo_r _⟩
        · refine aw_bipush cx 28 dX4_of_26 rfl (by decide +kernel) ?_
          refine aw_ireturn cx dX4_of_28 ?_
          refine hRet _ _ True.intro rfl ?_
          exact k _ _ (by unfold f_of; rw [if_pos (by omega), if_neg (by omega)]) ⟨⟨p, q, C, F, Nu, Co, r, f, hXC, hM, hV⟩, xo_r _⟩
      · refine aw_iconst cx 18 dX4_of_17 rfl ?_
        refine aw_ireturn cx dX4_of_18 ?_
        refine hRet _ _ True.intro rfl ?_
        exact k _ _ (by unfold f_of; rw [if_neg (by omega)]) ⟨⟨p, q, C, F, Nu, Co, r, f, hXC, hM, hV⟩, xo_r _⟩
set_option maxRecDepth 100000 in
set_option maxHeartbeats 4000000 in
theorem s_X4_turns {h : AH} {Q : Option AV → AH → Prop} {n tr : Int} {g : Gr} {V : Int → Int} (hX : XI h n g V tr)  (k : ∀ v h', v = f_turns n g → XP h h' (n) (g) (V) (tr) → Q (some (vI v)) h') : MC mX4_turns [vR 0] h Q := by
  refine mc_start mX4_turns RX4 "turns" ⟨rfl, rfl, by decide +kernel⟩ [some (vR 0)] ⟨0, rfl⟩ rfl (fun X cx hRm hNS hRet => ?_)
  obtain ⟨p, q, C, F, Nu, Co, r, f, hXC, hM, hV⟩ := hX
  obtain ⟨hpq, g0, g1, ⟨c0, c1, c2, c3, c4⟩, -⟩ := id hXC
  obtain ⟨hn, hA, hg, hr, hf, hF, hN⟩ := id hM
  have hR := rk_b (n := n) (g := g) (by omega) hg
  refine aw_aload_n cx 1 dX4_turns_0 rfl rfl ?_
  refine aw_V0v cx 4 mX4_isEven (ci := 3) dX4_turns_1 rfl okmX4_isEven lkX4_67 (by first | assumption) ⟨rfl, by decide⟩ (zz_rc0 mX4_turns hRm hNS rfl rfl) (Nat.le_of_ble_eq_true rfl) ?_
  refine s_X4_isEven (by assumption) (by assumption) (by rw [hf]; exact fl_b hn) (fun v1 e1 => ⟨_, rfl, ?_⟩)
  rw [hf] at e1
  refine aw_if_ne cx 7 10 dX4_turns_4 rfl (by decide) ⟨by omega, by omega⟩ (fun c4 => ?_) (fun c4 => ?_)
  · refine aw_aload_n cx 11 dX4_turns_10 rfl rfl ?_
    refine aw_getfield cx 14 dX4_turns_11 rfl fdX4_30 (by first | assumption) (by rfl) ?_
    refine aw_V0v cx 17 mX0_multipliesEitherWay (ci := 0) dX4_turns_14 rfl okmX0_multipliesEitherWay lkX4_88 (by first | assumption) ⟨rfl, by decide⟩ (zz_rc0 mX4_turns hRm hNS rfl rfl) (Nat.le_of_ble_eq_true rfl) ?_
    rw [xc_p hXC]
    refine s_X0_multipliesEitherWay hn hA hg hr (hN (by omega)) (fun v14 e14 w14 => ⟨_, rfl, ?_⟩)
    rw [← xc_p hXC]
    refine aw_if_eq cx 20 24 dX4_turns_17 rfl (by decide) ⟨by omega, by omega⟩ (fun c17 => ?_) (fun c17 => ?_)
    · refine aw_iconst cx 25 dX4_turns_24 rfl ?_
      refine aw_ireturn cx dX4_turns_25 ?_
      refine hRet _ _ True.intro rfl ?_
      exact k _ _ (by unfold f_turns; rw [if_pos (by omega)]; omega) ⟨⟨p, q, C, F, Nu, Co, r, f, hXC, hM, hV⟩, xo_r _⟩
    · refine aw_iconst cx 21 dX4_turns_20 rfl ?_
      refine aw_goto cx 25 dX4_turns_21 (by decide) ?_
      refine aw_ireturn cx dX4_turns_25 ?_
      refine hRet _ _ True.intro rfl ?_
      exact k _ _ (by unfold f_turns; rw [if_pos (by omega)]; omega) ⟨⟨p, q, C, F, Nu, Co, r, f, hXC, hM, hV⟩, xo_r _⟩
  · refine aw_bipush cx 9 dX4_turns_7 rfl (by decide +kernel) ?_
    refine aw_ireturn cx dX4_turns_9 ?_
    refine hRet _ _ True.intro rfl ?_
    exact k _ _ (by unfold f_turns; rw [if_neg (by omega)]) ⟨⟨p, q, C, F, Nu, Co, r, f, hXC, hM, hV⟩, xo_r _⟩
set_option maxRecDepth 100000 in
set_option maxHeartbeats 4000000 in
theorem s_X4_closed {h : AH} {Q : Option AV → AH → Prop} {n tr : Int} {g : Gr} {V : Int → Int} (hX : XI h n g V tr) {a b : Int} (ha : R32 a) (hb : R32 b) (k : ∀ v h', v = f_closed n g a b → XP h h' (n) (g) (V) (tr) → Q (some (vI v)) h') : MC mX4_closed [vR 0, vI a, vI b] h Q := by
  refine mc_start mX4_closed RX4 "closed" ⟨rfl, rfl, by decide +kernel⟩ [some (vR 0), some (vI a), some (vI b)] ⟨0, rfl⟩ rfl (fun X cx hRm hNS hRet => ?_)
  obtain ⟨p, q, C, F, Nu, Co, r, f, hXC, hM, hV⟩ := hX
  obtain ⟨hpq, g0, g1, ⟨c0, c1, c2, c3, c4⟩, -⟩ := id hXC
  obtain ⟨hn, hA, hg, hr, hf, hF, hN⟩ := id hM
  have hR := rk_b (n := n) (g := g) (by omega) hg
  have hs := shl_r (R := rk n g) ⟨by omega, by omega⟩
  refine aw_iload_n cx 1 dX4_closed_0 rfl rfl ?_
  refine aw_if_lt cx 4 22 dX4_closed_1 rfl (by decide) ⟨by omega, by omega⟩ (fun c1 => ?_) (fun c1 => ?_)
  · refine aw_iconst cx 23 dX4_closed_22 rfl ?_
    refine aw_ireturn cx dX4_closed_23 ?_
    refine hRet _ _ True.intro rfl ?_
    exact k _ _ (by unfold f_closed; rw [if_neg (by omega)]) ⟨⟨p, q, C, F, Nu, Co, r, f, hXC, hM, hV⟩, xo_r _⟩
  · refine aw_iload_n cx 5 dX4_closed_4 rfl rfl ?_
    refine aw_iconst cx 6 dX4_closed_5 rfl ?_
    refine aw_icmp_gt cx 9 22 dX4_closed_6 rfl (by decide) ⟨⟨by omega, by omega⟩, ⟨by omega, by omega⟩⟩ (fun c6 => ?_) (fun c6 => ?_)
    · refine aw_iconst cx 23 dX4_closed_22 rfl ?_
      refine aw_ireturn cx dX4_closed_23 ?_
      refine hRet _ _ True.intro rfl ?_
      exact k _ _ (by unfold f_closed; rw [if_neg (by omega)]) ⟨⟨p, q, C, F, Nu, Co, r, f, hXC, hM, hV⟩, xo_r _⟩
    · refine aw_iload_n cx 10 dX4_closed_9 rfl rfl ?_
      refine aw_iconst cx 11 dX4_closed_10 rfl ?_
      refine aw_icmp_eq cx 14 24 dX4_closed_11 rfl (by decide) ⟨⟨by omega, by omega⟩, ⟨by omega, by omega⟩⟩ (fun c11 => ?_) (fun c11 => ?_)
      · refine aw_aload_n cx 25 dX4_closed_24 rfl rfl ?_
        refine aw_V0v cx 28 mX4_isEven (ci := 3) dX4_closed_25 rfl okmX4_isEven lkX4_67 (by first | assumption) ⟨rfl, by decide⟩ (zz_rc0 mX4_closed hRm hNS rfl rfl) (Nat.le_of_ble_eq_true rfl) ?_
        refine s_X4_isEven (by assumption) (by assumption) (by rw [hf]; exact fl_b hn) (fun v25 e25 => ⟨_, rfl, ?_⟩)
        rw [hf] at e25
        refine aw_if_ne cx 31 34 dX4_closed_28 rfl (by decide) ⟨by omega, by omega⟩ (fun c28 => ?_) (fun c28 => ?_)
        · refine aw_iload_n cx 35 dX4_closed_34 rfl rfl ?_
          refine aw_if_ne cx 38 55 dX4_closed_35 rfl (by decide) ⟨by omega, by omega⟩ (fun c35 => ?_) (fun c35 => ?_)
          · refine aw_iload_n cx 56 dX4_closed_55 rfl rfl ?_
            refine aw_iconst cx 57 dX4_closed_56 rfl ?_
            refine aw_icmp_ne cx 60 71 dX4_closed_57 rfl (by decide) ⟨⟨by omega, by omega⟩, ⟨by omega, by omega⟩⟩ (fun c57 => ?_) (fun c57 => ?_)
            · refine aw_aload_n cx 72 dX4_closed_71 rfl rfl ?_
              refine aw_getfield cx 75 dX4_closed_72 rfl fdX4_30 (by first | assumption) (by rfl) ?_
              refine aw_V0v cx 78 mX0_closedSets (ci := 0) dX4_closed_75 rfl okmX0_closedSets lkX4_100 (by first | assumption) ⟨rfl, by decide⟩ (zz_rc0 mX4_closed hRm hNS rfl rfl) (Nat.le_of_ble_eq_true rfl) ?_
              rw [xc_p hXC]
              refine s_X0_closedSets hn hA hg hr (hN (by omega)) (fun v75 e75 => ⟨_, rfl, ?_⟩)
              rw [← xc_p hXC]
              refine aw_ireturn cx dX4_closed_78 ?_
              refine hRet _ _ True.intro rfl ?_
              exact k _ _ (by unfold f_closed; rw [if_pos (by omega), if_pos (by omega), if_neg (by omega)]; first | (rw [if_pos (by omega)]; exact e65) | (rw [if_neg (by omega)]; exact e75)) ⟨⟨p, q, C, F, Nu, Co, r, f, hXC, hM, hV⟩, xo_r _⟩
            · have hlt := shl_lt (v := a) (R := rk n g) ⟨by omega, by omega⟩ (by omega) (by omega)
              have lt1 := hlt.1
              have lt2 : blw n g a := hlt.2
              refine aw_aload_n cx 61 dX4_closed_60 rfl rfl ?_
              refine aw_getfield cx 64 dX4_closed_61 rfl fdX4_30 (by first | assumption) (by rfl) ?_
              refine aw_iload_n cx 65 dX4_closed_64 rfl rfl ?_
              refine aw_V1v cx 68 mX0_hullOf (ci := 0) dX4_closed_65 rfl okmX0_hullOf lkX4_97 (by first | assumption) ⟨rfl, by decide⟩ (zz_rc0 mX4_closed hRm hNS rfl rfl) (Nat.le_of_ble_eq_true rfl) ?_
              rw [xc_p hXC]
              refine s_X0_hullOf hn hA hg hr (hN (by omega)) (by assumption) (by assumption) (fun v65 e65 => ⟨_, rfl, ?_⟩)
              rw [← xc_p hXC]
              refine aw_goto cx 78 dX4_closed_68 (by decide) ?_
              refine aw_ireturn cx dX4_closed_78 ?_
              refine hRet _ _ True.intro rfl ?_
              exact k _ _ (by unfold f_closed; rw [if_pos (by omega), if_pos (by omega), if_neg (by omega)]; first | (rw [if_pos (by omega)]; exact e65) | (rw [if_neg (by omega)]; exact e75)) ⟨⟨p, q, C, F, Nu, Co, r, f, hXC, hM, hV⟩, xo_r _⟩
          · have hlt := shl_lt (v := a) (R := rk n g) ⟨by omega, by omega⟩ (by omega) (by omega)
            have lt1 := hlt.1
            have lt2 : blw n g a := hlt.2
            refine aw_aload_n cx 39 dX4_closed_38 rfl rfl ?_
            refine aw_getfield cx 42 dX4_closed_39 rfl fdX4_30 (by first | assumption) (by rfl) ?_
            refine aw_iload_n cx 43 dX4_closed_42 rfl rfl ?_
            refine aw_V1v cx 46 mX0_isClosed (ci := 0) dX4_closed_43 rfl okmX0_isClosed lkX4_94 (by first | assumption) ⟨rfl, by decide⟩ (zz_rc0 mX4_closed hRm hNS rfl rfl) (Nat.le_of_ble_eq_true rfl) ?_
            rw [xc_p hXC]
            refine s_X0_isClosed hn hA hg hr (hN (by omega)) (by omega) (fun v43 e43 => ⟨_, rfl, ?_⟩)
            rw [← xc_p hXC]
            refine aw_if_eq cx 49 53 dX4_closed_46 rfl (by decide) ⟨by omega, by omega⟩ (fun c46 => ?_) (fun c46 => ?_)
            · refine aw_iconst cx 54 dX4_closed_53 rfl ?_
              refine aw_ireturn cx dX4_closed_54 ?_
              refine hRet _ _ True.intro rfl ?_
              exact k _ _ (by unfold f_closed; rw [if_pos (by omega), if_pos (by omega), if_pos (by omega)]; rcases e43 with ⟨_, q9⟩ | ⟨_, q9⟩ <;> first | (rw [if_pos q9]; done) | (rw [if_neg q9]; done) | (exfalso; omega)) ⟨⟨p, q, C, F, Nu, Co, r, f, hXC, hM, hV⟩, xo_r _⟩
            · refine aw_iconst cx 50 dX4_closed_49 rfl ?_
              refine aw_goto cx 54 dX4_closed_50 (by decide) ?_
              refine aw_ireturn cx dX4_closed_54 ?_
              refine hRet _ _ True.intro rfl ?_
              exact k _ _ (by unfold f_closed; rw [if_pos (by omega), if_pos (by omega), if_pos (by omega)]; rcases e43 with ⟨_, q9⟩ | ⟨_, q9⟩ <;> first | (rw [if_pos q9]; done) | (rw [if_neg q9]; done) | (exfalso; omega)) ⟨⟨p, q, C, F, Nu, Co, r, f, hXC, hM, hV⟩, xo_r _⟩
        · refine aw_bipush cx 33 dX4_closed_31 rfl (by decide +kernel) ?_
          refine aw_ireturn cx dX4_closed_33 ?_
          refine hRet _ _ True.intro rfl ?_
          exact k _ _ (by unfold f_closed; rw [if_pos (by omega), if_neg (by omega)]) ⟨⟨p, q, C, F, Nu, Co, r, f, hXC, hM, hV⟩, xo_r _⟩
      · refine aw_aload_n cx 15 dX4_closed_14 rfl rfl ?_
        refine aw_iload_n cx 16 dX4_closed_15 rfl rfl ?_
        refine aw_V1v cx 19 mX4_isSet (ci := 3) dX4_closed_16 rfl okmX4_isSet lkX4_91 (by first | assumption) ⟨rfl, by decide⟩ (zz_rc0 mX4_closed hRm hNS rfl rfl) (Nat.le_of_ble_eq_true rfl) ?_
        refine s_X4_isSet (by assumption) (by assumption) (by assumption) (fun v16 e16 => ⟨_, rfl, ?_⟩)
        rw [hr] at e16
        refine aw_if_ne cx 22 24 dX4_closed_19 rfl (by decide) ⟨by omega, by omega⟩ (fun c19 => ?_) (fun c19 => ?_)
        · refine aw_aload_n cx 25 dX4_closed_24 rfl rfl ?_
          refine aw_V0v cx 28 mX4_isEven (ci := 3) dX4_closed_25 rfl okmX4_isEven lkX4_67 (by first | assumption) ⟨rfl, by decide⟩ (zz_rc0 mX4_closed hRm hNS rfl rfl) (Nat.le_of_ble_eq_true rfl) ?_
          refine s_X4_isEven (by assumption) (by assumption) (by rw [hf]; exact fl_b hn) (fun v25 e25 => ⟨_, rfl, ?_⟩)
          rw [hf] at e25
          refine aw_if_ne cx 31 34 dX4_closed_28 rfl (by decide) ⟨by omega, by omega⟩ (fun c28 => ?_) (fun c28 => ?_)
          · refine aw_iload_n cx 35 dX4_closed_34 rfl rfl ?_
            refine aw_if_ne cx 38 55 dX4_closed_35 rfl (by decide) ⟨by omega, by omega⟩ (fun c35 => ?_) (fun c35 => ?_)
            · refine aw_iload_n cx 56 dX4_closed_55 rfl rfl ?_
              refine aw_iconst cx 57 dX4_closed_56 rfl ?_
              refine aw_icmp_ne cx 60 71 dX4_closed_57 rfl (by decide) ⟨⟨by omega, by omega⟩, ⟨by omega, by omega⟩⟩ (fun c57 => ?_) (fun c57 => ?_)
              · refine aw_aload_n cx 72 dX4_closed_71 rfl rfl ?_
                refine aw_getfield cx 75 dX4_closed_72 rfl fdX4_30 (by first | assumption) (by rfl) ?_
                refine aw_V0v cx 78 mX0_closedSets (ci := 0) dX4_closed_75 rfl okmX0_closedSets lkX4_100 (by first | assumption) ⟨rfl, by decide⟩ (zz_rc0 mX4_closed hRm hNS rfl rfl) (Nat.le_of_ble_eq_true rfl) ?_
                rw [xc_p hXC]
                refine s_X0_closedSets hn hA hg hr (hN (by omega)) (fun v75 e75 => ⟨_, rfl, ?_⟩)
                rw [← xc_p hXC]
                refine aw_ireturn cx dX4_closed_78 ?_
                refine hRet _ _ True.intro rfl ?_
                exact k _ _ (by unfold f_closed; rw [if_pos (by omega), if_pos (by omega), if_neg (by omega)]; first | (rw [if_pos (by omega)]; exact e65) | (rw [if_neg (by omega)]; exact e75)) ⟨⟨p, q, C, F, Nu, Co, r, f, hXC, hM, hV⟩, xo_r _⟩
              · have hlt := shl_lt (v := a) (R := rk n g) ⟨by omega, by omega⟩ (by omega) (by omega)
                have lt1 := hlt.1
                have lt2 : blw n g a := hlt.2
                refine aw_aload_n cx 61 dX4_closed_60 rfl rfl ?_
                refine aw_getfield cx 64 dX4_closed_61 rfl fdX4_30 (by first | assumption) (by rfl) ?_
                refine aw_iload_n cx 65 dX4_closed_64 rfl rfl ?_
                refine aw_V1v cx 68 mX0_hullOf (ci := 0) dX4_closed_65 rfl okmX0_hullOf lkX4_97 (by first | assumption) ⟨rfl, by decide⟩ (zz_rc0 mX4_closed hRm hNS rfl rfl) (Nat.le_of_ble_eq_true rfl) ?_
                rw [xc_p hXC]
                refine s_X0_hullOf hn hA hg hr (hN (by omega)) (by assumption) (by assumption) (fun v65 e65 => ⟨_, rfl, ?_⟩)
                rw [← xc_p hXC]
                refine aw_goto cx 78 dX4_closed_68 (by decide) ?_
                refine aw_ireturn cx dX4_closed_78 ?_
                refine hRet _ _ True.intro rfl ?_
                exact k _ _ (by unfold f_closed; rw [if_pos (by omega), if_pos (by omega), if_neg (by omega)]; first | (rw [if_pos (by omega)]; exact e65) | (rw [if_neg (by omega)]; exact e75)) ⟨⟨p, q, C, F, Nu, Co, r, f, hXC, hM, hV⟩, xo_r _⟩
            · have hlt := shl_lt (v := a) (R := rk n g) ⟨by omega, by omega⟩ (by omega) (by omega)
              have lt1 := hlt.1
              have lt2 : blw n g a := hlt.2
              refine aw_aload_n cx 39 dX4_closed_38 rfl rfl ?_
              refine aw_getfield cx 42 dX4_closed_39 rfl fdX4_30 (by first | assumption) (by rfl) ?_
              refine aw_iload_n cx 43 dX4_closed_42 rfl rfl ?_
              refine aw_V1v cx 46 mX0_isClosed (ci := 0) dX4_closed_43 rfl okmX0_isClosed lkX4_94 (by first | assumption) ⟨rfl, by decide⟩ (zz_rc0 mX4_closed hRm hNS rfl rfl) (Nat.le_of_ble_eq_true rfl) ?_
              rw [xc_p hXC]
              refine s_X0_isClosed hn hA hg hr (hN (by omega)) (by omega) (fun v43 e43 => ⟨_, rfl, ?_⟩)
              rw [← xc_p hXC]
              refine aw_if_eq cx 49 53 dX4_closed_46 rfl (by decide) ⟨by omega, by omega⟩ (fun c46 => ?_) (fun c46 => ?_)
              · refine aw_iconst cx 54 dX4_closed_53 rfl ?_
                refine aw_ireturn cx dX4_closed_54 ?_
                refine hRet _ _ True.intro rfl ?_
                exact k _ _ (by unfold f_closed; rw [if_pos (by omega), if_pos (by omega), if_pos (by omega)]; rcases e43 with ⟨_, q9⟩ | ⟨_, q9⟩ <;> first | (rw [if_pos q9]; done) | (rw [if_neg q9]; done) | (exfalso; omega)) ⟨⟨p, q, C, F, Nu, Co, r, f, hXC, hM, hV⟩, xo_r _⟩
              · refine aw_iconst cx 50 dX4_closed_49 rfl ?_
                refine aw_goto cx 54 dX4_closed_50 (by decide) ?_
                refine aw_ireturn cx dX4_closed_54 ?_
                refine hRet _ _ True.intro rfl ?_
                exact k _ _ (by unfold f_closed; rw [if_pos (by omega), if_pos (by omega), if_pos (by omega)]; rcases e43 with ⟨_, q9⟩ | ⟨_, q9⟩ <;> first | (rw [if_pos q9]; done) | (rw [if_neg q9]; done) | (exfalso; omega)) ⟨⟨p, q, C, F, Nu, Co, r, f, hXC, hM, hV⟩, xo_r _⟩
          · refine aw_bipush cx 33 dX4_closed_31 rfl (by decide +kernel) ?_
            refine aw_ireturn cx dX4_closed_33 ?_
            refine hRet _ _ True.intro rfl ?_
            exact k _ _ (by unfold f_closed; rw [if_pos (by omega), if_neg (by omega)]) ⟨⟨p, q, C, F, Nu, Co, r, f, hXC, hM, hV⟩, xo_r _⟩
        · refine aw_iconst cx 23 dX4_closed_22 rfl ?_
          refine aw_ireturn cx dX4_closed_23 ?_
          refine hRet _ _ True.intro rfl ?_
          exact k _ _ (by unfold f_closed; rw [if_neg (by omega)]) ⟨⟨p, q, C, F, Nu, Co, r, f, hXC, hM, hV⟩, xo_r _⟩
set_option maxRecDepth 100000 in
set_option maxHeartbeats 4000000 in
theorem s_X4_order {h : AH} {Q : Option AV → AH → Prop} {n tr : Int} {g : Gr} {V : Int → Int} (hX : XI h n g V tr) {a : Int} (ha : R32 a) (k : ∀ v h', v = f_order n g a → XP h h' (n) (g) (V) (tr) → Q (some (vI v)) h') : MC mX4_order [vR 0, vI a] h Q := by
  refine mc_start mX4_order RX4 "order" ⟨rfl, rfl, by decide +kernel⟩ [some (vR 0), some (vI a)] ⟨0, rfl⟩ rfl (fun X cx hRm hNS hRet => ?_)
  obtain ⟨p, q, C, F, Nu, Co, r, f, hXC, hM, hV⟩ := hX
  obtain ⟨hpq, g0, g1, ⟨c0, c1, c2, c3, c4⟩, -⟩ := id hXC
  obtain ⟨hn, hA, hg, hr, hf, hF, hN⟩ := id hM
  have hR := rk_b (n := n) (g := g) (by omega) hg
  have hs := shl_r (R := rk n g) ⟨by omega, by omega⟩
  refine aw_aload_n cx 1 dX4_order_0 rfl rfl ?_
  refine aw_iload_n cx 2 dX4_order_1 rfl rfl ?_
  refine aw_V1v cx 5 mX4_isSet (ci := 3) dX4_order_2 rfl okmX4_isSet lkX4_91 (by first | assumption) ⟨rfl, by decide⟩ (zz_rc0 mX4_order hRm hNS rfl rfl) (Nat.le_of_ble_eq_true rfl) ?_
  refine s_X4_isSet (by assumption) (by assumption) (by assumption) (fun v2 e2 => ⟨_, rfl, ?_⟩)
  rw [hr] at e2
  refine aw_if_ne cx 8 10 dX4_order_5 rfl (by decide) ⟨by omega, by omega⟩ (fun c5 => ?_) (fun c5 => ?_)
  · refine aw_aload_n cx 11 dX4_order_10 rfl rfl ?_
    refine aw_V0v cx 14 mX4_isEven (ci := 3) dX4_order_11 rfl okmX4_isEven lkX4_67 (by first | assumption) ⟨rfl, by decide⟩ (zz_rc0 mX4_order hRm hNS rfl rfl) (Nat.le_of_ble_eq_true rfl) ?_
    refine s_X4_isEven (by assumption) (by assumption) (by rw [hf]; exact fl_b hn) (fun v11 e11 => ⟨_, rfl, ?_⟩)
    rw [hf] at e11
    refine aw_if_ne cx 17 20 dX4_order_14 rfl (by decide) ⟨by omega, by omega⟩ (fun c14 => ?_) (fun c14 => ?_)
    · have hlt := shl_lt (v := a) (R := rk n g) ⟨by omega, by omega⟩ (by omega) (by omega)
      have lt1 := hlt.1
      have lt2 : blw n g a := hlt.2
      refine aw_aload_n cx 21 dX4_order_20 rfl rfl ?_
      refine aw_getfield cx 24 dX4_order_21 rfl fdX4_30 (by first | assumption) (by rfl) ?_
      refine aw_aload_n cx 25 dX4_order_24 rfl rfl ?_
      refine aw_getfield cx 28 dX4_order_25 rfl fdX4_30 (by first | assumption) (by rfl) ?_
      refine aw_iload_n cx 29 dX4_order_28 rfl rfl ?_
      refine aw_V1v cx 32 mX0_hullOf (ci := 0) dX4_order_29 rfl okmX0_hullOf lkX4_97 (by first | assumption) ⟨rfl, by decide⟩ (zz_rc0 mX4_order hRm hNS rfl rfl) (Nat.le_of_ble_eq_true rfl) ?_
      rw [xc_p hXC]
      refine s_X0_hullOf hn hA hg hr (hN (by omega)) (by assumption) (by assumption) (fun v29 e29 => ⟨_, rfl, ?_⟩)
      rw [← xc_p hXC]
      refine aw_V1v cx 35 mX0_orderOf (ci := 0) dX4_order_32 rfl okmX0_orderOf lkX4_104 (by first | assumption) ⟨rfl, by decide⟩ (zz_rc0 mX4_order hRm hNS rfl rfl) (Nat.le_of_ble_eq_true rfl) ?_
      rw [xc_p hXC]
      refine s_X0_orderOf hn hA hg hr (hN (by omega)) (fun v32 e32 => ⟨_, rfl, ?_⟩)
      rw [← xc_p hXC]
      refine aw_ireturn cx dX4_order_35 ?_
      refine hRet _ _ True.intro rfl ?_
      exact k _ _ (by unfold f_order; rw [if_pos (by omega), if_pos (by omega), e32, e29]) ⟨⟨p, q, C, F, Nu, Co, r, f, hXC, hM, hV⟩, xo_r _⟩
    · refine aw_bipush cx 19 dX4_order_17 rfl (by decide +kernel) ?_
      refine aw_ireturn cx dX4_order_19 ?_
      refine hRet _ _ True.intro rfl ?_
      exact k _ _ (by unfold f_order; rw [if_pos (by omega), if_neg (by omega)]) ⟨⟨p, q, C, F, Nu, Co, r, f, hXC, hM, hV⟩, xo_r _⟩
  · refine aw_iconst cx 9 dX4_order_8 rfl ?_
    refine aw_ireturn cx dX4_order_9 ?_
    refine hRet _ _ True.intro rfl ?_
    exact k _ _ (by unfold f_order; rw [if_neg (by omega)]) ⟨⟨p, q, C, F, Nu, Co, r, f, hXC, hM, hV⟩, xo_r _⟩
set_option maxRecDepth 100000 in
set_option maxHeartbeats 4000000 in
theorem s_X4_trace {h : AH} {Q : Option AV → AH → Prop} {n tr : Int} {g : Gr} {V : Int → Int} (hX : XI h n g V tr)  (k : ∀ v h', v = tr → XP h h' (n) (g) (V) (tr) → Q (some (vJ v)) h') : MC mX4_trace [vR 0] h Q := by
  refine mc_start mX4_trace RX4 "trace" ⟨rfl, rfl, by decide +kernel⟩ [some (vR 0)] ⟨0, rfl⟩ rfl (fun X cx hRm hNS hRet => ?_)
  obtain ⟨p, q, C, F, Nu, Co, r, f, hXC, hM, hV⟩ := hX
  obtain ⟨hpq, g0, g1, ⟨c0, c1, c2, c3, c4⟩, -⟩ := id hXC
  obtain ⟨hn, hA, hg, hr, hf, hF, hN⟩ := id hM
  have hR := rk_b (n := n) (g := g) (by omega) hg
  refine aw_aload_n cx 1 dX4_trace_0 rfl rfl ?_
  refine aw_getfield cx 4 dX4_trace_1 rfl fdX4_41 (by first | assumption) (by rfl) ?_
  refine aw_lreturn cx dX4_trace_4 ?_
  refine hRet _ _ True.intro rfl ?_
  exact k _ _ (by rfl) ⟨⟨p, q, C, F, Nu, Co, r, f, hXC, hM, hV⟩, xo_r _⟩
