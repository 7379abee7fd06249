set_option maxRecDepth 100000 in
set_option maxHeartbeats 4000000 in
theorem law_start {X : CT} {mn : String} (cx : zz_C X cL_law RL mn 4) (hRm : zz_R X = room_1) (hNS : zz_NS X = (0, 0)) (hsc : zz_sc X) (hlz : (zz_scr X).1 < 2147480000) (hRet : ∀ h : AH, h.1 = (30, 753) → zz_ret X (some (vI 1)) h) : AW X 0 [some vS, none, none, none] [] ((0, 0), fun _ => zz_dead) := by
  have rm : ∀ (h : AH) (k n a b : Nat), h.1 = (a, b) → (Nat.ble (a + k) 30 && Nat.ble (b + n) 753) = true → zz_rm X h k n := fun h k n a b hh e => by
    simp only [Bool.and_eq_true] at e
    have e1 := Nat.le_of_ble_eq_true e.1
    have e2 := Nat.le_of_ble_eq_true e.2
    refine ⟨?_, ?_⟩
    · rw [hRm, hNS, hh]
      show a + k ≤ 0 + 30
      omega
    · rw [hRm, hNS, hh]
      show b + n ≤ 0 + 753
      omega
  refine aw_new cx 3 dL_law_0 rfl nwL_7 (rm _ _ _ 0 0 rfl rfl) ?_
  refine aw_dup cx 4 dL_law_3 rfl rfl ?_
  refine aw_I0n cx 7 mX4_init dL_law_4 rfl okmX4_init lkL_9 (zz_rcL hRm hNS 1 6 rfl rfl) (Nat.le_of_ble_eq_true rfl) ?_
  refine s_X4_init rfl (by rw [zz_get_new]; rfl) (fun h4 e4 x4 => ⟨rfl, ?_⟩)
  have f4 : h4.1 = (20, 569) := e4
  refine aw_astore_n cx 8 1 dL_law_7 rfl rfl ⟨Nat.le_of_ble_eq_true rfl, Nat.le_of_ble_eq_true rfl⟩ rfl ?_
  dsimp only [List.set]
  refine aw_new cx 11 dL_law_8 rfl nwL_10 (rm _ _ _ 20 569 f4 rfl) ?_
  rw [show h4.1.1 = 20 by rw [f4]]
  refine aw_dup cx 12 dL_law_11 rfl rfl ?_
  refine aw_I0n cx 15 mX5_init dL_law_12 rfl okmX5_init lkL_12 (zz_rcL hRm hNS 21 581 (by rw [zz_new_1, f4]) rfl) (Nat.le_of_ble_eq_true rfl) ?_
  refine s_X5_init (by rw [zz_new_1, f4]) (by rw [zz_get_new, if_pos (by rw [f4])]) (fun h5 e5 x5 y5 => ⟨rfl, ?_⟩)
  have f5 : h5.1 = (30, 753) := by rw [e5, zz_new_1, f4]
  have x6 : XI h5 1 gB vW1 0 := XI_k x4 (fun k hk => by
    rw [y5 k hk, zz_get_new, if_neg (by rw [f4]; show k ≠ 20; omega)])
  refine aw_astore_n cx 16 2 dL_law_15 rfl rfl ⟨Nat.le_of_ble_eq_true rfl, Nat.le_of_ble_eq_true rfl⟩ rfl ?_
  dsimp only [List.set]
  refine aw_iconst cx 17 dL_law_16 rfl ?_
  refine aw_istore_n cx 18 3 dL_law_17 rfl rfl ⟨Nat.le_of_ble_eq_true rfl, Nat.le_of_ble_eq_true rfl⟩ rfl ?_
  dsimp only [List.set]
  exact law_loop cx hRm hNS hsc hlz hRet ((zz_scr X).1 + 1) h5 0 1 0 gB vW1 (by omega) ⟨by omega, by omega⟩ f5 x6 x5
/-! THE CLAIM OUT OF ONE WALK OF THE LAW'S BODY. Your part is whole_start (and what it stands on); all else here is the same for every law, but numbers. -/
def R_law : String := "ShareTablesLaw"
def lw_P (b : Addr) (xs : List Int32) (args : Array Value) (s : State) : Prop := args = #[.ref b] ∧ s.IntsAt b xs ∧ xs.length ≤ 2560 ∧ (Jvm.Cond.and given_1 narrow_1).before args s = true
def lw_Q (_ : Array Value) (s : State) (o : Outcome) (t : State) : Prop := o = .returned (some (.int 1)) ∧ Framed s o t [] 30 753
def lw_Z (below : List Frame) (a : Array Value) (s : State) : State → Prop := fun t => ∃ o, t.status = .running ∧ Ended t below o ∧ lw_Q a s o t
/-- the law's own end, with 1 on the stack, nothing written that was there before, its room as the claim has it -/
theorem lw_ret {p : Program} {l : Launch} {e : Env} {s : State} {m : MethodId} {below : List Frame} {meth : Method} {c : Code} {b : Nat} (hx : p.tables.exec = Jvm.exec) (hb : c.code = code) (hr : meth.sig.returnType = ret) (hlocks : meth.locks = false) {pc : Nat} {H : Heap} {ls : Array Slot} (hdg : decode code pc = .ok (.ireturn, 1)) : W p l e room_1 s m #[Value.ref b] below meth c H [] 30 753 (lw_Z below #[Value.ref b] s) (F0 m pc ls [.int 1]) := by
  intro T hT X
  obtain ⟨fs, hret, hrun, hended, hW, hframe⟩ := X.leave (v := some (.int 1)) (hlocks := hlocks) (fun h => by rw [hr] at h; cases h)
  have hmeth' : T.vm.method? m = some meth := X.method'
  refine ⟨T.setFrames fs, ?_, .returned (some (.int 1)), hrun, hended, rfl, ⟨_, rfl⟩, hW, hframe⟩
  jvm_step X.here [X.here.top, hx, hb, hdg, hmeth', hr, ret, narrow_b1]
  (try refine ⟨rfl, ?_⟩); (try refine ⟨rfl, ?_⟩)
  first | (intro acts; rw [hret _ acts rfl rfl rfl]) | rw [hret _ _ rfl rfl rfl]
  exact Steps.refl _
/-- what holds at the law's entry: the machine, the code, the tables' words (any of lw_tbl by 'hts w (by decide +kernel)'), the script of L ints xs at the cell b, what the Statement gives of the start (any of its parts by flat_of_before) -/
def lw_At (p : Program) (s : State) (m : MethodId) (meth : Method) (c : Code) (b L : Nat) (xs : Nat → Int32) : Prop :=
  p.tables.exec = Jvm.exec ∧ c.code = code ∧ meth.sig.returnType = ret ∧ c.maxLocals = 4 ∧ s.vm.findClass R_law = some m.cls ∧ (∀ w ∈ lw_tbl, w.before #[Value.ref b] s = true) ∧ va_X b L xs s s.heap ∧ b < s.heap.size ∧ meth.locks = false ∧ (Jvm.Cond.and given_1 narrow_1).before #[Value.ref b] s = true
set_option maxRecDepth 100000 in
set_option maxHeartbeats 4000000 in
theorem law_known {s : State} {args : Array Value} (hts : ∀ w ∈ zz_tbl, w.before args s = true) : ∃ (D : va_G) (cI cJ : ClassId), va_K D vwCl [(cI, .int), (cJ, .long)] s := by
  have arr : ∀ ty : FieldType, (Cond.arrayClass ty).before args s = true → (∀ C, ty ≠ .object C) → ∃ cA, ArrOfT s cA ty ∧ s.vm.findClass ("[" ++ ty.toString) = some cA := fun ty ha hne => by
    obtain ⟨cA, kA, comp, h1, h2, h3⟩ := Cond.arrayClass_spec ha
    exact ⟨cA, fun n z => ⟨fun k h => (by cases h), kA, h2, comp, h3⟩, h1⟩
  obtain ⟨cI, i1, i2⟩ := arr .int (hts _ (by decide +kernel)) (fun C h => by cases h)
  obtain ⟨cJ, j1, j2⟩ := arr .long (hts _ (by decide +kernel)) (fun C h => by cases h)
  have cls : ∀ (c : Nat) (q : vw_C), vwCl[c]? = some q → ∃ x : ClassId × (Nat → Nat), u_Kn s q.1 q.2.1 q.2.2 x.1 x.2 := fun c q hq => by
    have k : ∀ (Cn : String) (Tn : u_T) (N : Nat), (∀ w ∈ u_ws Cn Tn N, w ∈ zz_tbl) → Cond.instantiable Cn N ∈ zz_tbl → ∃ x : ClassId × (Nat → Nat), u_Kn s Cn Tn N x.1 x.2 := fun Cn Tn N h1 h2 => by
      obtain ⟨cC, iS, h⟩ := u_known hts h1 (hts _ h2)
      exact ⟨(cC, iS), h⟩
    rcases (show c = 0 ∨ c = 1 ∨ c = 2 ∨ c = 3 ∨ c = 4 ∨ 5 ≤ c by omega) with e | e | e | e | e | e
    · subst e
      cases hq
      exact k RX0 TX0 7 uiX0 (zz_in 83 (by decide +kernel) (by decide +kernel))
    · subst e
      cases hq
      exact k RX1 TX1 4 uiX1 (zz_in 64 (by decide +kernel) (by decide +kernel))
    · subst e
      cases hq
      exact k RX3 TX3 4 uiX3 (zz_in 42 (by decide +kernel) (by decide +kernel))
    · subst e
      cases hq
      exact k RX4 TX4 6 uiX4 (zz_in 34 (by decide +kernel) (by decide +kernel))
    · subst e
      cases hq
      exact k RX5 TX5 12 uiX5 (zz_in 437 (by decide +kernel) (by decide +kernel))
    · rw [List.getElem?_eq_none (by simpa using e)] at hq
      cases hq
  have ch : ∀ c : Nat, ∃ x : ClassId × (Nat → Nat), ∀ q : vw_C, vwCl[c]? = some q → u_Kn s q.1 q.2.1 q.2.2 x.1 x.2 := fun c => by
    cases hc : vwCl[c]? with
    | none => exact ⟨(cI, fun _ => 0), fun q hq => by cases hq⟩
    | some q0 =>
      obtain ⟨x, hx⟩ := cls c q0 hc
      exact ⟨x, fun q hq => by cases hq; exact hx⟩
  refine ⟨(fun c => (Classical.choose (ch c)).1, fun c => (Classical.choose (ch c)).2), cI, cJ, fun c q hq => Classical.choose_spec (ch c) q hq, fun k q hk => ?_⟩
  rcases (show k = 0 ∨ k = 1 ∨ 2 ≤ k by omega) with e | e | e
  · subst e
    cases hk
    exact ⟨i1, i2⟩
  · subst e
    cases hk
    exact ⟨j1, j2⟩
  · rw [List.getElem?_eq_none (by simpa using e)] at hk
    cases hk
set_option maxRecDepth 100000 in
set_option maxHeartbeats 4000000 in
theorem whole_start {p : Program} {e : Env} {s : State} {m : MethodId} {below : List Frame} {meth : Method} {c : Code} (l : Launch) (hflags : l.flags = flags0) {b L : Nat} {xs : Nat → Int32} (hL : L ≤ 2560) (C0 : lw_At p s m meth c b L xs) : W p l e room_1 s m #[Value.ref b] below meth c s.heap [] 0 0 (lw_Z below #[Value.ref b] s) (entryFrame m ([Value.ref b] : List Value).toArray 4) := by
  obtain ⟨hx, hb, hr, hml, hown, hts, hxs, hbl, hlk, hgv⟩ := C0
  have htz : ∀ w ∈ zz_tbl, w.before #[Value.ref b] s = true := fun w hw => hts w (List.mem_filter.mp hw).1
  obtain ⟨D, cI, cJ, hK⟩ := law_known htz
  have C : zz_C (p, l, e, room_1, s, m, #[Value.ref b], below, meth, c, 4, D, cI, cJ, (s.heap.size, b), (0, 0), lw_Z below #[Value.ref b] s, (fun v h => v = some (vI 1) ∧ h.1 = (30, 753)), (L, xs)) cL_law RL meth.name 4 := by
    refine ⟨⟨hx, hb, hml, hown, htz, rfl, hK, rfl⟩, ?_, rfl⟩
    intro v h pc Lc hret hdec H locs ls h1 h2 h3 h5
    obtain ⟨rfl, hh⟩ := hret
    rw [hh]
    refine va_forget (fun q hq => h2.2.2 q hq) ?_
    exact lw_ret hx hb hr hlk hdec
  have W0 := law_start C rfl rfl ⟨hxs, hbl, hbl⟩ (show L < 2147480000 by omega) (fun h hh => ⟨rfl, hh⟩)
  rw [lg_entry_eq]
  have hl := lv_entry [Value.ref b] (n := 4) (Nat.le_of_ble_eq_true rfl)
  have hd : zz_wd D cI cJ (s.heap.size, b) ((0, 0), fun _ => zz_dead) s.heap := ⟨rfl, fun k hk => absurd hk (Nat.not_lt_zero k), fun k _ => rfl⟩
  exact W0 s.heap [] _ hd va_S.rf ⟨Nat.le_refl _, Nat.le_refl _⟩ hl
set_option maxHeartbeats 4000000 in
theorem lw_walk (l : Launch) (hflags : l.flags = flags0) (b : Addr) (xs : List Int32) : MetFree l x (headSpec (Jvm.Cond.code x code maxLocals ret :: tables_1) room_1) (lw_P b xs) (fun _ _ _ _ _ => True) lw_Q := by
  refine MetFree.of_bodyS (code := code) (maxLocals := maxLocals) (ret := ret) (by decide) ?_ ?_
  · intro args s m h hn
    obtain ⟨meth, c, h1, h2, h3, h4, h5, h6, -, -⟩ := Cond.code_spec hn (atoms_spec (ws := Jvm.Cond.code x code maxLocals ret :: tables_1) h _ List.mem_cons_self)
    exact ⟨meth, c, h1, h2, h3, h4, h5, h6⟩
  · intro p e s m args below meth c s₁ B hml0 hP _
    obtain ⟨rfl, hx, hbd, hgv⟩ := hP
    obtain ⟨scr, harrAt, hlist, hof, hsmall⟩ := hx
    obtain ⟨hcb, hkn, -, -⟩ := State.arrayAt?_spec harrAt
    have hown : s.vm.findClass R_law = some m.cls := findClass_of_methodNamed B.named
    have hts0 : ∀ c ∈ (Jvm.Cond.code x code maxLocals ret :: tables_1), c.before #[Value.ref b] s = true := atoms_spec (ws := Jvm.Cond.code x code maxLocals ret :: tables_1) B.pre
    have hts : ∀ w ∈ lw_tbl, w.before #[Value.ref b] s = true := k2_hts_sels lw_privs (fun w hw => hts0 w (List.mem_cons_of_mem _ hw)) lw_privs_ok
    have hml : c.maxLocals = 4 := B.maxLocals_eq (hts0 _ List.mem_cons_self)
    have X₀ : Stand p l e room_1 s m #[Value.ref b] below meth c s₁ [] 0 0 := Stand.of_body B
    have hh0 : s₁.heap = s.heap := by rw [B.state]; rfl
    have hsz : scr.slots.size = xs.length := by rw [← Array.length_toList, hlist, List.length_map]
    have hval : ∀ j : Nat, j < xs.length → scr.slots[j]? = some (.int (xs.getD j 0)) := fun j hj => by
      rw [← Array.getElem?_toList, hlist]
      simp [hj]
    have hbl : b < s.heap.size := (Array.getElem?_eq_some_iff.mp hcb).1
    have hX : va_X b xs.length (fun j => xs.getD j 0) s s.heap := ⟨scr, hcb, hof, hkn, hsz, hval⟩
    have K : W p l e room_1 s m #[Value.ref b] below meth c s₁.heap [] 0 0 (lw_Z below #[Value.ref b] s) (entryFrame m ([Value.ref b] : List Value).toArray 4) := by
      rw [hh0]
      exact whole_start l hflags hbd ⟨B.exec, B.bytes, B.returns, hml, hown, hts, hX, hbl, B.notSynchronized, hgv⟩
    obtain ⟨t, a1, o, b1, b2, b3⟩ := K s₁ rfl X₀
    exact ⟨t, o, a1, b1, b2, b3⟩
theorem lw_pre_spec {args : Array Value} {s : State} (h : (Jvm.Cond.and given_1 narrow_1).before args s = true) (hr : rest_1_c.before args s = true) : ∃ (b : Addr) (xs : List Int32), lw_P b xs args s := by
  have hs := flat_of_before _ h
  have hq := flat_of_before _ hr
  have hc : (Cond.count 1).before args s = true := hs _ (by decide +kernel)
  have harr : (Cond.arrayOf (.arg 0) .int).before args s = true := hs _ (by decide +kernel)
  have hle : (Cond.le (.length (.arg 0)) (.int 2560)).before args s = true := hs _ (by decide +kernel)
  have hlen : (Cond.isInt (.length (.arg 0))).before args s = true := hq _ (by decide +kernel)
  have hall : (Cond.all (.arg 0) (.isInt (.elem (.arg 0) (.index 0)))).before args s = true := hq _ (by decide +kernel)
  obtain ⟨b, xs, hb, hx⟩ := State.ints_of_pre rfl harr hlen hall
  have hsm : xs.length < 2 ^ 31 := hx.choose_spec.2.2.2
  have hev : (Term.length (.arg 0)).eval args s none [] s = some (.int xs.length.toInt32) := hx.length_eval hb
  have hv := Cond.le_ints hev (show (Term.int 2560).eval args s none [] s = some (.int 2560) from rfl)
  have hd : xs.length.toInt32 ≤ 2560 := by
    simpa [Cond.before, Cond.holds, hv] using hle
  have hN : xs.length ≤ 2560 := (Int32.ofNat_le_ofNat hsm (by decide)).mp (show Int32.ofNat xs.length ≤ Int32.ofNat 2560 from hd)
  exact ⟨b, xs, Cond.one_arg hc (show args[0]? = some (.ref b) from hb), hx, hN, h⟩
theorem lw_comes (l : Launch) (hflags : l.flags = flags0) : Comes l x (Jvm.Cond.code x code maxLocals ret :: tables_1) room_1 (fun tb e args s => Calls_1 tb e args s ∧ rest_1 tb e args s ∧ Pre_1 tb e args s)
    (fun _ _ args s o t => lw_Q args s o t) := by
  intro p e ha hc hk s m args below hf hfit hheap happ hpre
  obtain ⟨b, xs, hP⟩ := lw_pre_spec hpre.2.2 hpre.2.1
  obtain ⟨k, o, h1, h2, h3, hQ⟩ := lw_walk l hflags b xs p e ha hc hk s m args below hf ((Spec.applies_iff_loose hf).mp happ).1 hP trivial
  exact ⟨k, o, h1, h2, h3, hQ⟩
theorem lw_frame {s t : State} {o : Outcome} {args : Array Value} (h : Framed s o t [] 30 753) :
    Framed s o t (fieldLocs frame_1_writes args s ++ arrayLocs frame_1_arrays args s ++ staticLocs frame_1_statics s) 30 753 := h
theorem lw_limb (L : Cond) (hL : ∀ (args : Array Value) (s t : State), L.after args s (.returned (some (.int 1))) t = true) :
    ArmFor flags0 classFile x code maxLocals ret World_1 tables_1 room_1 Calls_1 rest_1 Pre_1
      (fun tb e a s o t => postC L tb e a s o t ∧ Framed s o t (fieldLocs frame_1_writes a s ++ arrayLocs frame_1_arrays a s ++ staticLocs frame_1_statics s) 30 753) := by
  intro l hflags _ _ p e ha hc hk s m args below hf hfit hheap happ hpre
  obtain ⟨k, o, h1, h2, h3, rfl, hF⟩ := lw_comes l hflags p e ha hc hk s m args below hf hfit hheap happ hpre
  exact ⟨k, _, h1, h2, h3, hL args s _, lw_frame hF⟩
theorem i_vc : Claimed_1_1 ∧ Claimed_1_2 := ⟨lw_limb limb_1_1 (fun args s t => by simp [limb_1_1, Cond.after, Cond.holds, Cond.value]), lw_limb limb_1_2 (fun args s t => Cond.after_iff.mpr (by
  first | (rw [show limb_1_2 = Cond.eq .result (.int 1) from rfl, Cond.eq_ints (x := 1) (y := 1) rfl rfl]; simp; done) | (simp [limb_1_2, Cond.value, Term.eval]; done)))⟩
