/-! a call with up to ten below it -/
abbrev zz_rcW (X : CT) (d : MD) (h : AH) : Prop := d.2.2.2.2.1.1 + 1 ≤ (zz_R X).frames ∧ d.2.2.1 + 21 + d.2.2.2.2.1.2 ≤ (zz_R X).locals ∧ zz_rm X h d.2.2.2.2.2.1 d.2.2.2.2.2.2
theorem zz_runW {p : Program} {l : Launch} {e : Env} {R : Room} {s : State} {m : MethodId} {args : Array Value} {below : List Frame} {meth : Method} {c : Code} {H : Heap} {locs : List Loc} {cells slots : Nat} {Ts ws ws' : List Cond} {cc bytes : ByteArray} {nL maxL index n mc ms : Nat} {own : String} {y : MethodName} {ret : Option FieldType} {rm : Room} {Pc : Array Value → State → Prop} {Qc : Array Value → State → Outcome → State → Prop} {free : Addr → Prop} {b : Addr} {As rest : List Value} {g : JFrame} (W : Nat)
    (S : CallFix p m c cc nL s args Ts own) (hM : Met l y ws rm Pc Qc mc ms free) (hT : GoodIn Ts (wsV own index y.cls y ws)) (hw : ws = Cond.code y bytes maxL ret :: ws') (hrc : rm.cells = mc) (hrs : rm.slots = ms)
    (hd : y.cls ≠ "java/lang/invoke/MethodHandle" ∧ y.cls ≠ "java/lang/invoke/VarHandle" ∧ (parseMethodDescriptor y.desc).map (fun d => d.parameters.length) = some n) (hR : rm.frames + 1 ≤ R.frames ∧ W + (maxL + 11) + rm.locals ≤ R.locals) (hp : PreV s H y.cls b Pc As)
    (hg : g.method = m) (hn : As.length = n) (hsize : g.locals.size = nL) (hstack : g.stack = As.reverse ++ .ref b :: rest) (hW : 2 * g.monitorRoom + (rest.map fun v => v.category).sum ≤ W) (hdg : decode cc g.pc = .ok (.invokevirtual index, 3)) (hf : cells + mc ≤ R.cells ∧ slots + ms ≤ R.slots) :
    va_Run p l e R s m args below meth c H locs cells slots mc ms g rest (Qc (Value.ref b :: As).toArray) (free) := by
  obtain ⟨hx, hb, hml, ho, ht⟩ := S
  have ok : ∀ w ∈ wsV own index y.cls y ws, w.before args s = true := fun w h => ht w (hT w h).1
  have hmem : Cond.code y bytes maxL ret ∈ ws := by rw [hw]; exact List.mem_cons_self
  have hG2 : GoodIn Ts ws := fun w h => hT w (by unfold wsV; exact List.mem_append_right _ h)
  have hini : (Cond.initialized y.cls).before args s = true := ok _ (by simp [wsV])
  have hK : Back l R p e below s args y 3 W (PreOf R mc ms Pc) (PostOf Qc mc ms free) := back_of (bytes := bytes) (maxL := maxL) (ret := ret) hM hp.1 hrc hrs hR.1 hR.2 (pay_in ht hG2) hmem (fun a' U hW => word_at hW (Or.inl (by first | rfl | simp [Cond.onTables, Cond.keeps, Cond.steady])) hini)
  obtain ⟨-, ⟨cellB, hcB, hoB, hclB⟩, hPc⟩ := hp
  have hlen : ∀ sig, parseMethodDescriptor y.desc = some sig → n = sig.parameters.length := fun sig h => by
    have h2 := hd.2.2
    rw [h] at h2
    exact (Option.some.inj h2).symm
  intro T hT2 X
  obtain ⟨v, vm₁, ⟨U', l2, c2, s2⟩, hW₁, X', ⟨g', mk, t, L, e1, e2, hq, h1, hL, h2, h3⟩, st⟩ := callV X hx (own := own) (index := index) (C := y.cls) (bytes := bytes) (maxL := maxL) (ret := ret) ho (ok _ (by simp [wsV])) (ok _ (by simp [wsV])) (ok _ (by simp [wsV])) (ht _ (hG2 _ hmem).1) ⟨hd.1, hd.2.1⟩ hK (by rw [hT2]; exact hcB) hoB hclB hg (hsize.trans hml.symm) (argsL := As) (rest := rest) (fun sig h => hn.trans (hlen sig h)) hstack hW (by rw [hb]; exact hdg)
    (fun vm₁ hW₁ => ⟨hf.1, hf.2, hPc (T.setVm vm₁) hT2 hW₁⟩)
  dsimp only [Pt.U, Pt.locs, Pt.cells, Pt.slots] at X' e1 e2 h1 h2 h3 st
  subst h1; subst h2; subst h3
  exact ⟨v, (T.setVm vm₁).calling g' mk (Value.ref b :: As).toArray, t, U', L, hT2, X', hL, e1, e2, hq, st⟩
theorem aw_callW {X : CT} {cc : ByteArray} {own mn : String} {nL : Nat} (C : zz_C X cc own mn nL) {pc : Nat} {L : List (Option AV)} {st : List AV} {h : AH} (n : Nat) (d : MD) {a idx ci na : Nat} {as : List AV} {fs : List AV} {S0 : List AV} {Q' : Option AV → AH → Prop} (hd : decode cc pc = .ok (.invokevirtual idx, 3)) (hn : pc + 3 = n) (hm : zz_mok d 0 na) (hlk : Cond.methodLink own idx d.1 ∈ zz_tbl) (hg : zz_get h a = cO ci fs) (hci : (vwCl[ci]?).map (fun q => q.1) = some d.1.cls ∧ ci < 5) (hS : S0 = as.reverse ++ vR a :: st) (hna : as.length = na) (hrm : zz_rcW X d h) (hwt : zz_wt st ≤ 10)
    (k : MC d (vR a :: as) h Q') (kk : ∀ r h', Q' r h' → AW X n L (r.toList ++ st) h') : AW X pc L S0 h := by
  subst hS
  subst hn
  obtain ⟨p, l, e, R, s, m, args, below, meth, c, nL, D, cI, cJ, bs, NS, Q, RET, SC⟩ := X
  obtain ⟨⟨ox, ob, oml, oown, ots, osz, oK, omn⟩, oR, oL⟩ := C
  intro H locs ls h1 h2 h3 h5
  obtain ⟨y, b, nM, rt, ⟨fr, lo⟩, mc, ms⟩ := d
  simp only [zz_rcW, zz_rm, zz_NS, zz_R] at hrm
  obtain ⟨m1, m2, -, -, m5, m6, m7, m8⟩ := hm
  have hci5 : ci < 5 := hci.2
  obtain ⟨hk, ha⟩ := zz_at h1 hg (zz_ndO hci5)
  obtain ⟨q, hq⟩ : ∃ q, vwCl[ci]? = some q := by
    cases hv : vwCl[ci]? with
    | none => rw [hv] at hci; exact absurd hci.1 (by simp)
    | some q => exact ⟨q, rfl⟩
  have hq1 : q.1 = y.cls := by have := hci.1; rw [hq] at this; exact Option.some.inj this
  have hM := k l D cI cJ bs
  have hrecv := va_recv oK (zz_P1 ha) hq (q0 := 0) rfl
  rw [hq1] at hrecv
  have hG : GoodIn zz_tbl (wsV own idx y.cls y (zz_wsd (y, b, nM, rt, (fr, lo), mc, ms))) := by
    refine zz_goodIn fun w hw => ?_
    rcases List.mem_append.mp hw with hw | hw
    · simp only [List.mem_cons, List.not_mem_nil, or_false] at hw
      rcases hw with rfl | rfl | rfl | rfl
      · exact hlk
      · exact m1.resolve_left (by decide)
      · exact m2.resolve_left (by decide)
      · exact m5
    · rcases List.mem_cons.mp hw with rfl | hw
      · exact m6
      · exact hw
  have hmap : ((as.reverse ++ vR a :: st).map (zz_cv bs)) = (as.map (zz_cv bs)).reverse ++ .ref (bs.1 + a) :: st.map (zz_cv bs) := by
    rw [List.map_append, List.map_reverse, List.map_cons]
    rfl
  rw [hmap]
  refine zz_go (h := h) (zz_runW (As := as.map (zz_cv bs)) (rest := st.map (zz_cv bs)) 10 ⟨ox, ob, by rw [oml, show nL = nL from rfl], oown, ots⟩ hM hG rfl rfl rfl ⟨m7.1, m7.2, m8⟩ ⟨hrm.1, by have := hrm.2.1; show 10 + (nM + 11) + lo ≤ R.locals; omega⟩ ⟨zz_blind, hrecv, fun U hU hW => ⟨rfl, by rw [hU]; exact h1.1, by rw [hU]; exact h1, va_K.moved hW.alike oK⟩⟩ rfl (by rw [List.length_map]; exact hna) h5.1 rfl (by rw [zz_wt_ok]; show 2 * 0 + zz_wt st ≤ 10; omega) hd ⟨by have := hrm.2.2.1; show h.1.1 - NS.1 + mc ≤ R.cells; omega, by have := hrm.2.2.2; show h.1.2 - NS.2 + ms ≤ R.slots; omega⟩) h2 (fun r h' H1 locs1 z1 z2 z3 z4 => ?_)
  have W1 := kk r h' z1 H1 locs1 ls z3 z4 ⟨by rw [z2]; show NS.1 ≤ h.1.1 + mc; omega, by rw [z2]; show NS.2 ≤ h.1.2 + ms; omega⟩ h5
  rw [List.map_append] at W1
  refine W.cs ?_ ?_ (by cases r <;> exact W1)
  · rw [z2]; show h.1.1 - NS.1 + mc = h.1.1 + mc - NS.1; omega
  · rw [z2]; show h.1.2 - NS.2 + ms = h.1.2 + ms - NS.2; omega
theorem zz_rcW0 {X : CT} {d : MD} {h h0 : AH} (m : MD) (hRm : zz_R X = zz_room m) (hNS : zz_NS X = h0.1) (hh : h.1 = h0.1) (e : (Nat.ble (d.2.2.2.2.1.1 + 1) m.2.2.2.2.1.1 && (Nat.ble (d.2.2.1 + 21 + d.2.2.2.2.1.2) m.2.2.2.2.1.2 && (Nat.ble d.2.2.2.2.2.1 0 && Nat.ble d.2.2.2.2.2.2 0))) = true) : zz_rcW X d h := by
  simp only [Bool.and_eq_true] at e
  have e1 := Nat.le_of_ble_eq_true e.1
  have e2 := Nat.le_of_ble_eq_true e.2.1
  have e3 := Nat.le_of_ble_eq_true e.2.2.1
  have e4 := Nat.le_of_ble_eq_true e.2.2.2
  refine ⟨?_, ?_, ?_, ?_⟩
  · rw [hRm]; exact e1
  · rw [hRm]; exact e2
  · rw [hNS, hh]; omega
  · rw [hNS, hh]; omega
theorem aw_V1vW {X : CT} {cc : ByteArray} {own mn : String} {nL : Nat} (C : zz_C X cc own mn nL) {pc : Nat} {L : List (Option AV)} {st : List AV} {h : AH} (n : Nat) (d : MD) {a idx ci : Nat} {fs : List AV} {x1 : AV} (hd : decode cc pc = .ok (.invokevirtual idx, 3)) (hn : pc + 3 = n) (hm : zz_mok d 0 1) (hlk : Cond.methodLink own idx d.1 ∈ zz_tbl) (hg : zz_get h a = cO ci fs) (hci : (vwCl[ci]?).map (fun q => q.1) = some d.1.cls ∧ ci < 5) (hrm : zz_rcW X d h) (hwt : zz_wt st ≤ 10) (k : MC d [vR a, x1] h (fun r h' => ∃ v, r = some v ∧ AW X n L (v :: st) h')) : AW X pc L (x1 :: vR a :: st) h :=
  aw_callW C n d (as := [x1]) (st := st) hd hn hm hlk hg hci rfl rfl hrm hwt k (fun r h' hQ => by obtain ⟨v, rfl, hA⟩ := hQ; exact hA)
theorem aw_V2vW {X : CT} {cc : ByteArray} {own mn : String} {nL : Nat} (C : zz_C X cc own mn nL) {pc : Nat} {L : List (Option AV)} {st : List AV} {h : AH} (n : Nat) (d : MD) {a idx ci : Nat} {fs : List AV} {x1 x2 : AV} (hd : decode cc pc = .ok (.invokevirtual idx, 3)) (hn : pc + 3 = n) (hm : zz_mok d 0 2) (hlk : Cond.methodLink own idx d.1 ∈ zz_tbl) (hg : zz_get h a = cO ci fs) (hci : (vwCl[ci]?).map (fun q => q.1) = some d.1.cls ∧ ci < 5) (hrm : zz_rcW X d h) (hwt : zz_wt st ≤ 10) (k : MC d [vR a, x1, x2] h (fun r h' => ∃ v, r = some v ∧ AW X n L (v :: st) h')) : AW X pc L (x2 :: x1 :: vR a :: st) h :=
  aw_callW C n d (as := [x1, x2]) (st := st) hd hn hm hlk hg hci rfl rfl hrm hwt k (fun r h' hQ => by obtain ⟨v, rfl, hA⟩ := hQ; exact hA)
