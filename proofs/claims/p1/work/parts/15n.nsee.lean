def jWx (own : String) (ic : Nat) (X : String) : List Cond := Bundle.throwableAtoms ++ (Bundle.throwableSAtoms ++ [.methodLink own ic (Bundle.initS X), .instantiable X 6, .castable X X, .selects X Bundle.tFill0 Bundle.tFill0, .selects X Bundle.tFill Bundle.tFill, .lays X Bundle.tN "cause" "Ljava/lang/Throwable;", .lays X Bundle.tN "stackTrace" Bundle.steD, .lays X Bundle.tN "suppressedExceptions" Bundle.listD, .lays X Bundle.tN "detailMessage" "Ljava/lang/String;", .isRef (.static Bundle.tN "UNASSIGNED_STACK" Bundle.steD), .isRef (.static Bundle.tN "SUPPRESSED_SENTINEL" Bundle.listD), .fieldLink Bundle.tN 198 Bundle.tN "backtrace" "Ljava/lang/Object;", .lays Bundle.tN Bundle.tN "backtrace" "Ljava/lang/Object;", .lays X Bundle.tN "backtrace" "Ljava/lang/Object;"])
def jOwnX (own : String) (ic : Nat) (X : String) (ix : Nat) (rx : ByteArray) (Yn : String) (rn : List String) : List Cond := jWx own ic X ++ (Bundle.passSAtoms X Yn ix rx ++ Bundle.chainSAtoms Yn rn)
set_option maxHeartbeats 1000000 in
theorem jx_ctor {p : Program} {l : Launch} {e : Env} {R : Room} {s : State} {m₀ : MethodId} {args : Array Value} {below : List Frame} {meth : Method} {c : Code} {W : State} {locs : List Loc} {k1 k2 : Nat} (X : Stand p l e R s m₀ args below meth c W locs k1 k2) (hx : p.tables.exec = Jvm.exec) (hoff : e.platform.stackTraces = false)
    {ix : Nat} {rx : ByteArray} (x0 : decode rx 0 = .ok (.aload_n 0, 1)) (x1 : decode rx 1 = .ok (.aload_n 1, 1)) (x2 : decode rx 2 = .ok (.invokespecial ix, 3)) (x5 : decode rx 5 = .ok (.return_, 1)) {own cls : String} {Yn : String} {rn : List String} {ic : Nat}
    (hown : s.vm.findClass own = some m₀.cls) (hc : Bundle.fit cls = true) (hn : ∀ n ∈ Yn :: rn, Bundle.fit n = true) (h : ∀ w ∈ jOwnX own ic cls ix rx Yn rn, w.before args s = true)
    (hlocs : ∀ x ∈ locs, ∀ cell, s.heap[x.base]? = some cell → cell.vm.isStatics = false)
    {a : Addr} {cX : ClassId} {kX : Class} (f1 : s.vm.findClass cls = some cX) (f2 : s.vm.classes[cX]? = some kX) (hcell : W.heap[a]? = some (freshCell cX kX)) (hnew : s.heap.size ≤ a) {msg : Value} (hmsg : msg.isRef = true)
    {g : JFrame} (hg : g.method = m₀) (hsize : g.locals.size = c.maxLocals) (hl1 : g.locked = none) (hl2 : g.entered = []) {rest : List Value} (hstack : g.stack = msg :: .ref a :: .ref a :: rest)
    (d6 : decode c.code g.pc = .ok (.invokespecial ic, 3)) (d9 : decode c.code (g.pc + 3) = .ok (.athrow, 1)) (hout : ∀ x ∈ c.exceptionTable.toList, covers x (g.pc + 3) = false)
    (r1 : (Yn :: rn).length + 3 < R.frames) (r2 : 2 * g.monitorRoom + ((Value.ref a :: rest).map fun v => v.category).sum + (13 * ((Yn :: rn).length + 1) + 42) ≤ R.locals) (hlk : meth.locks = false) :
    ∃ U : State, Steps p.tables e below (W.setTop g) U ∧ U.status = .running ∧ Ended U below (.threw a) ∧ s.WarmedH U.vm ∧ s.sameButNew ({ U with vm := s.vm } : State) locs k1 k2 ∧ ∃ ce, U.heap[a]? = some ce ∧ s.vm.findClass cls = some ce.cls ∧ ce.vm = .none := by
  have pm : e.platform.magicAccessors = ({} : Platform).magicAccessors := by rw [X.admits.platform]
  have ok : ∀ {w : Cond}, w ∈ jOwnX own ic cls ix rx Yn rn → w.before args s = true := fun hw => h _ hw
  obtain ⟨T, Z0, L, L0, Y⟩ := ThrowableC.of_atoms (args := args) (by rw [X.admits.platform]) (by rw [X.admits.platform]) pm (fun w hw => ok (by simp [jOwnX, jWx, hw]))
  obtain ⟨Z, M, LZ, LM, hZ⟩ := Init0T.ofS_atoms (args := args) pm L Y (fun w hw => ok (by simp [jOwnX, jWx, hw]))
  obtain ⟨P1, L1, hm, hsu⟩ := PassC.ofS_atoms (args := args) (s := s) pm (X := cls) (Y := Yn) (Bundle.fit_spec hc).1 (Bundle.fit_spec (hn Yn List.mem_cons_self)).2 x0 x1 x2 x5 (fun w hw => ok (by simp [jOwnX, jWx, hw]))
  obtain ⟨P2, Ps2, hlen2, L2, hL2, hm2, hs3, hs4⟩ := Bundle.chainS (args := args) pm hZ rn Yn (hn Yn List.mem_cons_self) (fun n h9 => hn n (List.mem_cons_of_mem _ h9)) (fun w hw => ok (by simp [jOwnX, jWx, hw]))
  obtain ⟨Ps, hPs⟩ : ∃ Ps : List PassC, Ps = P2 :: Ps2 := ⟨_, rfl⟩
  have hlen : Ps.length = (Yn :: rn).length := by rw [hPs]; simp [hlen2]
  have hL : ∀ P, P ∈ Ps → P.LinksS e.platform s := by
    rw [hPs]; intro P hP
    rcases List.mem_cons.mp hP with rfl | hP
    · exact L2
    · exact hL2 P hP
  have hs1 : P1.sup = firstOf (Z.m T.toThrowableT) (Ps.map (·.toPassT)) := by rw [hPs]; exact Option.some.inj (hsu.symm.trans hm2)
  have hs2 : PassesOn (Z.m T.toThrowableT) (Ps.map (·.toPassT)) := by rw [hPs]; exact ⟨hs3, hs4⟩
  have hf : s.vm.findClass cls = some P1.m.cls := findClass_of_methodNamed hm
  cases Option.some.inj (f1.symm.trans hf)
  obtain ⟨c1, k1', q1, hk, hord, -⟩ := Cond.instantiable_spec (ok (w := .instantiable cls 6) (by simp [jOwnX, jWx]))
  cases Option.some.inj (q1.symm.trans hf)
  cases Option.some.inj (f2.symm.trans hk)
  have sel : ∀ {y : MethodName} {t : MethodId}, (Cond.selects cls y y).before args s = true → s.methodNamed? y = some t → s.methodFound? y.cls y.name y.desc = some t → selectMethod e.platform s.vm P1.m.cls t = .method t := by
    intro y t hw h1 h2
    obtain ⟨c2, r2, m2, q1, q2, q3, q4, -⟩ := Cond.selects_spec hw
    cases Option.some.inj (q1.symm.trans hf)
    cases Option.some.inj (q2.symm.trans h2)
    cases Option.some.inj (q3.symm.trans h1)
    rw [Launch.admits_selectMethod X.admits]; exact q4
  have s0 := sel (ok (by simp [jOwnX, jWx])) Y.fill0 (State.methodFound?_of_named Y.fill0 (by decide))
  have s1 := sel (ok (by simp [jOwnX, jWx])) Y.fill (State.methodFound?_of_named Y.fill (by decide))
  obtain ⟨cS, hS, hst⟩ := Y.statics
  obtain ⟨u0, hu⟩ := Cond.staticRefV Y.unassigned L.unassignedStatic L.statics hS hst (ok (by simp [jOwnX, jWx]))
  obtain ⟨v0, hv⟩ := Cond.staticRefV Y.sentinel L.sentinelStatic L.statics hS hst (ok (by simp [jOwnX, jWx]))
  obtain ⟨b1, b2, fB, g1, g2, g3, g4, -, nB, tB, fB2⟩ := Cond.ownField (t := .object "java/lang/Object") Y.found L.cls (by decide +kernel) (ok (w := .fieldLink Bundle.tN 198 Bundle.tN "backtrace" "Ljava/lang/Object;") (by simp [jOwnX, jWx])) (ok (w := .lays Bundle.tN Bundle.tN "backtrace" "Ljava/lang/Object;") (by simp [jOwnX, jWx])) e.platform pm
  obtain ⟨cW, hcW, heW, -, hkeep⟩ := X.same.2.2.2.2.2 T.aS cS hS
  have hcW : W.heap[T.aS]? = some cW := hcW
  have hnot : ∀ i, (⟨T.aS, i⟩ : Loc) ∉ locs := fun i hi => by
    have := hlocs _ hi cS hS
    rw [hst] at this; cases this
  have hknown : cW.vm ≠ .unknown := by
    rw [heW]; intro hu9
    rw [show cS.vm = .unknown from hu9] at hst
    cases hst
  have hne : T.aS ≠ a := Nat.ne_of_lt (Nat.lt_of_lt_of_le (Array.getElem?_eq_some_iff.mp hS).1 hnew)
  obtain ⟨iM, fM⟩ := Y.msg
  obtain ⟨tyC, dC, hC, nC⟩ := Cond.laysAt hf hk Y.cause (ok (by simp [jOwnX, jWx]))
  obtain ⟨tyS, dS, hS2, nS⟩ := Cond.laysAt hf hk Y.stack (ok (by simp [jOwnX, jWx]))
  obtain ⟨tyP, dP, hP, nP⟩ := Cond.laysAt hf hk Y.supp (ok (by simp [jOwnX, jWx]))
  obtain ⟨tyM, -⟩ := Cond.laysAt hf hk fM (ok (by simp [jOwnX, jWx]))
  obtain ⟨tyB, dB, hB, nB2⟩ := Cond.laysAt hf hk fB2 (ok (by simp [jOwnX, jWx]))
  have e1 := Cond.laysApart hB hC nB2 nC (by rw [nB, Y.causeName]; decide)
  have e2 := Cond.laysApart hB hS2 nB2 nS (by rw [nB, Y.stackName]; decide)
  have e3 := Cond.laysApart hB hP nB2 nP (by rw [nB, Y.suppName]; decide)
  have hskip : SkipFacts T e.platform s (fun u => u) u0 ((preparedCellV T.toThrowableT (freshCell P1.m.cls kX) a u0 v0).withEntry W.cur) := by
    refine ⟨{ ci198 := b1, i198 := b2, fBack := fB }, ⟨g1, g2, g3, g4⟩, ?_, fun _ _ => rfl⟩
    have h9 := fresh_default (c := P1.m.cls) tyB
    rw [tB] at h9
    simpa [preparedCellV, Cell.setSlot, Cell.withEntry, Array.getElem?_setIfInBounds, e1, e2, e3, e1.symm, e2.symm, e3.symm, defaultValue] using h9
  obtain ⟨tm, -, -, -, vm1, htm, -, -, -, -, -, -, -, hW1, go1⟩ := Steps.initColdS (tb := p.tables) (e := e) (below := below) (s := s) (U := W) X.here hx X.warmed pm hown (t := Bundle.initS cls) rfl rfl (Bundle.fit_spec hc).2
    (ok (w := .methodLink own ic (Bundle.initS cls)) (by simp [jOwnX, jWx])) (ok (w := .instanceMethod (Bundle.initS cls)) (by simp [jOwnX, jWx, Bundle.passSAtoms])) (bytes := rx) (maxL := 2) (ok (w := .code (Bundle.initS cls) rx 2 none) (by simp [jOwnX, jWx, Bundle.passSAtoms])) (f := g) hg (a := a) (msg := msg) (rest := .ref a :: rest) hstack d6
  cases Option.some.inj (htm.symm.trans hm)
  obtain ⟨vm2, X2, go2⟩ := (X.noted hW1).ctorMessageOffV hx (g := { g with stack := .ref a :: rest }) hg hsize T L Z LZ M LM (P1 :: Ps)
    (fun P hP => by rcases List.mem_cons.mp hP with rfl | hP; exact L1; exact hL P hP) ⟨hs1, hs2⟩ (u0 := u0) (sen := v0) (self := a) hmsg (cell := freshCell P1.m.cls kX) (cellS := cW)
    hcell (fun _ => by simp) (by simp) rfl rfl s0 s1 hcW hne hknown (by rw [hkeep _ (hnot _)]; exact hu) (by rw [hkeep _ (hnot _)]; exact hv)
    (Takes.of_laid hk hord tyC (by rw [Y.causeType]; rfl)) (Takes.of_laid hk hord tyS (by rw [Y.stackType]; exact fits_refV_array _ u0)) (Takes.of_laid hk hord tyP (by rw [Y.suppType]; exact fits_refV_object _ v0))
    (Takes.of_laid hk hord tyM (by rw [Y.msgType]; exact fits_refV_object _ ⟨msg, hmsg⟩)) Y.objLocals hskip hoff [] d6 (by simp only [List.length_cons, hlen]; omega) (by simp only [List.length_cons, hlen]; exact r2)
  obtain ⟨w1, w2, w3, w4, w5⟩ := X2.athrowLeaves hx (g := { g with stack := .ref a :: rest, pc := g.pc + 3 }) hg hl1 hl2 hout (a := a) (rest := rest) rfl d9
  have hlt : a < ((W.setVm vm1).setVm vm2).heap.size := (Array.getElem?_eq_some_iff.mp hcell).1
  refine ⟨_, go1 _ (fun acts => by rw [doInvoke_state]; exact go2 _ w1), w2, w3, w4, w5.weaken (fun y hy hy2 => ?_) (Nat.le_refl _) (Nat.le_refl _), _, heapAt_setCell_self (s := (W.setVm vm1).setVm vm2) (plainBareV T.toThrowableT (freshCell P1.m.cls kX) a u0 v0 msg) hlt, hf, rfl⟩
  rcases List.mem_append.mp hy with h1 | h1
  · exact h1
  · exfalso
    have hb : y.base = a := by
      simp only [List.mem_cons, List.not_mem_nil, or_false] at h1
      rcases h1 with rfl | rfl | rfl | rfl | rfl <;> rfl
    rw [hb] at hy2
    exact Nat.not_lt.mpr hnew hy2
section JX4
variable {b : Nat} {D : va_G} {Y : Nat → ClassId} {s0 : State} {p : Program} {l : Launch} {e : Env} {R : Room} {s : State} {m : MethodId} {args : Array Value} {below : List Frame} {meth : Method} {c : Code} {own : String} {cc : ByteArray} {nL : Nat} {ret : Option FieldType} {nm : String} {Q : State → Prop} {pc : Nat} {lv : List (Nat × Value)} {st : List Value} {h : jH} {n k sl : Nat}
theorem j_throwX {ik is ic ix : Nat} {rx : ByteArray} (x0 : decode rx 0 = .ok (.aload_n 0, 1)) (x1 : decode rx 1 = .ok (.aload_n 1, 1)) (x2 : decode rx 2 = .ok (.invokespecial ix, 3)) (x5 : decode rx 5 = .ok (.return_, 1)) {E tx : String} {Yn : String} {rn : List String} {Post : jH → Nat → Prop} (hlt : l.stackTraces = false) (hnl : c.exceptionTable.toList = []) (hat : ∀ w ∈ jOwnX own ic E ix rx Yn rn, jG w ∨ w ∈ jBad E (Yn :: rn)) (hX : Cond.castable E E ∈ lw_tbl) (hdc : ∀ n ∈ (Yn :: rn) ++ [Bundle.tN], Cond.declares (Bundle.initS n) ∈ lw_tbl)
    (hE : Bundle.fit E = true) (hnm : ∀ n ∈ (Yn :: rn), Bundle.fit n = true) (hw1 : jG (.classLink own ik E)) (hw2 : jG (.instantiable E 6)) (hw3 : jG (.initialized E)) (hsr : Cond.stringRef own is tx ∈ lw_tbl) (hsx : Cond.exactly (.string own is) "java/lang/String" ∈ flatC (Jvm.Cond.and given_1 narrow_1))
    (d0 : decode cc pc = .ok (.new ik, 3)) (d3 : decode cc (pc + 3) = .ok (.dup, 1)) (d4 : decode cc (pc + 4) = .ok (.ldc is, 2)) (d6 : decode cc (pc + 6) = .ok (.invokespecial ic, 3)) (d9 : decode cc (pc + 9) = .ok (.athrow, 1))
    (hfr : (Yn :: rn).length + 3 < R.frames) (hlo : (st.map fun v => v.category).sum + 1 + (13 * ((Yn :: rn).length + 1) + 42) ≤ R.locals) (hk : k + 1 ≤ R.cells) (hs : sl + 6 ≤ R.slots) (hp : Post h (n + 1)) :
    jW b D Y s0 p l e R s m args below meth c own cc nL ret nm (jXM below D s0 E Post args s (k + 1) (sl + 6)) pc lv st h n k sl := by
  intro C H locs ls hR hS hl T hT X
  have XB := jBase_stand X hk hs
  have hVB : jV s0 (jBase s T m args below) := by
    refine ⟨C.v.1, ?_, fun q hq => ?_, ?_⟩
    · show s0.heap.size ≤ T.heap.size
      rw [hT]; exact Nat.le_trans C.v.2.1 hS.1
    · show T.heap[q]? = _
      rw [hT, hS.2.1 q (Nat.lt_of_lt_of_le hq C.v.2.1) (Nat.not_le.mpr hq)]; exact C.v.2.2.1 q hq
    · show jN s0 T.heap
      rw [hT]; exact hR.2.2
  obtain ⟨q, hq⟩ := hVB.str C.z hsr hsx
  have hw : ∀ {w : Cond}, jG w → w.before args (jBase s T m args below) = true := fun g => hVB.word C.z g
  have hBv : (jBase s T m args below).vm = s.vm := rfl
  have hBh : (jBase s T m args below).heap = T.heap := rfl
  have K : W p l e { R with cells := 1, slots := 6 } (jBase s T m args below) m args below meth c H [] 0 0 (jXM below D s0 E Post args (jBase s T m args below) 1 6) (F0 m pc ls st) := by
    generalize jBase s T m args below = B at hVB hq hw hBv hBh
    obtain ⟨R2, hR2⟩ : ∃ R2 : Room, R2 = { R with cells := 1, slots := 6 } := ⟨_, rfl⟩
    rw [← hR2]
    have c1 : R2.cells = 1 := by rw [hR2]
    have c2 : R2.slots = 6 := by rw [hR2]
    have c3 : R2.frames = R.frames := by rw [hR2]
    have c4 : R2.locals = R.locals := by rw [hR2]
    have hown : B.vm.findClass own = some m.cls := by rw [hBv]; exact C.ow
    refine W.newc C.ex C.by hown (hw hw1) (hw hw2) (hw hw3) rfl d0 (by rw [c1]; exact Nat.le_refl 1) (by rw [c2]; exact Nat.le_refl 6) fun cX kX f1 f2 f3 f4 => ?_
    refine lv_dup C.ex C.by d3 rfl ?_
    refine va_ldcS C.ex C.by hown hq d4 ?_
    intro T2 hT2 X2
    have htr : e.platform.stackTraces = false := by
      have h9 := X.admits.platform
      rw [h9]; exact hlt
    have hcell : T2.heap[H.size]? = some (freshCell cX kX) := by rw [hT2]; simp
    have hge : B.heap.size ≤ H.size := by rw [hBh, hT]; exact Nat.le_refl _
    obtain ⟨U, st1, hrun, hend, hW, hsm, ce, hce, OCc, OCv⟩ := jx_ctor X2 C.ex htr x0 x1 x2 x5 (own := own) (cls := E) (Yn := Yn) (rn := rn) (ic := ic) hown hE hnm (fun w hw2 => (hat w hw2).elim (fun g => hw g) (fun g => hVB.bad C.z hX hdc w g))
      (fun x hx => by cases hx) f1 f2 hcell hge (msg := .ref q) rfl (g := F0 m (pc + 6) ls (.ref q :: .ref H.size :: .ref H.size :: st)) rfl (by rw [C.ml]; exact hl.1) rfl rfl (rest := st) rfl (by rw [C.by]; exact d6) (by rw [C.by]; exact d9) (by rw [hnl]; exact fun x hx => by cases hx) (by rw [c3]; exact hfr)
      (by rw [List.map_cons, List.sum_cons, c4]; show 2 * 0 + (1 + _) + _ ≤ R.locals; omega) C.lk
    obtain ⟨-, z2, z3, -, -, z6⟩ := id hsm
    have hold : ∀ (a : Nat), a < H.size → U.heap[a]? = H[a]? := by
      intro a ha
      have hca : H[a]? = some H[a] := Array.getElem?_eq_getElem ha
      obtain ⟨c2, g1, g2, g3, g4⟩ := z6 a H[a] (by rw [hBh, hT]; exact hca)
      have g1 : U.heap[a]? = some c2 := g1
      rw [g1, hca]
      have hsl : c2.slots = H[a].slots := by
        apply Array.ext_getElem?
        intro i
        exact g4 i (by simp)
      rw [g2, hsl]
    have hz : U.heap.size = n + 1 := by
      have h1 : U.heap.size ≤ B.heap.size + (0 + 1) := z3
      have h2 := (Array.getElem?_eq_some_iff.mp hce).1
      rw [hBh, hT, hR.1] at h1
      rw [hR.1] at h2
      omega
    refine ⟨U, st1, .threw H.size, hrun, hend, H.size, ce, h, n + 1, [], rfl, hce, OCv, OCc, hp, ⟨hz, fun a x hx => ?_, fun a x ha hx => ?_⟩, ⟨z2, fun a ha _ => ?_⟩, hW, hsm, fun _ h => by cases h⟩
    · exact ⟨(hR.2.1 a x hx).1.kept (hold a (hR.2.1 a x hx).1.lt), (hR.2.1 a x hx).2⟩
    · by_cases e9 : a = H.size
      · subst e9
        rw [hce] at hx
        cases hx
        rw [OCv]; rfl
      · have h2 := (Array.getElem?_eq_some_iff.mp hx).1
        rw [hz, ← hR.1] at h2
        rw [hold a (by omega)] at hx
        exact hR.2.2 a x ha hx
    · rw [hBh, hT] at ha
      rw [hBh, hT]; exact hold a ha
  obtain ⟨U, st1, o, hrun, hend, q1, ce, h2, n2, L, ho, hce, hv, hcl, hp2, hR2, hF2, hW2, hsm2, hL2⟩ := K T hT XB
  have hTz : s.heap.size ≤ T.heap.size := by rw [hT]; exact hS.1
  refine ⟨U, st1, o, hrun, hend, q1, ce, h2, n2, locs ++ L, ho, hce, hv, hcl, hp2, hR2, ⟨Nat.le_trans hTz hF2.1, fun a ha hA => ?_⟩, hW2, ?_, fun z hz => ?_⟩
  · have h5 : U.heap[a]? = T.heap[a]? := hF2.2 a (Nat.lt_of_lt_of_le ha hTz) hA
    rw [h5, hT]; exact hS.2.1 a ha hA
  · have h6 : (T.setVm s.vm).sameButNew ({ U with vm := s.vm } : State) L 1 6 := by
      obtain ⟨z1, z2⟩ := hsm2
      refine ⟨?_, z2⟩
      have z1 : ({ U with vm := s.vm } : State) = { ((T.setVm s.vm).setFrames (.invoking m args :: below)).setFrames U.frames with heap := U.heap, slotsUsed := U.slotsUsed } := z1
      rw [State.setFrames_setFrames] at z1
      exact z1
    exact X.same.trans h6
  · rcases List.mem_append.mp hz with h1 | h1
    · exact hS.2.2 z h1
    · exact hL2 z h1
end JX4
