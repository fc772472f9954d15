/-- what a method that throws leaves: an object of class E is thrown -/
def jXQ (D : va_G) (s0 : State) (E : String) (Post : jH → Nat → Prop) (mc ms : Nat) : Array Value → State → Outcome → State → Prop := fun _ st o t =>
  ∃ (q : Addr) (ce : Cell) (h2 : jH) (n2 : Nat) (L : List Loc), o = .threw q ∧ t.heap[q]? = some ce ∧ ce.vm = .none ∧ st.vm.findClass E = some ce.cls ∧ Post h2 n2 ∧ jR s0 D h2 n2 t.heap ∧ va_F (jA s0) st t ∧ st.WarmedH t.vm ∧ st.sameButNew ({ t with vm := st.vm } : State) L mc ms ∧ ∀ z ∈ L, jA s0 z.base
def jMetX (l : Launch) (D : va_G) (s0 : State) (y : MethodName) (cc : ByteArray) (maxL : Nat) (ret : Option FieldType) (fr : Nat) (av : List Value) (h : jH) (n mc ms : Nat) (E : String) (Post : jH → Nat → Prop) : Prop :=
  MetFree l y (headSpec [.code y cc maxL ret] (jrm fr mc ms)) (jPre D s0 av h n) (fun _ _ _ _ _ => True) (jXQ D s0 E Post mc ms)
def jXM (below : List Frame) (D : va_G) (s0 : State) (E : String) (Post : jH → Nat → Prop) (args : Array Value) (s : State) (mc ms : Nat) : State → Prop := fun t => ∃ o, t.status = .running ∧ Ended t below o ∧ jXQ D s0 E Post mc ms args s o t
section JX2
variable {b : Nat} {D : va_G} {Y : Nat → ClassId} {s0 : State} {p : Program} {l : Launch} {e : Env} {R : Room} {s : State} {m : MethodId} {args : Array Value} {below : List Frame} {meth : Method} {c : Code} {own : String} {cc : ByteArray} {nL : Nat} {ret : Option FieldType} {nm : String} {Q : State → Prop} {pc : Nat} {lv : List (Nat × Value)} {st : List Value} {h : jH} {n k sl : Nat}
theorem jMetX_of {y : MethodName} {cy : ByteArray} {maxL fr mc ms : Nat} {rt : Option FieldType} {av : List Value} {E : String} {Post : jH → Nat → Prop} (Z : jS0 b D Y s0) (hy : plainName y.cls = true) (hlen : (lg_sl av).length ≤ maxL)
    (body : ∀ (p : Program) (e : Env) (s : State) (m : MethodId) (below : List Frame) (meth : Method) (c : Code), c.exceptionTable.toList = [] → jW b D Y s0 p l e (jrm fr mc ms) s m av.toArray below meth c y.cls cy maxL rt y.name (jXM below D s0 E Post av.toArray s mc ms) 0 (lv_args 0 av) [] h n 0 0) : jMetX l D s0 y cy maxL rt fr av h n mc ms E Post := by
  refine MetFree.of_bodyS (code := cy) (maxLocals := maxL) (ret := rt) hy ?_ ?_
  · intro args s m h hn
    obtain ⟨meth, c, h1, h2, h3, h4, h5, h6, -, -⟩ := Cond.code_spec hn (atoms_spec (ws := [Cond.code y cy maxL rt]) h _ List.mem_cons_self)
    exact ⟨meth, c, h1, h2, h3, h4, h5, h6⟩
  · intro p e s m args below meth c s₁ B hml hv _
    obtain ⟨rfl, hV, hR⟩ := hv
    have hown : s.vm.findClass y.cls = some m.cls := findClass_of_methodNamed B.named
    have hnh := B.noHandlers (atoms_spec (ws := [Cond.code y cy maxL rt]) B.pre _ List.mem_cons_self)
    have hnl : c.exceptionTable.toList = [] := List.eq_nil_of_length_eq_zero (by simpa [Array.isEmpty] using hnh)
    have hh0 : s₁.heap = s.heap := by rw [B.state]; rfl
    have K := body p e s m below meth c hnl ⟨B.exec, B.bytes, hml, B.returns, hown, B.notSynchronized, (name_of_methodNamed B.named B.method).1, Z, hV⟩ s.heap [] _ hR va_S.rf (lv_entry av hlen)
    rw [← lg_entry_eq] at K
    obtain ⟨t, a1, o, b1, b2, b3⟩ := K s₁ hh0 (Stand.of_body B)
    exact ⟨t, o, a1, b1, b2, b3⟩
/-- a callee that throws: the note lies over the caller's frame -/
theorem jx_thrown {y : MethodName} {cy : ByteArray} {maxL fr mc ms : Nat} {rt : Option FieldType} {av : List Value} {E : String} {Post : jH → Nat → Prop} (M : jMetX l D s0 y cy maxL rt fr av h n mc ms E Post) {U : State} {locs : List Loc} (X : Stand p l e R s m args below meth c U locs k sl)
    (hw : (Cond.code y cy maxL rt).before av.toArray U = true) (hini : (Cond.initialized y.cls).before av.toArray U = true) (hpre : jPre D s0 av h n av.toArray U) (hfr : fr + 1 ≤ R.frames ∧ 8 + (maxL + 11) + 42 * fr ≤ R.locals) (hcs : k + mc ≤ R.cells ∧ sl + ms ≤ R.slots)
    {g : JFrame} (hg : g.method = m) (hsize : g.locals.size = c.maxLocals) (hst : 2 * g.monitorRoom + (g.stack.map fun v => v.category).sum ≤ 8) {ig : Instr} {len : Nat} (hdg : decode c.code g.pc = .ok (ig, len)) {mk : MethodId} (hn : U.methodNamed? y = some mk) :
    ∃ (q : Addr) (ce : Cell) (h2 : jH) (n2 : Nat) (U2 : State) (L : List Loc), Stand p l e R s m args below meth c U2 (locs ++ L) (k + mc) (sl + ms) ∧ U2.heap[q]? = some ce ∧ ce.vm = .none ∧ s.vm.findClass E = some ce.cls ∧ Post h2 n2 ∧ jR s0 D h2 n2 U2.heap ∧ va_F (jA s0) U U2 ∧ (∀ z ∈ L, jA s0 z.base) ∧
      Steps p.tables e below (doInvoke e (U.setTop g) [] mk av.toArray).1 ((U2.setTop g).pushFrame (.throwing q)) := by
  obtain ⟨methY, cY, hmY, hcY, -, hlY, -⟩ := Cond.code_spec hn hw
  obtain ⟨kY, hkY, -⟩ := className_of_methodNamed hn
  have hinitY : kY.init = .initialized := Cond.initialized_spec (findClass_of_methodNamed hn) hkY hini
  have hA : At U g.method c below := by rw [hg]; exact X.here
  have happ : (headSpec [.code y cy maxL rt] (jrm fr mc ms)).appliesLoose y e.platform (U.calling g mk av.toArray) = true :=
    Spec.appliesLoose_calling (g := g) hA hdg hn hkY hinitY
      (X.room_calling (g := g) (R' := jrm fr mc ms) hsize hmY hcY hfr.1 (by rw [hlY]; show _ + 42 * fr ≤ _; omega) hcs.1 hcs.2) (atoms_intro (fun w hw2 => by rw [List.mem_singleton.mp hw2]; exact hw))
  obtain ⟨mid, hmid⟩ := hA.above
  have hfrm : (U.setTop g).frames = (.java g :: mid) ++ below := by rw [State.frames_setTop' g hA.top, hmid]; rfl
  obtain ⟨o, s₂, hsteps, -, hend, hq⟩ := Steps.callFree M p X.admits X.cas X.clock (acts := []) hfrm happ (jPre_blind _ _ _ _ hpre) trivial
  rw [State.frames_setTop' g hA.top] at hend
  have hq2 : jXQ D s0 E Post mc ms av.toArray (U.calling g mk av.toArray) o s₂ := hq
  obtain ⟨q, ce, h2, n2, L, rfl, hce, hv, hcl, hp, hR2, hF, hW2, hsm, hL⟩ := hq2
  obtain ⟨e2, q2, q3, q4, q5, q6⟩ := id hsm
  have hWU : U.WarmedH s₂.vm := hW2
  have hf2 : s₂.frames = .throwing q :: .java g :: U.frames.tail := hend
  have e3 : s₂ = ({ (U.calling g mk av.toArray).setFrames s₂.frames with heap := s₂.heap, slotsUsed := s₂.slotsUsed } : State).setVm s₂.vm := by
    have : s₂ = ({ s₂ with vm := (U.calling g mk av.toArray).vm } : State).setVm s₂.vm := rfl
    rw [e2] at this
    exact this
  obtain ⟨g₀, hg0⟩ := Option.isSome_iff_exists.mp hA.top
  obtain ⟨r, hr⟩ := State.topJava?_eq_some.mp hg0
  have hs₂ : s₂ = ((({ U with heap := s₂.heap, slotsUsed := s₂.slotsUsed } : State).setVm s₂.vm).setTop g).pushFrame (.throwing q) := by
    have hr2 : (({ U with heap := s₂.heap, slotsUsed := s₂.slotsUsed } : State).setVm s₂.vm).frames = .java g₀ :: r := hr
    refine e3.trans ?_
    rw [hf2, State.calling_eq hA.top, State.setFrames_setFrames, State.pushFrame, State.frames_setTop _ hr2, State.setTop_of_frames _ hr2, State.setFrames_setFrames, hr]
    rfl
  have hsame : U.sameButNew ({ U with heap := s₂.heap, slotsUsed := s₂.slotsUsed } : State) L mc ms := by
    refine ⟨?_, q2, q3, q4, q5, q6⟩
    obtain ⟨t, ht, -⟩ := State.frames_cons hr
    show ({ U with heap := s₂.heap, slotsUsed := s₂.slotsUsed } : State) = { U.setFrames U.frames with heap := s₂.heap, slotsUsed := s₂.slotsUsed }
    rw [State.setFrames_self ht]
  subst hg
  refine ⟨q, ce, h2, n2, ({ U with heap := s₂.heap, slotsUsed := s₂.slotsUsed } : State).setVm s₂.vm, L, ⟨X.admits, X.cas, X.clock, X.frames, X.room, X.hears, X.method, X.code, (X.here.setHeapUsed s₂.heap s₂.slotsUsed).setVm hWU.alike, X.tail, State.WarmedH.trans X.warmed hWU, X.limits, X.bytes, X.same.trans (hsame.setVm s.vm)⟩,
    hce, hv, ?_, hp, hR2, hF, hL, ?_⟩
  · have h9 : U.vm.findClass E = some ce.cls := hcl
    rw [X.warmed.alike.findClass] at h9; exact h9
  · rw [← hs₂]; exact hsteps
end JX2
