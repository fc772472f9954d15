/-- a method with a table of handlers -/
def jMetW (l : Launch) (D : va_G) (s0 : State) (y : MethodName) (cc : ByteArray) (maxL : Nat) (ret : Option FieldType) (hh : List (Nat × Nat × Nat × Nat)) (fr : Nat) (av : List Value) (h : jH) (n mc ms : Nat) (Post : Option Value → jH → Nat → Prop) : Prop :=
  Met l y [.codeWith y cc maxL ret hh] (jrm fr mc ms) (jPre D s0 av h n) (jPost D s0 Post) mc ms (jA s0)
section JM1
variable {b : Nat} {D : va_G} {Y : Nat → ClassId} {s0 : State} {p : Program} {l : Launch} {e : Env} {R : Room} {s : State} {m : MethodId} {args : Array Value} {below : List Frame} {meth : Method} {c : Code} {own : String} {cc : ByteArray} {nL : Nat} {ret : Option FieldType} {nm : String} {Q : State → Prop} {pc : Nat} {lv : List (Nat × Value)} {st : List Value} {h : jH} {n k sl : Nat}
theorem jMetW_of {y : MethodName} {cy : ByteArray} {maxL fr mc ms : Nat} {rt : Option FieldType} {hh : List (Nat × Nat × Nat × Nat)} {av : List Value} {Post : Option Value → jH → Nat → Prop} (Z : jS0 b D Y s0) (hy : plainName y.cls = true) (hlen : (lg_sl av).length ≤ maxL)
    (body : ∀ (p : Program) (e : Env) (s : State) (m : MethodId) (below : List Frame) (meth : Method) (c : Code), c.exceptionTable.toList.map (fun h => (h.startPc, h.endPc, h.handlerPc, h.catchType)) = hh → jW b D Y s0 p l e (jrm fr mc ms) s m av.toArray below meth c y.cls cy maxL rt y.name (MQ below (jPost D s0 Post) av.toArray s mc ms (jA s0)) 0 (lv_args 0 av) [] h n 0 0) : jMetW l D s0 y cy maxL rt hh fr av h n mc ms Post := by
  refine va_MetW (cc := cy) (maxL := maxL) (ret := rt) (hh := hh) hy rfl ?_
  intro p e s m args below meth c s₁ B hml hv
  obtain ⟨rfl, hV, hR⟩ := hv
  have hown : s.vm.findClass y.cls = some m.cls := findClass_of_methodNamed B.named
  obtain ⟨m9, meth9, c9, g1, g2, g3, -, -, g6, -⟩ := Cond.codeWith_spec (atoms_spec (ws := [Cond.codeWith y cy maxL rt hh]) B.pre _ List.mem_cons_self)
  cases B.named.symm.trans g1
  cases B.method.symm.trans g2
  cases (Stand.of_body B).code.symm.trans g3
  rw [lg_entry_eq]
  exact body p e s m below meth c g6 ⟨B.exec, B.bytes, hml, B.returns, hown, B.notSynchronized, (name_of_methodNamed B.named B.method).1, Z, hV⟩ s.heap [] _ hR va_S.rf (lv_entry av hlen)
def jCalleeW (own : String) (idx : Nat) (y : MethodName) (cy : ByteArray) (maxL : Nat) (rt : Option FieldType) (hh : List (Nat × Nat × Nat × Nat)) (fr np : Nat) (R : Room) : Prop := (fr + 1 ≤ R.frames ∧ 8 + (maxL + 11) + 42 * fr ≤ R.locals) ∧ jG (.methodLink own idx y) ∧ jG (.codeWith y cy maxL rt hh) ∧ jG (.initialized y.cls) ∧ (y.cls ≠ "java/lang/invoke/MethodHandle" ∧ y.cls ≠ "java/lang/invoke/VarHandle" ∧ (parseMethodDescriptor y.desc).map (fun d => d.parameters.length) = some np)
theorem j_callSW {y : MethodName} {cy : ByteArray} {maxL fr mc ms idx : Nat} {rt : Option FieldType} {hh : List (Nat × Nat × Nat × Nat)} {av : List Value} {Post : Option Value → jH → Nat → Prop} (M : jMetW l D s0 y cy maxL rt hh fr av h n mc ms Post) (hy : jCalleeW own idx y cy maxL rt hh fr av.length R) (hw2 : jG (.static y)) (hcs : k + mc ≤ R.cells ∧ sl + ms ≤ R.slots) (hst : (st.map fun v => v.category).sum ≤ 8) (hd : decode cc pc = .ok (.invokestatic idx, 3)) (kk : ∀ (r : Option Value) (h2 : jH) (n2 : Nat), Post r h2 n2 → jW b D Y s0 p l e R s m args below meth c own cc nL ret nm Q (pc + 3) lv (r.toList ++ st) h2 n2 (k + mc) (sl + ms)) : jW b D Y s0 p l e R s m args below meth c own cc nL ret nm Q pc lv (av.reverse ++ st) h n k sl := by
  refine j_goes (a9 := av.toArray) (mc := mc) (ms := ms) (fun H locs ls C hR hS hl => ?_) kk
  obtain ⟨hfr, hw1, hw5, hw4, hdd⟩ := hy
  have hK : Back l R p e below s args y 3 8 (PreOf R mc ms (jPre D s0 av h n)) (PostOf (jPost D s0 Post) mc ms (jA s0)) :=
    va_backW (bytes := cy) (maxL := maxL) (ret := rt) (hh := hh) M jPre_blind rfl rfl hfr.1 hfr.2 (fun w hw a2 U hW => by rw [List.mem_singleton.mp hw]; exact word_at hW (good_of_word hw5.2) (C.w hw5)) List.mem_cons_self (fun a2 U hW => word_at hW (good_of_word hw4.2) (C.w hw4))
  obtain ⟨mk, methM, cM, hnamed, hmethM, -, -, -, -, -, -, hsigM⟩ := Cond.codeWith_spec (C.w hw5)
  intro T hT X
  obtain ⟨v, vm₁, B, hW1, X1, hpost, hsteps⟩ : ∃ (v : Option Value) (vm₁ : Vm) (B : Pt), s.WarmedH vm₁ ∧ Stand p l e R s m args below meth c B.U B.locs B.cells B.slots ∧ (PostOf (jPost D s0 Post) mc ms (jA s0)) ⟨T.setVm vm₁, locs, k, sl⟩ av.toArray v B ∧
      ∀ target, Steps p.tables e below (B.U.setTop (F0 m (pc + 3) ls (v.toList ++ st))) target → Steps p.tables e below (T.setTop (F0 m pc ls (av.reverse ++ st))) target := by
    have hstatic : methM.isStatic = true := Cond.static_spec hnamed hmethM (C.w hw2)
    obtain ⟨kP, hkP, -⟩ := className_of_methodNamed hnamed
    have hinitP : kP.init = .initialized := Cond.initialized_spec (findClass_of_methodNamed hnamed) hkP (C.w hw4)
    have hlen2 : av.length = methM.sig.parameters.length := by
      have h3 := hdd.2.2
      rw [hsigM] at h3
      exact (Option.some.inj h3).symm
    obtain ⟨vm₁, X₁, hstep₁⟩ := X.invokestatic C.ex C.ow (C.w hw1) hnamed hmethM hstatic hkP hinitP ⟨hdd.1, hdd.2.1⟩ (g := F0 m pc ls (av.reverse ++ st)) rfl (argsL := av) (rest := st) hlen2 rfl (by rw [C.by]; exact hd)
    obtain ⟨v, B, X2, hpost, hsteps⟩ := hK m meth c ⟨T.setVm vm₁, locs, k, sl⟩ (F0 m pc ls st) (.invokestatic idx) mk av.toArray X₁ rfl (by rw [C.ml]; exact hl.1) (by rw [C.by]; exact hd) (lv_room hst) (X₁.named hnamed) ⟨hcs.1, hcs.2, jPre_at C hR hS hT X₁.warmed⟩
    exact ⟨v, vm₁, B, X₁.warmed, X2, hpost, fun target ht => hstep₁ _ fun acts => by rw [doInvoke_state]; exact hsteps.trans ht⟩
  obtain ⟨U1, l2, c2, s2⟩ := B
  obtain ⟨g1, mk1, t, L, e1, e2, hq, h1, hL, h2, h3⟩ := hpost
  dsimp only [Pt.U, Pt.locs, Pt.cells, Pt.slots] at X1 e1 e2 h1 h2 h3 hsteps
  subst h1; subst h2; subst h3
  exact ⟨v, (T.setVm vm₁).calling g1 mk1 av.toArray, t, U1, L, hT, X1, hL, e1, hq, hsteps⟩
/-- a static private method of a nest mate -/
theorem j_callSN {y : MethodName} {cy : ByteArray} {maxL fr mc ms idx : Nat} {rt : Option FieldType} {host : String} {av : List Value} {Post : Option Value → jH → Nat → Prop} (M : jMet l D s0 y cy maxL rt fr av h n mc ms Post) (hfr : fr + 1 ≤ R.frames ∧ 8 + (maxL + 11) + 42 * fr ≤ R.locals) (hw1 : Cond.methodLinkNest own idx y host ∈ lw_tbl) (hw5 : jG (.code y cy maxL rt)) (hw4 : jG (.initialized y.cls)) (hdd : y.cls ≠ "java/lang/invoke/MethodHandle" ∧ y.cls ≠ "java/lang/invoke/VarHandle" ∧ (parseMethodDescriptor y.desc).map (fun d => d.parameters.length) = some av.length) (hw2 : jG (.static y)) (hcs : k + mc ≤ R.cells ∧ sl + ms ≤ R.slots) (hst : (st.map fun v => v.category).sum ≤ 8) (hd : decode cc pc = .ok (.invokestatic idx, 3)) (kk : ∀ (r : Option Value) (h2 : jH) (n2 : Nat), Post r h2 n2 → jW b D Y s0 p l e R s m args below meth c own cc nL ret nm Q (pc + 3) lv (r.toList ++ st) h2 n2 (k + mc) (sl + ms)) : jW b D Y s0 p l e R s m args below meth c own cc nL ret nm Q pc lv (av.reverse ++ st) h n k sl := by
  refine j_goes (a9 := av.toArray) (mc := mc) (ms := ms) (fun H locs ls C hR hS hl => ?_) kk
  have hG : ∀ w ∈ [Cond.code y cy maxL rt], jG w := by
    intro w hw
    rw [List.mem_singleton.mp hw]; exact hw5
  obtain ⟨g1, g2⟩ := jG_all hG C
  have hN : va_Nw (.methodLinkNest own idx y host) s := va_Nw.warmM C.v.1 (va_Nw.of rfl (C.z.1 _ hw1))
  exact (va_runSN (As := av) (rest := st) ⟨C.ex, C.by, C.ml, C.ow, g1⟩ M ⟨va_cnB av.length g1 g2 rfl rfl rfl hN (C.w hw4) hdd hfr, C.w hw2, trivial⟩ ⟨jPre_blind, fun U hU hW => jPre_at C hR hS hU hW⟩ rfl rfl hl.1 rfl (lv_room hst) hd hcs).run
/-- a callee that throws, its throw caught by the first row of this method's table -/
theorem j_callVX {y : MethodName} {cy : ByteArray} {maxL fr mc ms idx a ci : Nat} {rt : Option FieldType} {av : List Value} {E : String} {Post : jH → Nat → Prop} {T : u_T} {N : Nat} {fs : List Value} {x : ExceptionTableEntry} {rest : List ExceptionTableEntry} (M : jMetX l D s0 y cy maxL rt fr (.ref a :: av) h n mc ms E Post) (hy : jCallee own idx y cy maxL rt fr av.length R) (hw2 : jG (.instanceMethod y)) (hw3 : jG (.selects y.cls y y)) (hc : vcl[ci]? = some (y.cls, T, N)) (he : h a = some (.inr (ci, fs))) (hcs : k + mc ≤ R.cells ∧ sl + ms ≤ R.slots) (hst : (st.map fun v => v.category).sum ≤ 8) (hd : decode cc pc = .ok (.invokevirtual idx, 3))
    (hx : c.exceptionTable.toList = x :: rest) (hcv : covers x pc = true) (h0 : x.catchType ≠ 0) (hwc : jG (.classLink own x.catchType E)) (kk : ∀ (q : Nat) (h2 : jH) (n2 : Nat), Post h2 n2 → jW b D Y s0 p l e R s m args below meth c own cc nL ret nm Q x.handlerPc lv [.ref q] h2 n2 (k + mc) (sl + ms)) : jW b D Y s0 p l e R s m args below meth c own cc nL ret nm Q pc lv (av.reverse ++ .ref a :: st) h n k sl := by
  intro C H locs ls hR hS hl T2 hT X
  obtain ⟨hfr, hw1, hw5, hw4, hdd⟩ := hy
  obtain ⟨cellB, g1, g2, g3⟩ := va_recv C.K (hR.P he) hc (q0 := 0) rfl
  obtain ⟨mk, methM, hnamed, hmethM, hstM, habM⟩ := Cond.instanceMethod_spec (C.w hw2)
  obtain ⟨methM2, cM, hmethM2, -, -, -, -, -, -, hsigM⟩ := Cond.code_spec hnamed (C.w hw5)
  cases hmethM.symm.trans hmethM2
  obtain ⟨c2, r2, m2, q1, q2, q3, q4, kP, hkP, hkPi⟩ := Cond.selects_spec (C.w hw3)
  cases g3.symm.trans q1
  cases (State.methodFound?_of_named hnamed ⟨hdd.1, hdd.2.1⟩).symm.trans q2
  cases hnamed.symm.trans q3
  have hselP : selectMethod e.platform s.vm cellB.cls mk = .method mk := by rw [Launch.admits_selectMethod X.admits]; exact q4
  have hlen2 : av.length = methM.sig.parameters.length := by
    have h3 := hdd.2.2
    rw [hsigM] at h3
    exact (Option.some.inj h3).symm
  obtain ⟨vm₁, X₁, hstep₁⟩ := X.invokevirtual C.ex C.ow (C.w hw1) hnamed hmethM hstM hkP hkPi ⟨hdd.1, hdd.2.1⟩ (a := a) (cell := cellB) (by rw [hT]; exact g1)
    (fun z h => by rw [h] at g2; cases g2) hselP hmethM habM hkP hkPi (g := F0 m pc ls (av.reverse ++ .ref a :: st)) rfl (argsL := av) (rest := st) hlen2 rfl (by rw [C.by]; exact hd)
  have hP : jPre D s0 (.ref a :: av) h n (Value.ref a :: av).toArray (T2.setVm vm₁) := jPre_at C hR hS hT X₁.warmed
  obtain ⟨q, ce, h2, n2, U2, L, X2, hce, hv, hcl, hp, hR2, hF, hL, hst2⟩ := jx_thrown M X₁ (word_at X₁.warmed (good_of_word hw5.2) (C.w hw5)) (word_at X₁.warmed (good_of_word hw4.2) (C.w hw4)) hP hfr hcs (g := F0 m pc ls st) rfl (by rw [C.ml]; exact hl.1) (lv_room hst) (by rw [C.by]; exact hd) (X₁.named hnamed)
  obtain ⟨vm2, X3, hst3⟩ := jx_caught X2 C.ow (g := F0 m pc ls st) rfl hce hv hcl hx hcv h0 (C.w hwc)
  obtain ⟨t, a1, b1⟩ := kk q h2 n2 hp C U2.heap (locs ++ L) ls hR2 (jS_call (st₀ := T2.setVm vm₁) (t := U2) hS hT hF hL) hl (U2.setVm vm2) rfl X3
  refine ⟨t, hstep₁ _ fun acts => ?_, b1⟩
  rw [doInvoke_state]
  exact hst2.trans (hst3 _ a1)
/-- System.arraycopy of longs -/
theorem j_copyl {a a0 n0 n1 idx : Nat} {f g : Nat → Int64} {sp dp z : Int32} (hw1 : jG (.methodLink own idx arraycopyName)) (hw2 : jG (.native arraycopyName)) (hw3 : jG (.static arraycopyName)) (hw4 : jG (.initialized "java/lang/System")) (he0 : h a0 = some (.inl (Y 1, n0, .inr (.inl f)))) (he1 : h a = some (.inl (Y 1, n1, .inr (.inl g)))) (h1 : ¬ sp < 0) (h2 : ¬ dp < 0) (h3 : ¬ z < 0) (h4 : sp.toNatClampNeg + z.toNatClampNeg ≤ n0) (h5 : dp.toNatClampNeg + z.toNatClampNeg ≤ n1) (hf : 1 ≤ R.frames) (hlo : (st.map fun v => v.category).sum + (nativeFrameWords "java/lang/System" "arraycopy" 5 + 11) ≤ R.locals) (hd : decode cc pc = .ok (.invokestatic idx, 3)) (kk : jW b D Y s0 p l e R s m args below meth c own cc nL ret nm Q (pc + 3) lv st (jh_up h a (.inl (Y 1, n1, .inr (.inl (va_cpy f g sp.toNatClampNeg dp.toNatClampNeg z.toNatClampNeg))))) n k sl) : jW b D Y s0 p l e R s m args below meth c own cc nL ret nm Q pc lv (.int z :: .int dp :: .ref a :: .int sp :: .ref a0 :: st) h n k sl := by
  have nn : ∀ z : Int32, ¬ z < 0 → z.toInt = (z.toNatClampNeg : Int) := by
    intro z hz
    have hz0 : (0 : Int) ≤ z.toInt := by
      have := Int32.not_lt.mp hz
      simpa using Int32.le_iff_toInt_le.mp this
    show z.toInt = ((z.toInt.toNat : Nat) : Int)
    omega
  intro C H locs ls hR hS hl T hT X
  have hc0 : H[a0]? = some (vp_cell (Y 1) (n0, .inr (.inl f))) := (hR.2.1 a0 _ he0).1
  have hc1 : H[a]? = some (vp_cell (Y 1) (n1, .inr (.inl g))) := (hR.2.1 a _ he1).1
  obtain ⟨-, k0, hk0, cm0, hkk0⟩ := (C.K.2 1 _ rfl).1 n0 (fun j => .long (f j))
  obtain ⟨-, k1, hk1, cm1, hkk1⟩ := (C.K.2 1 _ rfl).1 n1 (fun j => .long (g j))
  obtain ⟨vm1, X1, step⟩ := X.arraycopy C.ex C.ow (C.w hw1) (C.w hw2) (C.w hw3) (C.w hw4) (src := a0) (dst := a) (cs := vp_cell (Y 1) (n0, .inr (.inl f))) (cd := vp_cell (Y 1) (n1, .inr (.inl g))) (srcPos := sp) (destPos := dp) (n := z) (by rw [hT]; exact hc0) (by rw [hT]; exact hc1)
    (fun _ h => by cases h) (fun _ h => by cases h) (fun h => by cases h) (fun h => by cases h) hk0 hk1 hkk0 hkk1 (by simp [refKind]) h1 h2 h3
    (by rw [nn sp h1, nn z h3]; show ¬ _ > ((arrV (Y 1) n0 (fun j => .long (f j))).slots.size : Int); rw [arrV_size]; omega)
    (by rw [nn dp h2, nn z h3]; show ¬ _ > ((arrV (Y 1) n1 (fun j => .long (g j))).slots.size : Int); rw [arrV_size]; omega)
    (fun vm₁ _ i hi => by
      have e9 : (vp_cell (Y 1) (n0, .inr (.inl f))).slots.getD (sp.toNatClampNeg + i) .null = .long (f (sp.toNatClampNeg + i)) := by
        show (arrV (Y 1) n0 (fun j => .long (f j))).slots.getD _ _ = _
        rw [Array.getD_eq_getD_getElem?, arrV_read _ _ (by omega)]
        rfl
      refine ⟨?_, ?_⟩
      · rw [e9]; rfl
      · rw [e9]; exact trivial)
    (g := F0 m pc ls (.int z :: .int dp :: .ref a :: .int sp :: .ref a0 :: st)) rfl (by rw [C.ml]; exact hl.1) (rest := st) rfl (by rw [C.by]; exact hd) hf (by show 2 * 0 + _ + _ ≤ _; omega)
  have e1 : copied (vp_cell (Y 1) (n0, .inr (.inl f))) (vp_cell (Y 1) (n1, .inr (.inl g))) sp dp z = vp_cell (Y 1) (n1, .inr (.inl (va_cpy f g sp.toNatClampNeg dp.toNatClampNeg z.toNatClampNeg))) := va_copied (fun z => .long z) (Y 1) (Y 1) f g h4
  rw [e1] at X1 step
  have hA := (hR.2.1 a _ he1).2
  have hlt : a < H.size := (Array.getElem?_eq_some_iff.mp hc1).1
  obtain ⟨t, a1, b1⟩ := kk C _ _ ls (hR.put (H' := H.setIfInBounds a (vp_cell (Y 1) (n1, .inr (.inl (va_cpy f g sp.toNatClampNeg dp.toNatClampNeg z.toNatClampNeg))))) (show (H.setIfInBounds a _)[a]? = some _ by simp [Array.getElem?_setIfInBounds, hlt]) hA (by simp) (fun q hq => by simp [Array.getElem?_setIfInBounds, Ne.symm hq]))
    ⟨by simp; exact hS.1, fun q g1 g2 => by
      rw [Array.getElem?_setIfInBounds_ne (fun e9 => g2 (by rw [← e9]; exact hA))]
      exact hS.2.1 q g1 g2, fun q hq => by
      rcases List.mem_append.mp hq with h9 | h9
      · exact hS.2.2 q h9
      · obtain ⟨w, -, hw⟩ := List.mem_map.mp h9
        rw [← hw]; exact hA⟩ hl _ (by rw [← hT]; rfl) X1
  exact ⟨t, step t a1, b1⟩
end JM1
