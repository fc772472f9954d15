/-- the words of a throw that the tables alone do not decide -/
def jBad (X : String) (names : List String) : List Cond := [.castable X X, .isRef (.static Bundle.tN "UNASSIGNED_STACK" Bundle.steD), .isRef (.static Bundle.tN "SUPPRESSED_SENTINEL" Bundle.listD), .laysStatic Bundle.tN "UNASSIGNED_STACK" Bundle.steD, .laysStatic Bundle.tN "SUPPRESSED_SENTINEL" Bundle.listD] ++ (names ++ [Bundle.tN]).map (fun n => Cond.declares (Bundle.initS n))
theorem jz_eval {args : Array Value} {s : State} {C n d : String} {v : Value} {A : Nat → Prop} (hz : va_Z C n d v A s s.heap) : (Term.static C n d).eval args s none [] s = some v := by
  obtain ⟨cf, kf, fi, f, a, cell, h1, h2, h3, h4, h5, h6, h7, -⟩ := hz
  simp [Term.eval, State.fieldNamed?, h1, h2, h4, h5, h6, h7]
theorem jz_isRef {args : Array Value} {s : State} {C n d : String} {A : Nat → Prop} (hz : va_Zq C n d A s s.heap) : (Cond.isRef (.static C n d)).before args s = true := by
  rcases hz with hz | ⟨t, hz⟩
  · simp [Cond.before, Cond.holds, Cond.value, jz_eval hz]
  · simp [Cond.before, Cond.holds, Cond.value, jz_eval hz]
theorem jV.zq {s0 U : State} {b : Nat} {D : va_G} {Y : Nat → ClassId} (hV : jV s0 U) (h0 : jS0 b D Y s0) {C n d : String} (h1 : Cond.laysStatic C n d ∈ lw_tbl) (h2 : Cond.initialized C ∈ lw_tbl) (h3 : Cond.isRef (.static C n d) ∈ flatC (Jvm.Cond.and given_1 narrow_1)) : va_Zq C n d (jA s0) U U.heap := by
  have z0 : va_Zq C n d (jA s0) s0 s0.heap := va_Zqof (h0.1 _ h1) (h0.1 _ h2) (flat_of_before _ h0.2.1 _ h3) (fun a ha => Nat.not_le.mpr ha)
  exact (va_Zq.moved hV.1.alike z0).kept (fun a ha _ => hV.2.2.1 a ha)
theorem jV.ls {s0 U : State} {b : Nat} {D : va_G} {Y : Nat → ClassId} {args : Array Value} (hV : jV s0 U) (h0 : jS0 b D Y s0) {C n d : String} (h1 : Cond.laysStatic C n d ∈ lw_tbl) : (Cond.laysStatic C n d).before args U = true := by
  obtain ⟨c, k, i, f, a, cell, hc, hi, hst, ha, hcell, hs, hcls, hlt, hty⟩ := Cond.laysStatic_spec (h0.1 _ h1)
  obtain ⟨k2, hi2, he⟩ := State.fieldFound?_setVm hV.1.alike hi
  have hi3 : U.fieldFound? C n d = some (c, k2, i, f) := hi2
  have hc3 : U.vm.findClass C = some c := by rw [hV.1.alike.findClass]; exact hc
  have ha3 : k2.statics = some a := by rw [he]; exact ha
  have hty3 : k2.staticTypes[f.slot]? = some f.type := by rw [he]; exact hty
  have hcell3 : U.heap[a]? = some cell := by rw [hV.2.2.1 a (Array.getElem?_eq_some_iff.mp hcell).1]; exact hcell
  simp [Cond.before, Cond.holds, Cond.value, hc3, hi3, ha3, hcell3, hst, hs, hcls, hlt, hty3]
theorem jV.bad {s0 U : State} {b : Nat} {D : va_G} {Y : Nat → ClassId} {args : Array Value} (hV : jV s0 U) (h0 : jS0 b D Y s0) {X : String} {names : List String} (hX : Cond.castable X X ∈ lw_tbl) (hd : ∀ n ∈ names ++ [Bundle.tN], Cond.declares (Bundle.initS n) ∈ lw_tbl) : ∀ w ∈ jBad X names, w.before args U = true := by
  intro w hw
  rcases List.mem_append.mp hw with h1 | h1
  · simp only [List.mem_cons, List.not_mem_nil, or_false] at h1
    rcases h1 with rfl | rfl | rfl | rfl | rfl
    · exact va_Nw.use rfl (va_Nw.warmC hV.1 (va_Nw.of rfl (h0.1 _ hX)))
    · exact jz_isRef (hV.zq h0 (List.mem_of_getElem? (i := 733) (by decide +kernel)) (by decide +kernel) (by decide +kernel))
    · exact jz_isRef (hV.zq h0 (List.mem_of_getElem? (i := 735) (by decide +kernel)) (by decide +kernel) (by decide +kernel))
    · exact hV.ls h0 (List.mem_of_getElem? (i := 733) (by decide +kernel))
    · exact hV.ls h0 (List.mem_of_getElem? (i := 735) (by decide +kernel))
  · obtain ⟨n, hn, rfl⟩ := List.mem_map.mp h1
    exact va_Nw.use rfl (va_Nw.warmD hV.1 (va_Nw.of rfl (h0.1 _ (hd n hn))))
theorem jV.str {s0 U : State} {b : Nat} {D : va_G} {Y : Nat → ClassId} (hV : jV s0 U) (h0 : jS0 b D Y s0) {o tx : String} {i : Nat} (hw : Cond.stringRef o i tx ∈ lw_tbl) (hx : Cond.exactly (.string o i) "java/lang/String" ∈ flatC (Jvm.Cond.and given_1 narrow_1)) : ∃ q, vk_R o i tx q U := by
  obtain ⟨a, cB, cell, kB, ha, -⟩ := Cond.exactly_spec (flat_of_before _ h0.2.1 _ hx)
  exact ⟨a, vk_R.warm hV.1 (vk_R.of (h0.1 _ hw) ha)⟩
/-- the state in which the method would be invoked anew, with the heap as it is now -/
def jBase (s T : State) (m : MethodId) (args : Array Value) (below : List Frame) : State := (T.setVm s.vm).setFrames (.invoking m args :: below)
section JX3
variable {b : Nat} {D : va_G} {Y : Nat → ClassId} {s0 : State} {p : Program} {l : Launch} {e : Env} {R : Room} {s : State} {m : MethodId} {args : Array Value} {below : List Frame} {meth : Method} {c : Code} {own : String} {cc : ByteArray} {nL : Nat} {ret : Option FieldType} {nm : String} {Q : State → Prop} {pc : Nat} {lv : List (Nat × Value)} {st : List Value} {h : jH} {n k sl : Nat}
theorem jBase_stand {T : State} {locs : List Loc} (X : Stand p l e R s m args below meth c T locs k sl) {cs ss : Nat} (hc : k + cs ≤ R.cells) (hs : sl + ss ≤ R.slots) : Stand p l e { R with cells := cs, slots := ss } (jBase s T m args below) m args below meth c T [] 0 0 := by
  have htop : (T.setVm s.vm).topJava?.isSome := X.here.top
  obtain ⟨g₀, hg0⟩ := Option.isSome_iff_exists.mp htop
  obtain ⟨r, hr⟩ := State.topJava?_eq_some.mp hg0
  obtain ⟨t, ht, -⟩ := State.frames_cons hr
  have hF : (jBase s T m args below).frames = .invoking m args :: below := State.frames_setFrames _ (State.cur_lt_of_top htop)
  have hL : e.platform.stackLimits (jBase s T m args below).me = e.platform.stackLimits T.me := by
    unfold jBase; rw [State.stackLimits_setFrames]; rfl
  have hB : (jBase s T m args below).me.stackBytes = T.me.stackBytes := by
    unfold jBase; rw [State.stackBytes_setFrames]; rfl
  have hI : (jBase s T m args below).localsInUse = s.localsInUse := by
    rw [State.localsInUse_invoking hF (meth := meth) (c := c) X.method X.code, State.localsInUse_invoking X.frames X.method X.code]
  have hdrop : (T.heap.toList.drop T.heap.size) = [] := List.drop_eq_nil_of_le (Nat.le_of_eq Array.length_toList)
  have hroom : (jBase s T m args below).hasRoom e.platform { R with cells := cs, slots := ss } = true := by
    have h0 := X.room
    have q1 := X.heapSize
    have q2 := X.used
    simp only [State.hasRoom, Bool.and_eq_true, decide_eq_true_eq] at h0 ⊢
    obtain ⟨⟨⟨⟨r1, r2, r3, r4, r5, r6⟩, r7⟩, r8⟩, r9⟩ := h0
    rw [X.frames, List.length_cons] at r2 r3
    rw [hF, hI, hL, hB, X.limits, X.bytes, List.length_cons]
    refine ⟨⟨⟨⟨r1, r2, r3, r4, r5, r6⟩, ?_⟩, ?_⟩, X.book⟩
    · show T.heap.size + cs ≤ _
      omega
    · show T.slotsUsed + ss ≤ _
      omega
  have hsame : (jBase s T m args below).sameButNew (T.setVm s.vm) [] 0 0 := by
    refine ⟨?_, Nat.le_refl _, Nat.le_refl _, ?_, ?_, fun a x hx => ⟨x, hx, rfl, rfl, fun _ _ => rfl⟩⟩
    · show T.setVm s.vm = { ((T.setVm s.vm).setFrames (.invoking m args :: below)).setFrames (T.setVm s.vm).frames with heap := T.heap, slotsUsed := T.slotsUsed }
      rw [State.setFrames_setFrames, State.setFrames_self ht]
      rfl
    · show T.slotsUsed = T.slotsUsed + ((T.heap.toList.drop T.heap.size).map (·.slots.size)).sum
      rw [hdrop]; rfl
    · show ((T.heap.toList.drop T.heap.size).map (·.slots.size)).sum ≤ 0
      rw [hdrop]; exact Nat.le_refl _
  exact { admits := X.admits, cas := X.cas, clock := X.clock, frames := hF, room := hroom, hears := X.hears, method := X.method, code := X.code, here := X.here, tail := X.tail, warmed := X.warmed, limits := hL.symm, bytes := hB.symm, same := hsame }
/-- 'throw new E("text")' in a method without a table of its own -/
theorem j_throwS {ik is ic : Nat} {E tx : String} {names : List String} {Post : jH → Nat → Prop} (hlt : l.stackTraces = false) (hnl : c.exceptionTable.toList = []) (hat : ∀ w ∈ Bundle.ownAtoms own ic E names, jG w ∨ w ∈ jBad E names) (hX : Cond.castable E E ∈ lw_tbl) (hdc : ∀ n ∈ names ++ [Bundle.tN], Cond.declares (Bundle.initS n) ∈ lw_tbl)
    (hE : Bundle.fit E = true) (hnm : ∀ n ∈ names, Bundle.fit n = true) (hw1 : jG (.classLink own ik E)) (hw2 : jG (.instantiable E 6)) (hw3 : jG (.initialized E)) (hsr : Cond.stringRef own is tx ∈ lw_tbl) (hsx : Cond.exactly (.string own is) "java/lang/String" ∈ flatC (Jvm.Cond.and given_1 narrow_1))
    (d0 : decode cc pc = .ok (.new ik, 3)) (d3 : decode cc (pc + 3) = .ok (.dup, 1)) (d4 : decode cc (pc + 4) = .ok (.ldc is, 2)) (d6 : decode cc (pc + 6) = .ok (.invokespecial ic, 3)) (d9 : decode cc (pc + 9) = .ok (.athrow, 1))
    (hfr : names.length + 3 < R.frames) (hlo : (st.map fun v => v.category).sum + 1 + (13 * (names.length + 1) + 42) ≤ R.locals) (hk : k + 1 ≤ R.cells) (hs : sl + 6 ≤ R.slots) (hp : Post h (n + 1)) :
    jW b D Y s0 p l e R s m args below meth c own cc nL ret nm (jXM below D s0 E Post args s (k + 1) (sl + 6)) pc lv st h n k sl := by
  intro C H locs ls hR hS hl T hT X
  have XB := jBase_stand X hk hs
  have hVB : jV s0 (jBase s T m args below) := by
    refine ⟨C.v.1, ?_, fun q hq => ?_, ?_⟩
    · show s0.heap.size ≤ T.heap.size
      rw [hT]; exact Nat.le_trans C.v.2.1 hS.1
    · show T.heap[q]? = _
      rw [hT, hS.2.1 q (Nat.lt_of_lt_of_le hq C.v.2.1) (Nat.not_le.mpr hq)]; exact C.v.2.2.1 q hq
    · show jN s0 T.heap
      rw [hT]; exact hR.2.2
  obtain ⟨q, hq⟩ := hVB.str C.z hsr hsx
  have hw : ∀ {w : Cond}, jG w → w.before args (jBase s T m args below) = true := fun g => hVB.word C.z g
  have hBv : (jBase s T m args below).vm = s.vm := rfl
  have hBh : (jBase s T m args below).heap = T.heap := rfl
  have K : W p l e { R with cells := 1, slots := 6 } (jBase s T m args below) m args below meth c H [] 0 0 (jXM below D s0 E Post args (jBase s T m args below) 1 6) (F0 m pc ls st) := by
    generalize jBase s T m args below = B at hVB hq hw hBv hBh
    obtain ⟨R2, hR2⟩ : ∃ R2 : Room, R2 = { R with cells := 1, slots := 6 } := ⟨_, rfl⟩
    rw [← hR2]
    have c1 : R2.cells = 1 := by rw [hR2]
    have c2 : R2.slots = 6 := by rw [hR2]
    have c3 : R2.frames = R.frames := by rw [hR2]
    have c4 : R2.locals = R.locals := by rw [hR2]
    have hown : B.vm.findClass own = some m.cls := by rw [hBv]; exact C.ow
    refine W.newc C.ex C.by hown (hw hw1) (hw hw2) (hw hw3) rfl d0 (by rw [c1]; exact Nat.le_refl 1) (by rw [c2]; exact Nat.le_refl 6) fun cX kX f1 f2 f3 f4 => ?_
    refine lv_dup C.ex C.by d3 rfl ?_
    refine va_ldcS C.ex C.by hown hq d4 ?_
    intro T2 hT2 X2
    have htr : e.platform.stackTraces = false := by
      have h9 := X.admits.platform
      rw [h9]; exact hlt
    have hcell : T2.heap[H.size]? = some (freshCell cX kX) := by rw [hT2]; simp
    have hge : B.heap.size ≤ H.size := by rw [hBh, hT]; exact Nat.le_refl _
    obtain ⟨U, st1, hrun, hend, hW, hsm, ce, hce, OC⟩ := X2.ctorThrowS C.ex htr (own := own) (cls := E) (names := names) (ic := ic) hown hE hnm (fun w hw2 => (hat w hw2).elim (fun g => hw g) (fun g => hVB.bad C.z hX hdc w g))
      (fun x hx => by cases hx) f1 f2 hcell hge (msg := .ref q) rfl (g := F0 m (pc + 6) ls (.ref q :: .ref H.size :: .ref H.size :: st)) rfl (by rw [C.ml]; exact hl.1) rfl rfl (rest := st) rfl (by rw [C.by]; exact d6) (by rw [C.by]; exact d9) (by rw [hnl]; exact fun x hx => by cases hx) (by rw [c3]; exact hfr)
      (by rw [List.map_cons, List.sum_cons, c4]; show 2 * 0 + (1 + _) + _ ≤ R.locals; omega) C.lk
    obtain ⟨-, z2, z3, -, -, z6⟩ := id hsm
    have hold : ∀ (a : Nat), a < H.size → U.heap[a]? = H[a]? := by
      intro a ha
      have hca : H[a]? = some H[a] := Array.getElem?_eq_getElem ha
      obtain ⟨c2, g1, g2, g3, g4⟩ := z6 a H[a] (by rw [hBh, hT]; exact hca)
      have g1 : U.heap[a]? = some c2 := g1
      rw [g1, hca]
      have hsl : c2.slots = H[a].slots := by
        apply Array.ext_getElem?
        intro i
        exact g4 i (by simp)
      rw [g2, hsl]
    have hz : U.heap.size = n + 1 := by
      have h1 : U.heap.size ≤ B.heap.size + (0 + 1) := z3
      have h2 := (Array.getElem?_eq_some_iff.mp hce).1
      rw [hBh, hT, hR.1] at h1
      rw [hR.1] at h2
      omega
    refine ⟨U, st1, .threw H.size, hrun, hend, H.size, ce, h, n + 1, [], rfl, hce, OC.vm, OC.cls, hp, ⟨hz, fun a x hx => ?_, fun a x ha hx => ?_⟩, ⟨z2, fun a ha _ => ?_⟩, hW, hsm, fun _ h => by cases h⟩
    · exact ⟨(hR.2.1 a x hx).1.kept (hold a (hR.2.1 a x hx).1.lt), (hR.2.1 a x hx).2⟩
    · by_cases e9 : a = H.size
      · subst e9
        rw [hce] at hx
        cases hx
        rw [OC.vm]; rfl
      · have h2 := (Array.getElem?_eq_some_iff.mp hx).1
        rw [hz, ← hR.1] at h2
        rw [hold a (by omega)] at hx
        exact hR.2.2 a x ha hx
    · rw [hBh, hT] at ha
      rw [hBh, hT]; exact hold a ha
  obtain ⟨U, st1, o, hrun, hend, q1, ce, h2, n2, L, ho, hce, hv, hcl, hp2, hR2, hF2, hW2, hsm2, hL2⟩ := K T hT XB
  have hTz : s.heap.size ≤ T.heap.size := by rw [hT]; exact hS.1
  refine ⟨U, st1, o, hrun, hend, q1, ce, h2, n2, locs ++ L, ho, hce, hv, hcl, hp2, hR2, ⟨Nat.le_trans hTz hF2.1, fun a ha hA => ?_⟩, hW2, ?_, fun z hz => ?_⟩
  · have h5 : U.heap[a]? = T.heap[a]? := hF2.2 a (Nat.lt_of_lt_of_le ha hTz) hA
    rw [h5, hT]; exact hS.2.1 a ha hA
  · have h6 : (T.setVm s.vm).sameButNew ({ U with vm := s.vm } : State) L 1 6 := by
      obtain ⟨z1, z2⟩ := hsm2
      refine ⟨?_, z2⟩
      have z1 : ({ U with vm := s.vm } : State) = { ((T.setVm s.vm).setFrames (.invoking m args :: below)).setFrames U.frames with heap := U.heap, slotsUsed := U.slotsUsed } := z1
      rw [State.setFrames_setFrames] at z1
      exact z1
    exact X.same.trans h6
  · rcases List.mem_append.mp hz with h1 | h1
    · exact hS.2.2 z h1
    · exact hL2 z h1
end JX3
