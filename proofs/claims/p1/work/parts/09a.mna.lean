/-! new long[n][k], by the model's own words: the outer array, then each row made and put into it -/
def jGr (T : State) (cA : ClassId) (N M i : Nat) (U : State) : Prop := U.heap.size = T.heap.size + 1 + i ∧ U.vm = T.vm ∧ U.slotsUsed = T.slotsUsed + N + i * M ∧ (∃ oc : Cell, U.heap[T.heap.size]? = some oc ∧ oc.cls = cA ∧ oc.vm = .none ∧ oc.slots.size = N) ∧ (∀ x : Nat, x < T.heap.size → U.heap[x]? = T.heap[x]?) ∧ ∀ (x : Nat) (cl : Cell), T.heap.size ≤ x → U.heap[x]? = some cl → cl.vm.isStatics = false
theorem jm_arr {E : CtlPost} {e : Env} {d : Bool} {acts : List Action} {s : State} {c comp : ClassId} {k : Class} {ty : FieldType} {len : Nat} {v : Value} (hk : s.vm.classes[c]? = some k) (hkd : k.kind = .array comp ty) (hl : ¬ len > e.platform.arrayLengthLimit) (hb : ¬ len * componentBytes ty > e.platform.maxHeapBytes) (hf : fits ty v = true) (hv : v.isDefault = true) (h1 : s.heap.size < e.platform.maxCells) (h2 : s.slotsUsed + len ≤ e.platform.maxSlots) {Q : Addr → Pre} (hq : Q s.heap.size d acts (s.pushCell { cls := c, slots := Array.replicate len v, vm := .none })) : wp (Jvm.newArray c len v) Q E e d acts s := by
  have e1 : allocActs (Array.replicate len v) s.heap.size acts = acts := by
    unfold allocActs
    rw [if_pos (by rw [Array.all_replicate]; split <;> simp [hv])]
  have e2 : ∀ (i : Nat) (w : Value), (Array.replicate len v)[i]? = some w → s.fitsSlot c .none i w = true := fun i w hw => by
    rw [Array.getElem?_replicate] at hw
    split at hw
    · cases hw; simp [State.fitsSlot, State.slotType?, hk, hkd, hf]
    · cases hw
  simp only [Jvm.newArray, Jvm.arrayFits, wp_bind', W.ask, W.ite, hl, if_false, wp_pure', W.theClass, hk, hkd, hb, W.alloc, W.stop, Option.some.injEq, exists_eq_left', Array.size_replicate, e1]
  rw [if_neg (by omega)]
  exact ⟨h1, h2, e2, hq⟩
theorem jm_row {E : CtlPost} {e : Env} {d : Bool} {acts : List Action} {s : State} {comp cc : ClassId} {kC : Class} {w : Int32} (hkC : s.vm.classes[comp]? = some kC) (hC : kC.kind = .array cc .long) (hw : ¬ w < 0) (hl : ¬ w.toNatClampNeg > e.platform.arrayLengthLimit) (hb : ¬ w.toNatClampNeg * 8 > e.platform.maxHeapBytes) (h1 : s.heap.size < e.platform.maxCells) (h2 : s.slotsUsed + w.toNatClampNeg ≤ e.platform.maxSlots) {Q : Addr → Pre} (hq : Q s.heap.size d acts (s.pushCell { cls := comp, slots := Array.replicate w.toNatClampNeg (defaultValue .long), vm := .none })) : wp (multianewarray.make comp [w]) Q E e d acts s := by
  rw [multianewarray.make]
  simp only [wp_bind', W.ite, hw, if_false, wp_pure', W.theClass, hkC, hC, Option.some.injEq, exists_eq_left']
  exact jm_arr hkC hC hl hb rfl rfl h1 h2 hq
def jgU (T : State) (cA comp : ClassId) (N M : Nat) : Nat → State
  | 0 => T.pushCell { cls := cA, slots := Array.replicate N .null, vm := .none }
  | i + 1 => ((jgU T cA comp N M i).pushCell { cls := comp, slots := Array.replicate M (defaultValue .long), vm := .none }).setCell T.heap.size (((jgU T cA comp N M i).heap[T.heap.size]?.getD { cls := cA, slots := #[], vm := .none }).setSlot i (.ref (jgU T cA comp N M i).heap.size))
set_option maxHeartbeats 1000000 in
theorem jgU_ok {p : Program} {l : Launch} {e : Env} {R : Room} {s : State} {m : MethodId} {args : Array Value} {below : List Frame} {meth : Method} {c : Code} {T : State} {locs : List Loc} {k1 k2 : Nat} (X : Stand p l e R s m args below meth c T locs k1 k2) (cA comp : ClassId) (N M : Nat) : ∀ i, Stand p l e R s m args below meth c (jgU T cA comp N M i) locs (k1 + 1 + i) (k2 + N + i * M) ∧ jGr T cA N M i (jgU T cA comp N M i) := by
  intro i
  induction i with
  | zero =>
    have hpz : (T.pushCell { cls := cA, slots := Array.replicate N .null, vm := .none }).heap.size = T.heap.size + 1 := by simp
    refine ⟨?_, hpz, rfl, ?_, ⟨_, State.heap_pushCell_size _ _, rfl, rfl, by simp⟩, fun x hx => State.heap_pushCell_of_lt _ _ hx, ?_⟩
    · have h9 := X.pushed { cls := cA, slots := Array.replicate N .null, vm := .none }
      simpa [jgU] using h9
    · simp [jgU]
    · intro x cl hx hc
      have hc : (T.pushCell { cls := cA, slots := Array.replicate N .null, vm := .none }).heap[x]? = some cl := hc
      have hlt := (Array.getElem?_eq_some_iff.mp hc).1
      rw [hpz] at hlt
      obtain rfl : x = T.heap.size := by omega
      rw [State.heap_pushCell_size] at hc
      cases hc; rfl
  | succ x ih =>
    obtain ⟨XU, g1, g2, g3, ⟨oc, o1, o2, o3, o4⟩, g5, g6⟩ := ih
    have hTU : T.heap.size < (jgU T cA comp N M x).heap.size := by omega
    rw [jgU, o1, Option.getD_some]
    generalize jgU T cA comp N M x = U at *
    generalize hic : ({ cls := comp, slots := Array.replicate M (defaultValue .long), vm := .none } : Cell) = ic
    have hlk : (U.pushCell ic).heap[T.heap.size]? = some oc := by rw [State.heap_pushCell_of_lt _ _ hTU]; exact o1
    have hiz : ic.slots.size = M := by rw [← hic]; simp
    have hiv : ic.vm = .none := by rw [← hic]
    refine ⟨?_, ?_, ?_, ?_, ⟨_, State.heap_setCell_self hlk, ?_, ?_, ?_⟩, fun y hy => ?_, fun y cl hy hc => ?_⟩
    · have h9 := ((XU.pushed ic).stored hlk x (.ref U.heap.size)).dropFresh (fun q hq9 => by
        rw [List.mem_singleton] at hq9; rw [hq9]; exact X.heapGrown)
      rw [hiz] at h9
      rw [show k2 + N + (x + 1) * M = k2 + N + x * M + M by rw [Nat.succ_mul]; omega]
      exact h9
    · simp [State.setCell, g1]; omega
    · exact g2
    · show (U.pushCell ic).slotsUsed = _
      simp [g3, hiz, Nat.succ_mul]; omega
    · simp [Cell.setSlot, o2]
    · simp [Cell.setSlot, o3]
    · simp [Cell.setSlot, o4]
    · rw [State.heap_setCell_other (Nat.ne_of_gt hy), State.heap_pushCell_of_lt _ _ (Nat.lt_trans hy hTU)]
      exact g5 y hy
    · by_cases e1 : y = T.heap.size
      · subst e1
        rw [State.heap_setCell_self hlk] at hc
        cases hc
        show oc.vm.isStatics = false
        rw [o3]; rfl
      · rw [State.heap_setCell_other (Ne.symm e1)] at hc
        by_cases e2 : y < U.heap.size
        · rw [State.heap_pushCell_of_lt _ _ e2] at hc
          exact g6 y cl hy hc
        · have h7 := (Array.getElem?_eq_some_iff.mp hc).1
          have h8 : (U.pushCell ic).heap.size = U.heap.size + 1 := by simp
          rw [h8] at h7
          obtain rfl : y = U.heap.size := by omega
          rw [State.heap_pushCell_size] at hc
          cases hc
          rw [hiv]; rfl
theorem jgU_top (T : State) (f : JFrame) (cA comp : ClassId) (N M : Nat) : ∀ i, jgU (T.setTop f) cA comp N M i = (jgU T cA comp N M i).setTop f
  | 0 => rfl
  | i + 1 => by simp only [jgU, jgU_top T f cA comp N M i, State.heap_setTop, State.pushCell_setTop, State.setCell_setTop]
set_option maxHeartbeats 1000000 in
theorem jm_make {p : Program} {l : Launch} {e : Env} {R : Room} {s : State} {m : MethodId} {args : Array Value} {below : List Frame} {meth : Method} {c : Code} {T : State} {locs : List Loc} {k1 k2 : Nat} (X : Stand p l e R s m args below meth c T locs k1 k2) {f : JFrame} {E : CtlPost} {d : Bool} {acts : List Action} {cA comp cc : ClassId} {kA kC : Class} {z w : Int32} (hkA : T.vm.classes[cA]? = some kA) (hA : kA.kind = .array comp (.array .long)) (hkC : T.vm.classes[comp]? = some kC) (hC : kC.kind = .array cc .long) (hz : ¬ z < 0) (hw : ¬ w < 0)
    (l1 : ¬ z.toNatClampNeg > e.platform.arrayLengthLimit) (b1 : ¬ z.toNatClampNeg * 4 > e.platform.maxHeapBytes) (l2 : ¬ w.toNatClampNeg > e.platform.arrayLengthLimit) (b2 : ¬ w.toNatClampNeg * 8 > e.platform.maxHeapBytes) (hcs : T.heap.size + (1 + z.toNatClampNeg) ≤ e.platform.maxCells) (hss : T.slotsUsed + (z.toNatClampNeg + z.toNatClampNeg * w.toNatClampNeg) ≤ e.platform.maxSlots) {Q : Addr → Pre}
    (hq : ∀ (d' : Bool) (acts' : List Action), Q T.heap.size d' acts' ((jgU T cA comp z.toNatClampNeg w.toNatClampNeg z.toNatClampNeg).setTop f)) : wp (multianewarray.make cA [z, w]) Q E e d acts (T.setTop f) := by
  generalize hN : z.toNatClampNeg = N at *
  rw [multianewarray.make]
  simp only [wp_bind', W.ite, hz, if_false, wp_pure', W.theClass, show (T.setTop f).vm.classes[cA]? = some kA from hkA, hA, Option.some.injEq, exists_eq_left']
  rw [hN]
  refine jm_arr (s := T.setTop f) (k := kA) (ty := .array .long) (v := .null) hkA hA l1 b1 rfl rfl (by show T.heap.size < _; omega) (by show T.slotsUsed + _ ≤ _; have := Nat.zero_le (N * w.toNatClampNeg); omega) ?_
  have hfind : ([w].find? (· < 0)) = none := by simp [hw]
  simp only [hfind]
  rw [ite_self, wp_bind', Std.Legacy.Range.forIn_eq_forIn_range']
  rw [show ([:N] : Std.Legacy.Range).size = N by simp [Std.Legacy.Range.size]]
  refine wp_forIn_inv (fun rest u => ∃ i : Nat, i ≤ N ∧ rest = List.range' i (N - i) ∧ u = (jgU T cA comp N w.toNatClampNeg i).setTop f) _ _ ⟨0, Nat.zero_le _, rfl, rfl⟩ ?_ ?_
  · rintro x rest u d' acts' Q' ⟨i, hi, hl, rfl⟩ hnext
    have hlt : i < N := by
      rcases Nat.lt_or_ge i N with h | h
      · exact h
      · rw [show N - i = 0 by omega] at hl; cases hl
    obtain ⟨rfl, hrest⟩ : x = i ∧ rest = List.range' (i + 1) (N - (i + 1)) := by
      rw [show N - i = (N - (i + 1)) + 1 by omega, List.range'_succ] at hl
      exact ⟨(List.cons.inj hl).1, (List.cons.inj hl).2⟩
    obtain ⟨XU, g1, g2, g3, ⟨oc, o1, o2, o3, o4⟩, g5, g6⟩ := jgU_ok X cA comp N w.toNatClampNeg x
    have hmul : (x + 1) * w.toNatClampNeg ≤ N * w.toNatClampNeg := Nat.mul_le_mul_right _ hlt
    rw [Nat.succ_mul] at hmul
    have hTU : T.heap.size < (jgU T cA comp N w.toNatClampNeg x).heap.size := by omega
    have hstep : jgU T cA comp N w.toNatClampNeg (x + 1) = ((jgU T cA comp N w.toNatClampNeg x).pushCell { cls := comp, slots := Array.replicate w.toNatClampNeg (defaultValue .long), vm := .none }).setCell T.heap.size (oc.setSlot x (.ref (jgU T cA comp N w.toNatClampNeg x).heap.size)) := by rw [jgU, o1, Option.getD_some]
    have hend := hnext (((jgU T cA comp N w.toNatClampNeg x).pushCell { cls := comp, slots := Array.replicate w.toNatClampNeg (defaultValue .long), vm := .none }).setCell T.heap.size (oc.setSlot x (.ref (jgU T cA comp N w.toNatClampNeg x).heap.size)) |>.setTop f)
    generalize jgU T cA comp N w.toNatClampNeg x = U at *
    simp only [wp_bind']
    refine jm_row (kC := kC) (by show U.vm.classes[comp]? = some kC; rw [g2]; exact hkC) hC hw l2 b2 (by show U.heap.size < _; omega) (by show U.slotsUsed + _ ≤ _; omega) ?_
    simp only [wp_bind', W.writeLoc, wp_pure']
    have hcl : U.vm.classes[cA]? = some kA := by rw [g2]; exact hkA
    refine ⟨oc, by show (U.pushCell _).heap[T.heap.size]? = some oc; rw [State.heap_pushCell_of_lt _ _ hTU]; exact o1, by rw [o3]; simp, by rw [o4]; exact hlt, ?_, hend _ _ ⟨x + 1, hlt, hrest, by rw [hstep]⟩⟩
    rw [o2, o3]
    simp [State.fitsSlot, State.slotType?, hcl, hA, fits]
  · rintro u d' acts' ⟨i, hi, hl, rfl⟩
    obtain rfl : i = N := by
      rcases Nat.lt_or_ge i N with h | h
      · rw [show N - i = (N - (i + 1)) + 1 by omega, List.range'_succ] at hl; cases hl
      · omega
    simp only [wp_pure']
    exact hq _ _
theorem jao_spec {args : Array Value} {s : State} (h : (Cond.arrayOver (.array .long)).before args s = true) : ∃ (comp c : ClassId) (k : Class), s.vm.findClass "[J" = some comp ∧ s.vm.classes[c]? = some k ∧ k.kind = .array comp (.array .long) ∧ s.vm.findClass "[[J" = some c := by
  have h : (Cond.arrayOver (.array .long)).holds args s none s [] = true := h
  simp only [Cond.holds, Cond.value, beq_iff_eq] at h
  have e1 : (FieldType.array .long).toString = "[J" := by decide
  rw [e1] at h
  cases hc : s.vm.findClass "[J" with
  | none => simp [hc] at h
  | some comp =>
    simp only [hc, Option.bind_some, Option.bind_eq_some_iff, Option.map_eq_some_iff] at h
    obtain ⟨c, hi, k, hk, hb⟩ := h
    have hp := (Array.findIdx?_eq_some_iff_getElem.mp hi).2.1
    rw [(Array.getElem?_eq_some_iff.mp hk).2] at hp
    refine ⟨comp, c, k, rfl, hk, ?_⟩
    cases hkd : k.kind with
    | array a b =>
      rw [hkd] at hb hp
      simp at hb hp
      exact ⟨by rw [hp, hb.1], hb.2⟩
    | _ => rw [hkd] at hb; simp at hb
set_option maxHeartbeats 1000000 in
theorem jm_step {p : Program} {l : Launch} {e : Env} {R : Room} {s : State} {m : MethodId} {args : Array Value} {below : List Frame} {meth : Method} {c : Code} {T : State} {locs : List Loc} {k1 k2 : Nat} (X : Stand p l e R s m args below meth c T locs k1 k2) (hx : p.tables.exec = Jvm.exec) {own : String} {idx : Nat} (hown : s.vm.findClass own = some m.cls) (hcl : (Cond.classLink own idx "[[J").before args s = true) (hov : (Cond.arrayOver (.array .long)).before args s = true) (har : (Cond.arrayClass .long).before args s = true)
    {g : JFrame} (hg : g.method = m) (hd : decode c.code g.pc = .ok (.multianewarray idx 2, 4)) {z w : Int32} {rest : List Value} (hst : g.stack = .int w :: .int z :: rest) (hz : ¬ z < 0) (hw : ¬ w < 0) (hb1 : z.toNatClampNeg * 4 ≤ 536870912) (hb2 : w.toNatClampNeg * 8 ≤ 536870912) (hk : k1 + (1 + z.toNatClampNeg) ≤ R.cells) (hs : k2 + (z.toNatClampNeg + z.toNatClampNeg * w.toNatClampNeg) ≤ R.slots) :
    ∃ (vm1 : Vm) (cA comp : ClassId), Stand p l e R s m args below meth c (jgU (T.setVm vm1) cA comp z.toNatClampNeg w.toNatClampNeg z.toNatClampNeg) locs (k1 + 1 + z.toNatClampNeg) (k2 + z.toNatClampNeg + z.toNatClampNeg * w.toNatClampNeg) ∧ jGr (T.setVm vm1) cA z.toNatClampNeg w.toNatClampNeg z.toNatClampNeg (jgU (T.setVm vm1) cA comp z.toNatClampNeg w.toNatClampNeg z.toNatClampNeg) ∧
      ∀ target, Steps p.tables e below ((jgU (T.setVm vm1) cA comp z.toNatClampNeg w.toNatClampNeg z.toNatClampNeg).setTop { g with pc := g.pc + 4, stack := .ref T.heap.size :: rest }) target → Steps p.tables e below (T.setTop g) target := by
  subst hg
  have pm : e.platform.magicAccessors = ({} : Platform).magicAccessors := by rw [X.admits.platform]
  obtain ⟨comp, cA, kA, a1, a2, a3, a4⟩ := jao_spec hov
  obtain ⟨comp2, kC, cc, c1, c2, c3⟩ := Cond.arrayClass_spec har
  have c1 : s.vm.findClass "[J" = some comp2 := c1
  cases Option.some.inj (c1.symm.trans a1)
  obtain ⟨c0, f0, hlk⟩ := Cond.classLink_spec hown hcl e.platform pm
  cases Option.some.inj (a4.symm.trans f0)
  obtain ⟨hg1, hW, hready⟩ := State.classEntry (e := e) X.warmed hlk
  generalize T.vm.noted g.method.cls idx (.cls cA) = vm1 at hg1 hW hready
  obtain ⟨kA1, hkA1, eA⟩ := hW.alike.2.2 _ _ a2
  obtain ⟨kC1, hkC1, eC⟩ := hW.alike.2.2 _ _ c2
  have X1 := X.noted hW
  obtain ⟨r1, r2⟩ := X.roomAbove hk hs
  obtain ⟨XF, hG⟩ := jgU_ok X1 cA comp z.toNatClampNeg w.toNatClampNeg z.toNatClampNeg
  refine ⟨vm1, cA, comp, XF, hG, fun target go => ?_⟩
  jvm_step X.here [hx, hd]
  simp only [multianewarray.sem, wp_bind', W.resolveClassAt_links (State.method?_setTop g X.here.top) hg1]
  rw [W.popN, if_neg (by decide)]
  refine ⟨g, State.topJava?_setTop' (s := T.setVm vm1) g X.here.top, [.int z, .int w], rest, rfl, hst, ?_⟩
  simp only [List.mapM_cons, List.mapM_nil, wp_bind', wp_pure']
  have eS : ((T.setTop g).setVm vm1).setTop { g with stack := rest } = (T.setVm vm1).setTop { g with stack := rest } := by
    show ((T.setVm vm1).setTop g).setTop _ = _
    rw [State.setTop_setTop]
  rw [eS]
  refine jm_make X1 (kA := kA1) (kC := kC1) (comp := comp) (cc := cc) hkA1 (by rw [eA]; exact a3) hkC1 (by rw [eC]; exact c3) hz hw (by rw [Launch.admits_arrayLengthLimit X.admits]; omega) (by rw [Launch.admits_maxHeapBytes X.admits]; omega) (by rw [Launch.admits_arrayLengthLimit X.admits]; omega) (by rw [Launch.admits_maxHeapBytes X.admits]; omega) r1 r2 (fun d' acts' => ?_)
  simp only [wp_bind', W.mark, W.pushRef, State.topJava?_setTop' _ XF.here.top, Option.some.injEq, exists_eq_left', State.setTop_setTop, State.heap_setTop]
  intro acts
  simp [jvm, XF.here.top]
  exact go
section JMM
variable {b : Nat} {D : va_G} {Y : Nat → ClassId} {s0 : State} {p : Program} {l : Launch} {e : Env} {R : Room} {s : State} {m : MethodId} {args : Array Value} {below : List Frame} {meth : Method} {c : Code} {own : String} {cc : ByteArray} {nL : Nat} {ret : Option FieldType} {nm : String} {Q : State → Prop} {pc : Nat} {lv : List (Nat × Value)} {st : List Value} {h : jH} {n k sl : Nat}
/-- new long[N][K]: an array of arrays that nobody looks at again -/
theorem j_mna {idx N K : Nat} {z w : Int32} (hw1 : jG (.classLink own idx "[[J")) (hw2 : Cond.arrayOver (.array .long) ∈ lw_tbl) (hw3 : jG (.arrayClass .long)) (hz : ¬ z < 0) (hw : ¬ w < 0) (hN : z.toNatClampNeg = N) (hK : w.toNatClampNeg = K) (hb1 : N * 4 ≤ 536870912) (hb2 : K * 8 ≤ 536870912) (hk : k + (1 + N) ≤ R.cells) (hs : sl + (N + N * K) ≤ R.slots) (hd : decode cc pc = .ok (.multianewarray idx 2, 4)) (kk : jW b D Y s0 p l e R s m args below meth c own cc nL ret nm Q (pc + 4) lv (.ref n :: st) h (n + 1 + N) (k + 1 + N) (sl + N + N * K)) : jW b D Y s0 p l e R s m args below meth c own cc nL ret nm Q pc lv (.int w :: .int z :: st) h n k sl := by
  intro C H locs ls hR hS hl T hT X
  subst hN
  subst hK
  have hover : (Cond.arrayOver (.array .long)).before args s = true := over_moved C.v.1.alike (C.z.1 _ hw2)
  obtain ⟨vm₁, cA, comp, X1, hG, step⟩ := jm_step X C.ex C.ow (C.w hw1) hover (C.w hw3) (g := F0 m pc ls (.int w :: .int z :: st)) rfl (by rw [C.by]; exact hd) rfl hz hw hb1 hb2 hk hs
  generalize jgU (T.setVm vm₁) cA comp z.toNatClampNeg w.toNatClampNeg z.toNatClampNeg = F at X1 hG step
  have hTh : (T.setVm vm₁).heap = H := hT
  obtain ⟨f1, -, -, -, hold, hnew⟩ := hG
  rw [hTh] at f1 hold hnew
  have hns : jN s0 F.heap := by
    intro q cell hq hc
    by_cases c1 : q < H.size
    · rw [hold q c1] at hc
      exact hR.2.2 q cell hq hc
    · exact hnew q cell (Nat.not_lt.mp c1) hc
  have hR2 : jR s0 D h (n + 1 + z.toNatClampNeg) F.heap := ⟨by rw [f1, hR.1], fun a x hx => ⟨(hR.2.1 a x hx).1.kept (hold a (hR.2.1 a x hx).1.lt), (hR.2.1 a x hx).2⟩, hns⟩
  obtain ⟨t, a1, b1⟩ := kk C F.heap locs ls hR2 (jS_grow hS (by rw [f1]; omega) hold) hl F rfl X1
  refine ⟨t, step t ?_, b1⟩
  have e9 : T.heap.size = n := by rw [hT]; exact hR.1
  rw [e9]
  exact a1
end JMM
