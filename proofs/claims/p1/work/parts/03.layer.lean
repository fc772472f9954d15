/-! A layer over the kit's W: the heap is a function from addresses to cells; every method of the law's run keeps what was there at the law's start (the state s0). -/
abbrev jH : Type := Nat → Option va_E
def jh_up (h : jH) (a : Nat) (x : va_E) : jH := fun b => if b = a then some x else h b
def jh_no (h : jH) (a : Nat) : jH := fun b => if b = a then none else h b
theorem jh_up_s (h : jH) (a : Nat) (x : va_E) : jh_up h a x a = some x := by simp [jh_up]
theorem jh_up_n (h : jH) {a b : Nat} (x : va_E) (hb : b ≠ a) : jh_up h a x b = h b := by simp [jh_up, hb]
def jTy (Y : Nat → ClassId) : List (ClassId × FieldType) := [(Y 0, .int), (Y 1, .long), (Y 2, .boolean), (Y 3, .object "FactorDesk$Poly"), (Y 4, .array .long)]
/-- what holds at the law's start -/
def jS0 (b : Nat) (D : va_G) (Y : Nat → ClassId) (s0 : State) : Prop := (∀ w ∈ lw_tbl, w.before #[Value.ref b] s0 = true) ∧ (Jvm.Cond.and given_1 narrow_1).before #[Value.ref b] s0 = true ∧ va_K D vcl (jTy Y) s0
/-- a state that comes from s0: its tables are s0's, warmer; what was in the heap is there -/
def jN (s0 : State) (H : Heap) : Prop := ∀ (q : Nat) (cell : Cell), s0.heap.size ≤ q → H[q]? = some cell → cell.vm.isStatics = false
def jV (s0 U : State) : Prop := s0.WarmedH U.vm ∧ s0.heap.size ≤ U.heap.size ∧ (∀ q : Nat, q < s0.heap.size → U.heap[q]? = s0.heap[q]?) ∧ jN s0 U.heap
def jA (s0 : State) : Nat → Prop := fun q => s0.heap.size ≤ q
/-- the heap H has n cells, and at the addresses of h what h says; all of h is new since s0 -/
def jR (s0 : State) (D : va_G) (h : jH) (n : Nat) (H : Heap) : Prop := H.size = n ∧ (∀ (a : Nat) (x : va_E), h a = some x → va_at D vcl (a, x) H ∧ s0.heap.size ≤ a) ∧ jN s0 H
theorem va_at_ns {D : va_G} {cl : List vw_C} {a : Nat} {x : va_E} {H : Heap} (h : va_at D cl (a, x) H) {cell : Cell} (hc : H[a]? = some cell) : cell.vm.isStatics = false := by
  cases x with
  | inl y =>
    have h1 : H[a]? = some (vp_cell y.1 y.2) := h
    rw [h1] at hc
    cases hc
    obtain ⟨c0, n0, f | f | f | f | f⟩ := y <;> rfl
  | inr o =>
    obtain ⟨r, -, c0, g1, -, g3, -⟩ := h
    have g1 : H[a]? = some c0 := g1
    rw [g1] at hc
    cases hc
    rw [g3]; rfl
def jG (w : Cond) : Prop := w ∈ lw_tbl ∧ goodWord w = true
theorem jG_of {w : Cond} (i : Nat) (h : lw_tbl[i]? = some w) (hg : goodWord w = true) : jG w := ⟨List.mem_of_getElem? h, hg⟩
theorem jG_ws {ws : List Cond} {is : List Nat} (h : ws = is.filterMap (fun i => lw_tbl[i]?)) (hg : ws.all goodWord = true) : ∀ w ∈ ws, jG w := by
  intro w hw
  refine ⟨?_, List.all_eq_true.mp hg w hw⟩
  rw [h] at hw
  obtain ⟨i, -, hi⟩ := List.mem_filterMap.mp hw
  exact List.mem_of_getElem? hi
/-- the static context of a walk -/
def jC (b : Nat) (D : va_G) (Y : Nat → ClassId) (s0 : State) (p : Program) (s : State) (m : MethodId) (args : Array Value) (meth : Method) (c : Code) (own : String) (cc : ByteArray) (nL : Nat) (ret : Option FieldType) (nm : String) : Prop :=
  p.tables.exec = Jvm.exec ∧ c.code = cc ∧ c.maxLocals = nL ∧ meth.sig.returnType = ret ∧ s.vm.findClass own = some m.cls ∧ meth.locks = false ∧ meth.name = nm ∧ jS0 b D Y s0 ∧ jV s0 s
theorem jV.word {s0 U : State} {w : Cond} {b : Nat} {D : va_G} {Y : Nat → ClassId} {args : Array Value} (h : jV s0 U) (h0 : jS0 b D Y s0) (hw : jG w) : w.before args U = true := word_at h.1 (good_of_word hw.2) (h0.1 w hw.1)
theorem jV.K {s0 U : State} {b : Nat} {D : va_G} {Y : Nat → ClassId} (h : jV s0 U) (h0 : jS0 b D Y s0) : va_K D vcl (jTy Y) U := va_K.moved h.1.alike h0.2.2
theorem jR.P {s0 : State} {D : va_G} {h : jH} {n : Nat} {H : Heap} (hR : jR s0 D h n H) {a : Nat} {x : va_E} (ha : h a = some x) : va_P D vcl [(a, x)] H := by
  intro k q hq
  have hk : k = 0 := by
    have := (List.getElem?_eq_some_iff.mp hq).1
    simp at this; exact this
  subst hk
  cases hq
  exact (hR.2.1 a x ha).1
theorem jR.lt {s0 : State} {D : va_G} {h : jH} {n : Nat} {H : Heap} (hR : jR s0 D h n H) {a : Nat} {x : va_E} (ha : h a = some x) : a < n := by
  rw [← hR.1]; exact (hR.2.1 a x ha).1.lt
theorem jR.mono {s0 : State} {D : va_G} {h h2 : jH} {n : Nat} {H : Heap} (hR : jR s0 D h n H) (hh : ∀ a x, h2 a = some x → h a = some x) : jR s0 D h2 n H := ⟨hR.1, fun a x ha => hR.2.1 a x (hh a x ha), hR.2.2⟩
theorem jR.put {s0 : State} {D : va_G} {h : jH} {n : Nat} {H H' : Heap} (hR : jR s0 D h n H) {a : Nat} {x : va_E} (hx : va_at D vcl (a, x) H') (hA : s0.heap.size ≤ a) (hz : H'.size = H.size) (ho : ∀ q : Nat, q ≠ a → H'[q]? = H[q]?) : jR s0 D (jh_up h a x) n H' := by
  refine ⟨by rw [hz]; exact hR.1, fun b y hb => ?_, fun q cell hq hc => by
    by_cases e : q = a
    · subst e; exact va_at_ns hx hc
    · rw [ho q e] at hc; exact hR.2.2 q cell hq hc⟩
  by_cases e : b = a
  · subst e
    rw [jh_up_s] at hb
    cases hb
    exact ⟨hx, hA⟩
  · rw [jh_up_n h x e] at hb
    exact ⟨(hR.2.1 b y hb).1.kept (ho b e), (hR.2.1 b y hb).2⟩
theorem jR.new {s0 : State} {D : va_G} {h : jH} {n : Nat} {H H' : Heap} (hR : jR s0 D h n H) {x : va_E} (hx : va_at D vcl (n, x) H') (hA : s0.heap.size ≤ n) (hz : H'.size = n + 1) (ho : ∀ q : Nat, q < n → H'[q]? = H[q]?) : jR s0 D (jh_up h n x) (n + 1) H' := by
  refine ⟨hz, fun b y hb => ?_, fun q cell hq hc => by
    by_cases e : q = n
    · subst e; exact va_at_ns hx hc
    · have hlt := (Array.getElem?_eq_some_iff.mp hc).1
      rw [hz] at hlt
      rw [ho q (by omega)] at hc; exact hR.2.2 q cell hq hc⟩
  by_cases e : b = n
  · subst e
    rw [jh_up_s] at hb
    cases hb
    exact ⟨hx, hA⟩
  · rw [jh_up_n h x e] at hb
    exact ⟨(hR.2.1 b y hb).1.kept (ho b (hR.lt hb)), (hR.2.1 b y hb).2⟩
def jW (b : Nat) (D : va_G) (Y : Nat → ClassId) (s0 : State) (p : Program) (l : Launch) (e : Env) (R : Room) (s : State) (m : MethodId) (args : Array Value) (below : List Frame) (meth : Method) (c : Code) (own : String) (cc : ByteArray) (nL : Nat) (ret : Option FieldType) (nm : String) (Q : State → Prop) (pc : Nat) (lv : List (Nat × Value)) (st : List Value) (h : jH) (n k sl : Nat) : Prop :=
  jC b D Y s0 p s m args meth c own cc nL ret nm → ∀ (H : Heap) (locs : List Loc) (ls : Array Slot), jR s0 D h n H → va_S (jA s0) s.heap H locs → lv_has ls nL lv → W p l e R s m args below meth c H locs k sl Q (F0 m pc ls st)
section JR
variable {b : Nat} {D : va_G} {Y : Nat → ClassId} {s0 : State} {p : Program} {l : Launch} {e : Env} {R : Room} {s : State} {m : MethodId} {args : Array Value} {below : List Frame} {meth : Method} {c : Code} {own : String} {cc : ByteArray} {nL : Nat} {ret : Option FieldType} {nm : String} {Q : State → Prop} {pc : Nat} {lv : List (Nat × Value)} {st : List Value} {h : jH} {n k sl : Nat}
theorem j_mono {h2 : jH} (hh : ∀ a x, h2 a = some x → h a = some x) (kk : jW b D Y s0 p l e R s m args below meth c own cc nL ret nm Q pc lv st h2 n k sl) : jW b D Y s0 p l e R s m args below meth c own cc nL ret nm Q pc lv st h n k sl :=
  fun C H locs ls hR hS hl => kk C H locs ls (hR.mono hh) hS hl
theorem j_lv {lv2 : List (Nat × Value)} (ks : List Nat) (hk : lv_pick lv ks = lv2) (kk : jW b D Y s0 p l e R s m args below meth c own cc nL ret nm Q pc lv2 st h n k sl) : jW b D Y s0 p l e R s m args below meth c own cc nL ret nm Q pc lv st h n k sl :=
  fun C H locs ls hR hS hl => kk C H locs ls hR hS (lv_sub hl ks hk)
theorem j_widen {k2 sl2 : Nat} (h1 : k ≤ k2) (h2 : sl ≤ sl2) (kk : jW b D Y s0 p l e R s m args below meth c own cc nL ret nm Q pc lv st h n k2 sl2) : jW b D Y s0 p l e R s m args below meth c own cc nL ret nm Q pc lv st h n k sl :=
  fun C H locs ls hR hS hl => W.widen h1 h2 (kk C H locs ls hR hS hl)
theorem j_ctx (kk : jC b D Y s0 p s m args meth c own cc nL ret nm → jW b D Y s0 p l e R s m args below meth c own cc nL ret nm Q pc lv st h n k sl) : jW b D Y s0 p l e R s m args below meth c own cc nL ret nm Q pc lv st h n k sl :=
  fun C H locs ls hR hS hl => kk C C H locs ls hR hS hl
theorem jC.ex (C : jC b D Y s0 p s m args meth c own cc nL ret nm) : p.tables.exec = Jvm.exec := C.1
theorem jC.by (C : jC b D Y s0 p s m args meth c own cc nL ret nm) : c.code = cc := C.2.1
theorem jC.ml (C : jC b D Y s0 p s m args meth c own cc nL ret nm) : c.maxLocals = nL := C.2.2.1
theorem jC.rt (C : jC b D Y s0 p s m args meth c own cc nL ret nm) : meth.sig.returnType = ret := C.2.2.2.1
theorem jC.ow (C : jC b D Y s0 p s m args meth c own cc nL ret nm) : s.vm.findClass own = some m.cls := C.2.2.2.2.1
theorem jC.lk (C : jC b D Y s0 p s m args meth c own cc nL ret nm) : meth.locks = false := C.2.2.2.2.2.1
theorem jC.na (C : jC b D Y s0 p s m args meth c own cc nL ret nm) : meth.name = nm := C.2.2.2.2.2.2.1
theorem jC.z (C : jC b D Y s0 p s m args meth c own cc nL ret nm) : jS0 b D Y s0 := C.2.2.2.2.2.2.2.1
theorem jC.v (C : jC b D Y s0 p s m args meth c own cc nL ret nm) : jV s0 s := C.2.2.2.2.2.2.2.2
theorem jC.w (C : jC b D Y s0 p s m args meth c own cc nL ret nm) {w : Cond} (hw : jG w) : w.before args s = true := C.v.word C.z hw
theorem jC.K (C : jC b D Y s0 p s m args meth c own cc nL ret nm) : va_K D vcl (jTy Y) s := C.v.K C.z
end JR
