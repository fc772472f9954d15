section JRA
variable {b : Nat} {D : va_G} {Y : Nat → ClassId} {s0 : State} {p : Program} {l : Launch} {e : Env} {R : Room} {s : State} {m : MethodId} {args : Array Value} {below : List Frame} {meth : Method} {c : Code} {own : String} {cc : ByteArray} {nL : Nat} {ret : Option FieldType} {nm : String} {Q : State → Prop} {pc : Nat} {lv : List (Nat × Value)} {st : List Value} {h : jH} {n k sl : Nat}
theorem j_iald {a N : Nat} {f : Nat → Int32} {i : Int32} (hd : decode cc pc = .ok (.iaload, 1)) (he : h a = some (.inl (Y 0, N, .inl f))) (hi : vp_in i N) (kk : jW b D Y s0 p l e R s m args below meth c own cc nL ret nm Q (pc + 1) lv (.int (f i.toNatClampNeg) :: st) h n k sl) : jW b D Y s0 p l e R s m args below meth c own cc nL ret nm Q pc lv (.int i :: .ref a :: st) h n k sl := fun C H locs ls hR hS hl => va_iald C.ex C.by C.K (hR.P he) 0 0 rfl rfl hi hd (kk C H locs ls hR hS hl)
theorem j_zald {a N : Nat} {f : Nat → Int32} {i : Int32} (hd : decode cc pc = .ok (.baload, 1)) (he : h a = some (.inl (Y 2, N, .inl f))) (hi : vp_in i N) (kk : jW b D Y s0 p l e R s m args below meth c own cc nL ret nm Q (pc + 1) lv (.int (f i.toNatClampNeg) :: st) h n k sl) : jW b D Y s0 p l e R s m args below meth c own cc nL ret nm Q pc lv (.int i :: .ref a :: st) h n k sl := fun C H locs ls hR hS hl => va_zald C.ex C.by C.K (hR.P he) 0 2 rfl rfl hi hd (kk C H locs ls hR hS hl)
theorem j_lald {a N : Nat} {f : Nat → Int64} {i : Int32} (hd : decode cc pc = .ok (.laload, 1)) (he : h a = some (.inl (Y 1, N, .inr (.inl f)))) (hi : vp_in i N) (kk : jW b D Y s0 p l e R s m args below meth c own cc nL ret nm Q (pc + 1) lv (.long (f i.toNatClampNeg) :: st) h n k sl) : jW b D Y s0 p l e R s m args below meth c own cc nL ret nm Q pc lv (.int i :: .ref a :: st) h n k sl := fun C H locs ls hR hS hl => va_lald C.ex C.by C.K (hR.P he) 0 1 rfl rfl hi hd (kk C H locs ls hR hS hl)
theorem j_alen {a : Nat} {x : vp_A} {t : Nat} {ty : FieldType} {v : Int32} (t0 : Nat) (ht : (jTy Y)[t0]? = some (Y t, ty)) (hd : decode cc pc = .ok (.arraylength, 1)) (he : h a = some (.inl (Y t, x))) (hv : Int32.ofNat x.1 = v) (kk : jW b D Y s0 p l e R s m args below meth c own cc nL ret nm Q (pc + 1) lv (.int v :: st) h n k sl) : jW b D Y s0 p l e R s m args below meth c own cc nL ret nm Q pc lv (.ref a :: st) h n k sl := fun C H locs ls hR hS hl => va_alen C.ex C.by C.K (hR.P he) 0 t0 rfl ht hv hd (kk C H locs ls hR hS hl)
theorem j_iast {a N : Nat} {f : Nat → Int32} {i : Int32} {x : Int32} (hd : decode cc pc = .ok (.iastore, 1)) (he : h a = some (.inl (Y 0, N, .inl f))) (hi : vp_in i N) (kk : jW b D Y s0 p l e R s m args below meth c own cc nL ret nm Q (pc + 1) lv st (jh_up h a (.inl (Y 0, N, .inl (upd f i.toNatClampNeg x)))) n k sl) : jW b D Y s0 p l e R s m args below meth c own cc nL ret nm Q pc lv (.int x :: .int i :: .ref a :: st) h n k sl := by
  intro C H locs ls hR hS hl
  have hc : H[a]? = some (vp_cell (Y 0) (N, .inl f)) := (hR.2.1 a _ he).1
  refine W.iast C.ex C.by hc ((C.K.2 0 _ rfl).1 N (fun j => .int (f j))) (fun q => by cases q) (by show ¬ (i < 0 ∨ (arrV _ _ _).slots.size ≤ _); rw [arrV_size]; exact hi) rfl rfl hd fun H1 e z oq => ?_
  refine kk C H1 _ ls (hR.put ?_ (hR.2.1 a _ he).2 z oq) (hS.put z oq (hR.2.1 a _ he).2) hl
  show H1[a]? = some (vp_cell _ _)
  rw [e, vp_cell_i, vp_cell_i, arrV_store]
  congr 2
  funext q
  by_cases hq : q = i.toNatClampNeg
  · subst hq
    simp [updV, upd]
  · simp [updV, upd, hq]
theorem j_last {a N : Nat} {f : Nat → Int64} {i : Int32} {x : Int64} (hd : decode cc pc = .ok (.lastore, 1)) (he : h a = some (.inl (Y 1, N, .inr (.inl f)))) (hi : vp_in i N) (kk : jW b D Y s0 p l e R s m args below meth c own cc nL ret nm Q (pc + 1) lv st (jh_up h a (.inl (Y 1, N, .inr (.inl (vp_updL f i.toNatClampNeg x))))) n k sl) : jW b D Y s0 p l e R s m args below meth c own cc nL ret nm Q pc lv (.long x :: .int i :: .ref a :: st) h n k sl := by
  intro C H locs ls hR hS hl
  have hc : H[a]? = some (vp_cell (Y 1) (N, .inr (.inl f))) := (hR.2.1 a _ he).1
  refine W.last C.ex C.by hc ((C.K.2 1 _ rfl).1 N (fun j => .long (f j))) (fun q => by cases q) (by show ¬ (i < 0 ∨ (arrV _ _ _).slots.size ≤ _); rw [arrV_size]; exact hi) rfl rfl hd fun H1 e z oq => ?_
  refine kk C H1 _ ls (hR.put ?_ (hR.2.1 a _ he).2 z oq) (hS.put z oq (hR.2.1 a _ he).2) hl
  show H1[a]? = some (vp_cell _ _)
  rw [e, vp_cell_l, vp_cell_l, arrV_store]
  congr 2
  funext q
  by_cases hq : q = i.toNatClampNeg
  · subst hq
    simp [updV, vp_updL]
  · simp [updV, vp_updL, hq]
theorem j_aast {a N v ci : Nat} {f : Nat → Option Nat} {i : Int32} {T : u_T} {M : Nat} {vs : List Value} (hd : decode cc pc = .ok (.aastore, 1)) (he : h a = some (.inl (Y 3, N, .inr (.inr (.inr (.inr f)))))) (hi : vp_in i N) (hv : h v = some (.inr (ci, vs))) (hc : vcl[ci]? = some ("FactorDesk$Poly", T, M)) (kk : jW b D Y s0 p l e R s m args below meth c own cc nL ret nm Q (pc + 1) lv st (jh_up h a (.inl (Y 3, N, .inr (.inr (.inr (.inr (va_up f i.toNatClampNeg (some v)))))))) n k sl) : jW b D Y s0 p l e R s m args below meth c own cc nL ret nm Q pc lv (.ref v :: .int i :: .ref a :: st) h n k sl := by
  intro C H locs ls hR hS hl
  have hlt : i.toNatClampNeg < N := Nat.not_le.mp fun q => hi (Or.inr q)
  have h0 : ¬ i < 0 := fun q => hi (Or.inl q)
  have hca : H[a]? = some (vp_cell (Y 3) (N, .inr (.inr (.inr (.inr f))))) := (hR.2.1 a _ he).1
  obtain ⟨⟨r, hr, cellV, g1, g2, g3, -⟩, -⟩ := hR.2.1 v _ hv
  have hcls := (C.K.1 ci _ hc).2
  obtain ⟨kA, comp, k1, k2, k3, -⟩ := (C.K.2 3 _ rfl).2
  have hcomp : comp = D.1 ci := Option.some.inj (k3.symm.trans hcls.1)
  subst hcomp
  obtain ⟨kC, hkC, -⟩ := hcls.2
  refine W.aast C.ex C.by hca (fun q h => by cases h) (fun h => by cases h) k1 k2 rfl hkC ⟨h0, by show _ < (arrV _ _ _).slots.size; rw [arrV_size]; exact hlt⟩ g1 (fun q h => by rw [g3] at h; cases h) (by rw [g2]; exact hkC) (by rw [g2]; exact va_assign hcls) rfl rfl hd fun H1 e z oq => ?_
  refine kk C H1 _ ls (hR.put ?_ (hR.2.1 a _ he).2 z oq) (hS.put z oq (hR.2.1 a _ he).2) hl
  show H1[a]? = some (vp_cell _ _)
  rw [e, vp_cell_q, vp_cell_q, arrV_store]
  congr 2
  funext q
  by_cases hq : q = i.toNatClampNeg
  · subst hq
    simp [updV, va_up, va_rf]
  · simp [updV, va_up, hq]
theorem jC.n0 (C : jC b D Y s0 p s m args meth c own cc nL ret nm) {H : Heap} {locs : List Loc} (hR : jR s0 D h n H) (hS : va_S (jA s0) s.heap H locs) : s0.heap.size ≤ n := by
  rw [← hR.1]; exact Nat.le_trans C.v.2.1 hS.1
theorem jS_grow {H H1 : Heap} {locs : List Loc} (hS : va_S (jA s0) s.heap H locs) (hz : H.size ≤ H1.size) (ho : ∀ q : Nat, q < H.size → H1[q]? = H[q]?) : va_S (jA s0) s.heap H1 locs :=
  ⟨Nat.le_trans hS.1 hz, fun x h1 h2 => (ho x (Nat.lt_of_lt_of_le h1 hS.1)).trans (hS.2.1 x h1 h2), hS.2.2⟩
theorem j_new {Cn : String} {T : u_T} {N ci index : Nat} {fs : List Value} (hin : ∀ w ∈ u_ws Cn T N, jG w) (ty0 : Nat → FieldType) (hty : ∀ k, k < N → parseFieldDescriptor (T k).2.2.1 = some (ty0 k)) (hc : vcl[ci]? = some (Cn, T, N)) (hw1 : jG (.classLink own index Cn)) (hw2 : jG (.instantiable Cn N)) (hw3 : jG (.initialized Cn)) (hfs : ∀ j, j < N → defaultValue (ty0 j) = vp_V fs j) (hk : k + 1 ≤ R.cells) (hs : sl + N ≤ R.slots) (hd : decode cc pc = .ok (.new index, 3)) (kk : jW b D Y s0 p l e R s m args below meth c own cc nL ret nm Q (pc + 3) lv (.ref n :: st) (jh_up h n (.inr (ci, fs))) (n + 1) (k + 1) (sl + N)) : jW b D Y s0 p l e R s m args below meth c own cc nL ret nm Q pc lv st h n k sl := by
  intro C H locs ls hR hS hl
  have hKn := C.K.1 ci _ hc
  refine W.newcK C.ex C.by C.ow (C.w hw1) (C.w hw2) (C.w hw3) rfl hd hk hs hKn.2.1 hR.1 fun H1 kC hkC e1 z1 o1 => ?_
  exact kk C H1 _ ls (hR.new (x := .inr (ci, fs)) ⟨_, hc, (u_born (ws := u_ws Cn T N) ty0 (fun w hw => C.w (hin w hw)) (fun _ h9 => h9) hKn hkC e1 hty).to hfs⟩ (C.n0 hR hS) z1 o1) (jS_grow hS (by rw [z1, hR.1]; omega) (fun q hq => o1 q (by rw [← hR.1]; exact hq))) hl
theorem j_newI {z : Int32} {N : Nat} (hw : jG (.arrayClass .int)) (hz : ¬ z < 0) (hN : z.toNatClampNeg = N) (hb1 : N * 8 ≤ 536870912) (hk : k + 1 ≤ R.cells) (hs : sl + N ≤ R.slots) (hd : decode cc pc = .ok (.newarray .int, 2)) (kk : jW b D Y s0 p l e R s m args below meth c own cc nL ret nm Q (pc + 2) lv (.ref n :: st) (jh_up h n (.inl (Y 0, N, .inl (fun _ => 0)))) (n + 1) (k + 1) (sl + N)) : jW b D Y s0 p l e R s m args below meth c own cc nL ret nm Q pc lv (.int z :: st) h n k sl := by
  intro C H locs ls hR hS hl
  refine va_newaK C.ex C.by (atype := .int) (C.w hw) rfl hd rfl hz hN (by show N * _ ≤ _; first | omega | (simp [componentBytes, newarray.typeOf]; omega)) hk hs hR.1 fun H1 cA e1 z1 o1 hAr hNm => ?_
  have hcA : cA = Y 0 := Option.some.inj (hNm.symm.trans (C.K.2 0 _ rfl).2)
  subst hcA
  refine kk C H1 _ ls (hR.new (x := .inl (Y 0, N, .inl (fun _ => 0))) ?_ (C.n0 hR hS) z1 o1) (jS_grow hS (by rw [z1, hR.1]; omega) (fun q hq => o1 q (by rw [← hR.1]; exact hq))) hl
  show H1[n]? = some (vp_cell _ _)
  rw [vp_cell_i]
  exact e1
theorem j_newJ {z : Int32} {N : Nat} (hw : jG (.arrayClass .long)) (hz : ¬ z < 0) (hN : z.toNatClampNeg = N) (hb1 : N * 8 ≤ 536870912) (hk : k + 1 ≤ R.cells) (hs : sl + N ≤ R.slots) (hd : decode cc pc = .ok (.newarray .long, 2)) (kk : jW b D Y s0 p l e R s m args below meth c own cc nL ret nm Q (pc + 2) lv (.ref n :: st) (jh_up h n (.inl (Y 1, N, .inr (.inl (fun _ => 0))))) (n + 1) (k + 1) (sl + N)) : jW b D Y s0 p l e R s m args below meth c own cc nL ret nm Q pc lv (.int z :: st) h n k sl := by
  intro C H locs ls hR hS hl
  refine va_newaK C.ex C.by (atype := .long) (C.w hw) rfl hd rfl hz hN (by show N * _ ≤ _; first | omega | (simp [componentBytes, newarray.typeOf]; omega)) hk hs hR.1 fun H1 cA e1 z1 o1 hAr hNm => ?_
  have hcA : cA = Y 1 := Option.some.inj (hNm.symm.trans (C.K.2 1 _ rfl).2)
  subst hcA
  refine kk C H1 _ ls (hR.new (x := .inl (Y 1, N, .inr (.inl (fun _ => 0)))) ?_ (C.n0 hR hS) z1 o1) (jS_grow hS (by rw [z1, hR.1]; omega) (fun q hq => o1 q (by rw [← hR.1]; exact hq))) hl
  show H1[n]? = some (vp_cell _ _)
  rw [vp_cell_l]
  exact e1
theorem j_newZ {z : Int32} {N : Nat} (hw : jG (.arrayClass .boolean)) (hz : ¬ z < 0) (hN : z.toNatClampNeg = N) (hb1 : N * 8 ≤ 536870912) (hk : k + 1 ≤ R.cells) (hs : sl + N ≤ R.slots) (hd : decode cc pc = .ok (.newarray .boolean, 2)) (kk : jW b D Y s0 p l e R s m args below meth c own cc nL ret nm Q (pc + 2) lv (.ref n :: st) (jh_up h n (.inl (Y 2, N, .inl (fun _ => 0)))) (n + 1) (k + 1) (sl + N)) : jW b D Y s0 p l e R s m args below meth c own cc nL ret nm Q pc lv (.int z :: st) h n k sl := by
  intro C H locs ls hR hS hl
  refine va_newaK C.ex C.by (atype := .boolean) (C.w hw) rfl hd rfl hz hN (by show N * _ ≤ _; first | omega | (simp [componentBytes, newarray.typeOf]; omega)) hk hs hR.1 fun H1 cA e1 z1 o1 hAr hNm => ?_
  have hcA : cA = Y 2 := Option.some.inj (hNm.symm.trans (C.K.2 2 _ rfl).2)
  subst hcA
  refine kk C H1 _ ls (hR.new (x := .inl (Y 2, N, .inl (fun _ => 0))) ?_ (C.n0 hR hS) z1 o1) (jS_grow hS (by rw [z1, hR.1]; omega) (fun q hq => o1 q (by rw [← hR.1]; exact hq))) hl
  show H1[n]? = some (vp_cell _ _)
  rw [vp_cell_i]
  exact e1
theorem jC.ao (C : jC b D Y s0 p s m args meth c own cc nL ret nm) {Cn : String} (hw : Cond.arrayOver (.object Cn) ∈ lw_tbl) : va_AO Cn s := va_AO.moved C.v.1.alike (va_AO.of (C.z.1 _ hw))
theorem j_newP {index : Nat} {z : Int32} {N : Nat} (hw1 : jG (.classLink own index "FactorDesk$Poly")) (hw2 : Cond.arrayOver (.object "FactorDesk$Poly") ∈ lw_tbl) (hz : ¬ z < 0) (hN : z.toNatClampNeg = N) (hb1 : N * 4 ≤ 536870912) (hk : k + 1 ≤ R.cells) (hs : sl + N ≤ R.slots) (hd : decode cc pc = .ok (.anewarray index, 3)) (kk : jW b D Y s0 p l e R s m args below meth c own cc nL ret nm Q (pc + 3) lv (.ref n :: st) (jh_up h n (.inl (Y 3, N, .inr (.inr (.inr (.inr (fun _ => none))))))) (n + 1) (k + 1) (sl + N)) : jW b D Y s0 p l e R s m args below meth c own cc nL ret nm Q pc lv (.int z :: st) h n k sl := by
  intro C H locs ls hR hS hl
  subst hN
  refine W.anew C.ex C.by C.ow (C.w hw1) (va_AO.use (C.ao hw2)) rfl hd rfl hz hb1 hk hs fun cA kA comp f1 f2 f3 f4 => ?_
  generalize hH1 : H.push ({ cls := cA, slots := Array.replicate z.toNatClampNeg .null, vm := .none } : Cell) = H1
  have z1 : H1.size = H.size + 1 := by rw [← hH1, Array.size_push]
  have e1 : H1[H.size]? = some (arrV cA z.toNatClampNeg (fun _ => .null)) := by rw [← hH1, Array.getElem?_push_size, ← arrV_new]
  have o1 : ∀ q : Nat, q < H.size → H1[q]? = H[q]? := fun q hq => by rw [← hH1, Array.getElem?_push, if_neg (Nat.ne_of_lt hq)]
  obtain ⟨kA2, comp2, -, -, -, hNm⟩ := (C.K.2 3 _ rfl).2
  have hcA : cA = Y 3 := Option.some.inj (f1.symm.trans hNm)
  subst hcA
  have hn := hR.1
  rw [hn] at z1 e1 o1
  have hx : va_at D vcl (n, .inl (Y 3, z.toNatClampNeg, .inr (.inr (.inr (.inr (fun _ => none)))))) H1 := by
    show H1[n]? = some (vp_cell _ _)
    rw [vp_cell_q]
    exact e1
  have K := kk C H1 locs ls (hR.new hx (C.n0 hR hS) z1 o1) (jS_grow hS (by rw [z1, hn]; omega) (fun q hq => o1 q (by rw [← hn]; exact hq))) hl
  rw [hn]
  exact K
end JRA
def jrm (fr mc ms : Nat) : Room := { frames := fr, cells := mc, slots := ms, locals := 42 * fr }
def jPre (D : va_G) (s0 : State) (av : List Value) (h : jH) (n : Nat) : Array Value → State → Prop := fun v U => v = av.toArray ∧ jV s0 U ∧ jR s0 D h n U.heap
def jPost (D : va_G) (s0 : State) (Post : Option Value → jH → Nat → Prop) : Array Value → State → Outcome → State → Prop := fun _ st o t => (∃ (r : Option Value) (h2 : jH) (n2 : Nat), o = .returned r ∧ Post r h2 n2 ∧ jR s0 D h2 n2 t.heap) ∧ va_F (jA s0) st t
def jMet (l : Launch) (D : va_G) (s0 : State) (y : MethodName) (cc : ByteArray) (maxL : Nat) (ret : Option FieldType) (fr : Nat) (av : List Value) (h : jH) (n mc ms : Nat) (Post : Option Value → jH → Nat → Prop) : Prop :=
  Met l y [.code y cc maxL ret] (jrm fr mc ms) (jPre D s0 av h n) (jPost D s0 Post) mc ms (jA s0)
section JRC
variable {b : Nat} {D : va_G} {Y : Nat → ClassId} {s0 : State} {p : Program} {l : Launch} {e : Env} {R : Room} {s : State} {m : MethodId} {args : Array Value} {below : List Frame} {meth : Method} {c : Code} {own : String} {cc : ByteArray} {nL : Nat} {ret : Option FieldType} {nm : String} {Q : State → Prop} {pc : Nat} {lv : List (Nat × Value)} {st : List Value} {h : jH} {n k sl : Nat}
theorem jMet_of {y : MethodName} {cy : ByteArray} {maxL fr mc ms : Nat} {rt : Option FieldType} {av : List Value} {Post : Option Value → jH → Nat → Prop} (Z : jS0 b D Y s0) (hy : plainName y.cls = true) (hlen : (lg_sl av).length ≤ maxL)
    (body : ∀ (p : Program) (e : Env) (s : State) (m : MethodId) (below : List Frame) (meth : Method) (c : Code), jW b D Y s0 p l e (jrm fr mc ms) s m av.toArray below meth c y.cls cy maxL rt y.name (MQ below (jPost D s0 Post) av.toArray s mc ms (jA s0)) 0 (lv_args 0 av) [] h n 0 0) : jMet l D s0 y cy maxL rt fr av h n mc ms Post := by
  refine Met.ofW (cc := cy) (maxL := maxL) (ret := rt) hy rfl ?_
  intro p e s m args below meth c s₁ B hml hv
  obtain ⟨rfl, hV, hR⟩ := hv
  have hown : s.vm.findClass y.cls = some m.cls := findClass_of_methodNamed B.named
  rw [lg_entry_eq]
  exact body p e s m below meth c ⟨B.exec, B.bytes, hml, B.returns, hown, B.notSynchronized, (name_of_methodNamed B.named B.method).1, Z, hV⟩ s.heap [] _ hR va_S.rf (lv_entry av hlen)
theorem j_iret {Post : Option Value → jH → Nat → Prop} {v : Int32} (hr : ret = some .int) (hd : decode cc pc = .ok (.ireturn, 1)) (hp : Post (some (.int v)) h n) : jW b D Y s0 p l e R s m args below meth c own cc nL ret nm (MQ below (jPost D s0 Post) args s k sl (jA s0)) pc lv [.int v] h n k sl := fun C H locs ls hR hS hl =>
  W.iret C.ex C.by (C.rt.trans hr) (fun t ht _ => ⟨⟨_, _, _, rfl, hp, by rw [ht]; exact hR⟩, hS.F ht⟩) hS.2.2 hd (hlocks := C.lk)
theorem j_zret {Post : Option Value → jH → Nat → Prop} {v : Int32} (hr : ret = some .boolean) (hn : narrow .boolean (.int v) = .int v) (hd : decode cc pc = .ok (.ireturn, 1)) (hp : Post (some (.int v)) h n) : jW b D Y s0 p l e R s m args below meth c own cc nL ret nm (MQ below (jPost D s0 Post) args s k sl (jA s0)) pc lv [.int v] h n k sl := fun C H locs ls hR hS hl =>
  W.zret C.ex C.by (C.rt.trans hr) hn (fun t ht _ => ⟨⟨_, _, _, rfl, hp, by rw [ht]; exact hR⟩, hS.F ht⟩) hS.2.2 hd (hlocks := C.lk)
theorem j_lret {Post : Option Value → jH → Nat → Prop} {v : Int64} (hr : ret = some .long) (hd : decode cc pc = .ok (.lreturn, 1)) (hp : Post (some (.long v)) h n) : jW b D Y s0 p l e R s m args below meth c own cc nL ret nm (MQ below (jPost D s0 Post) args s k sl (jA s0)) pc lv [.long v] h n k sl := fun C H locs ls hR hS hl =>
  W.lret C.ex C.by (C.rt.trans hr) (fun t ht _ => ⟨⟨_, _, _, rfl, hp, by rw [ht]; exact hR⟩, hS.F ht⟩) hS.2.2 hd (hlocks := C.lk)
theorem j_vret {Post : Option Value → jH → Nat → Prop} (hr : ret = none) (hd : decode cc pc = .ok (.return_, 1)) (hp : Post none h n) : jW b D Y s0 p l e R s m args below meth c own cc nL ret nm (MQ below (jPost D s0 Post) args s k sl (jA s0)) pc lv [] h n k sl := fun C H locs ls hR hS hl =>
  W.vret C.ex C.by (C.rt.trans hr) (fun t ht _ => ⟨⟨_, _, _, rfl, hp, by rw [ht]; exact hR⟩, hS.F ht⟩) hS.2.2 hd (hlocks := C.lk)
theorem jPre_blind {av : List Value} : FrameBlind (jPre D s0 av h n) := fun _ _ _ _ q => ⟨q.1, q.2.1, q.2.2⟩
theorem jPre_at {av : List Value} (C : jC b D Y s0 p s m args meth c own cc nL ret nm) {H : Heap} {locs : List Loc} (hR : jR s0 D h n H) (hS : va_S (jA s0) s.heap H locs) {U : State} (hU : U.heap = H) (hW : s.WarmedH U.vm) : jPre D s0 av h n av.toArray U := by
  refine ⟨rfl, ⟨State.WarmedH.trans C.v.1 hW, ?_, fun q hq => ?_, by rw [hU]; exact hR.2.2⟩, by rw [hU]; exact hR⟩
  · rw [hU]; exact Nat.le_trans C.v.2.1 hS.1
  · rw [hU, hS.2.1 q (Nat.lt_of_lt_of_le hq C.v.2.1) (Nat.not_le.mpr hq)]; exact C.v.2.2.1 q hq
theorem jS_call {H : Heap} {locs L : List Loc} {st₀ t : State} (hS : va_S (jA s0) s.heap H locs) (h0 : st₀.heap = H) (hF : va_F (jA s0) st₀ t) (hL : ∀ q ∈ L, jA s0 q.base) : va_S (jA s0) s.heap t.heap (locs ++ L) := by
  subst h0
  refine ⟨Nat.le_trans hS.1 hF.1, fun q h1 h2 => (hF.2 q (Nat.lt_of_lt_of_le h1 hS.1) h2).trans (hS.2.1 q h1 h2), fun q hq => ?_⟩
  rcases List.mem_append.mp hq with h1 | h1
  · exact hS.2.2 q h1
  · exact hL q h1
theorem j_goes {mc ms : Nat} {Post : Option Value → jH → Nat → Prop} {a9 : Array Value} {st1 : List Value} (hrun : ∀ (H : Heap) (locs : List Loc) (ls : Array Slot), jC b D Y s0 p s m args meth c own cc nL ret nm → jR s0 D h n H → va_S (jA s0) s.heap H locs → lv_has ls nL lv → CallRun p l e R s m args below meth c H locs k sl mc ms (F0 m pc ls st1) st (jPost D s0 Post a9) (jA s0))
    (kk : ∀ (r : Option Value) (h2 : jH) (n2 : Nat), Post r h2 n2 → jW b D Y s0 p l e R s m args below meth c own cc nL ret nm Q (pc + 3) lv (r.toList ++ st) h2 n2 (k + mc) (sl + ms)) : jW b D Y s0 p l e R s m args below meth c own cc nL ret nm Q pc lv st1 h n k sl := by
  intro C H locs ls hR hS hl T hT X
  obtain ⟨v, st₀, t, T1, L, h0, X1, hL, e1, ⟨⟨r, h2, n2, ho, hp, hR2⟩, hF⟩, go⟩ := hrun H locs ls C hR hS hl T hT X
  cases ho
  obtain ⟨t2, a1, b1⟩ := kk v h2 n2 hp C t.heap (locs ++ L) ls hR2 (jS_call hS h0 hF hL) hl T1 e1 X1
  exact ⟨t2, go t2 a1, b1⟩
theorem jG_all {ws : List Cond} (h : ∀ w ∈ ws, jG w) (C : jC b D Y s0 p s m args meth c own cc nL ret nm) : (∀ w ∈ ws, w.before args s = true) ∧ GoodIn ws ws := ⟨fun w hw => C.w (h w hw), fun w hw => ⟨hw, good_of_word (h w hw).2⟩⟩
def jCallee (own : String) (idx : Nat) (y : MethodName) (cy : ByteArray) (maxL : Nat) (rt : Option FieldType) (fr np : Nat) (R : Room) : Prop := (fr + 1 ≤ R.frames ∧ 8 + (maxL + 11) + 42 * fr ≤ R.locals) ∧ jG (.methodLink own idx y) ∧ jG (.code y cy maxL rt) ∧ jG (.initialized y.cls) ∧ (y.cls ≠ "java/lang/invoke/MethodHandle" ∧ y.cls ≠ "java/lang/invoke/VarHandle" ∧ (parseMethodDescriptor y.desc).map (fun d => d.parameters.length) = some np)
theorem j_callV {y : MethodName} {cy : ByteArray} {maxL fr mc ms idx a ci : Nat} {rt : Option FieldType} {av : List Value} {Post : Option Value → jH → Nat → Prop} {T : u_T} {N : Nat} {fs : List Value} (M : jMet l D s0 y cy maxL rt fr (.ref a :: av) h n mc ms Post) (hy : jCallee own idx y cy maxL rt fr av.length R) (hw2 : jG (.instanceMethod y)) (hw3 : jG (.selects y.cls y y)) (hc : vcl[ci]? = some (y.cls, T, N)) (he : h a = some (.inr (ci, fs))) (hcs : k + mc ≤ R.cells ∧ sl + ms ≤ R.slots) (hst : (st.map fun v => v.category).sum ≤ 8) (hd : decode cc pc = .ok (.invokevirtual idx, 3)) (kk : ∀ (r : Option Value) (h2 : jH) (n2 : Nat), Post r h2 n2 → jW b D Y s0 p l e R s m args below meth c own cc nL ret nm Q (pc + 3) lv (r.toList ++ st) h2 n2 (k + mc) (sl + ms)) : jW b D Y s0 p l e R s m args below meth c own cc nL ret nm Q pc lv (av.reverse ++ .ref a :: st) h n k sl := by
  refine j_goes (a9 := (Value.ref a :: av).toArray) (mc := mc) (ms := ms) (fun H locs ls C hR hS hl => ?_) kk
  obtain ⟨hfr, hw1, hw5, hw4, hdd⟩ := hy
  have hG : ∀ w ∈ wsV own idx y.cls y [.code y cy maxL rt], jG w := by
    intro w hw
    simp only [wsV, List.cons_append, List.nil_append, List.mem_cons, List.not_mem_nil, or_false] at hw
    rcases hw with rfl | rfl | rfl | rfl | rfl
    · exact hw1
    · exact hw2
    · exact hw3
    · exact hw4
    · exact hw5
  obtain ⟨g1, g2⟩ := jG_all hG C
  exact W.runV (As := av) (rest := st) ⟨C.ex, C.by, C.ml, C.ow, g1⟩ M (cwV av.length g1 g2 rfl rfl rfl ⟨rfl, hdd⟩ hfr) ⟨jPre_blind, va_recv C.K (hR.P he) hc (q0 := 0) rfl, fun U hU hW => jPre_at C hR hS hU hW⟩ rfl rfl hl.1 rfl (lv_room hst) hd hcs
theorem j_callS {y : MethodName} {cy : ByteArray} {maxL fr mc ms idx : Nat} {rt : Option FieldType} {av : List Value} {Post : Option Value → jH → Nat → Prop} (M : jMet l D s0 y cy maxL rt fr av h n mc ms Post) (hy : jCallee own idx y cy maxL rt fr av.length R) (hw2 : jG (.static y)) (hcs : k + mc ≤ R.cells ∧ sl + ms ≤ R.slots) (hst : (st.map fun v => v.category).sum ≤ 8) (hd : decode cc pc = .ok (.invokestatic idx, 3)) (kk : ∀ (r : Option Value) (h2 : jH) (n2 : Nat), Post r h2 n2 → jW b D Y s0 p l e R s m args below meth c own cc nL ret nm Q (pc + 3) lv (r.toList ++ st) h2 n2 (k + mc) (sl + ms)) : jW b D Y s0 p l e R s m args below meth c own cc nL ret nm Q pc lv (av.reverse ++ st) h n k sl := by
  refine j_goes (a9 := av.toArray) (mc := mc) (ms := ms) (fun H locs ls C hR hS hl => ?_) kk
  obtain ⟨hfr, hw1, hw5, hw4, hdd⟩ := hy
  have hG : ∀ w ∈ [Cond.code y cy maxL rt], jG w := by
    intro w hw
    rw [List.mem_singleton.mp hw]; exact hw5
  obtain ⟨g1, g2⟩ := jG_all hG C
  exact W.runS (As := av) (rest := st) ⟨C.ex, C.by, C.ml, C.ow, g1⟩ M ⟨callB_of av.length g1 g2 rfl rfl rfl (C.w hw4) (C.w hw1) hdd hfr, C.w hw2⟩ ⟨jPre_blind, fun U hU hW => jPre_at C hR hS hU hW⟩ rfl rfl hl.1 rfl (lv_room hst) hd hcs
theorem j_callI {y : MethodName} {cy : ByteArray} {maxL fr mc ms idx a : Nat} {av : List Value} {Post : Option Value → jH → Nat → Prop} (M : jMet l D s0 y cy maxL none fr (.ref a :: av) h n mc ms Post) (hy : jCallee own idx y cy maxL none fr av.length R) (hw2 : jG (.instanceMethod y)) (hini : y.name = "<init>") (hcs : k + mc ≤ R.cells ∧ sl + ms ≤ R.slots) (hst : (st.map fun v => v.category).sum ≤ 8) (hd : decode cc pc = .ok (.invokespecial idx, 3)) (kk : ∀ (r : Option Value) (h2 : jH) (n2 : Nat), Post r h2 n2 → jW b D Y s0 p l e R s m args below meth c own cc nL ret nm Q (pc + 3) lv (r.toList ++ st) h2 n2 (k + mc) (sl + ms)) : jW b D Y s0 p l e R s m args below meth c own cc nL ret nm Q pc lv (av.reverse ++ .ref a :: st) h n k sl := by
  refine j_goes (a9 := (Value.ref a :: av).toArray) (mc := mc) (ms := ms) (fun H locs ls C hR hS hl => ?_) kk
  obtain ⟨hfr, hw1, hw5, hw4, hdd⟩ := hy
  have hG : ∀ w ∈ [Cond.code y cy maxL none], jG w := by
    intro w hw
    rw [List.mem_singleton.mp hw]; exact hw5
  obtain ⟨g1, g2⟩ := jG_all hG C
  exact W.runI (As := av) (rest := st) ⟨C.ex, C.by, C.ml, C.ow, g1⟩ M (cwI av.length g1 g2 rfl rfl rfl (C.w hw4) (C.w hw1) (C.w hw2) hini hdd hfr) ⟨jPre_blind, fun U hU hW => jPre_at C hR hS hU hW⟩ rfl rfl hl.1 rfl (lv_room hst) hd hcs
theorem j_objInit {idx a : Nat} (hw1 : jG (.methodLink own idx objectInit)) (hw2 : jG (.instanceMethod objectInit)) (hw3 : jG (.code objectInit ⟨#[0xb1]⟩ 1 none)) (hst : (st.map fun v => v.category).sum + 12 ≤ R.locals) (hf : 1 ≤ R.frames) (hd : decode cc pc = .ok (.invokespecial idx, 3)) (kk : jW b D Y s0 p l e R s m args below meth c own cc nL ret nm Q (pc + 3) lv st h n k sl) : jW b D Y s0 p l e R s m args below meth c own cc nL ret nm Q pc lv (.ref a :: st) h n k sl := fun C H locs ls hR hS hl =>
  W.objInit C.ex C.by C.ow (C.w hw1) (C.w hw2) (C.w hw3) rfl (by rw [C.ml]; exact hl.1) rfl hd hf (by show 2 * 0 + _ + 12 ≤ _; omega) (kk C H locs ls hR hS hl)
end JRC
