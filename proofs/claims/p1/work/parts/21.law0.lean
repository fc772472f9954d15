theorem m64_ne {m0 : Int32} (h1 : 1 ≤ m0) : ¬ m0.toInt64 = 0 := by
  intro h
  have h2 := congrArg Int64.toInt h
  rw [Int32.toInt_toInt64] at h2
  have h4 : (1 : Int32).toInt ≤ m0.toInt := Int32.le_iff_toInt_le.mp h1
  have h5 : (1 : Int32).toInt = 1 := by decide
  have h6 : (0 : Int64).toInt = 0 := by decide
  omega
theorem jv_eq {m0 : Int32} (h1 : 1 ≤ m0) (a b : Int64) : jfm (0 * a + 1) m0.toInt64 = jr2 (0 * b + 1) m0.toInt64 := by
  rw [Int64.zero_mul, Int64.zero_mul, Int64.zero_add]
  by_cases he : m0 = 1
  · subst he; decide
  · have h4 : (1 : Int32).toInt ≤ m0.toInt := Int32.le_iff_toInt_le.mp h1
    have h5 : (1 : Int32).toInt = 1 := by decide
    have h7 : m0.toInt ≠ 1 := fun h => he (Int32.toInt_inj.mp (h.trans h5.symm))
    have h8 : m0.toInt < 2 ^ 31 := Int32.toInt_lt m0
    have hM : m0.toInt64.toInt = m0.toInt := Int32.toInt_toInt64 m0
    generalize m0.toInt64 = M at hM ⊢
    generalize m0.toInt = z at *
    have h1i : (1 : Int64).toInt = 1 := by decide
    have h0i : (0 : Int64).toInt = 0 := by decide
    have d1 : (1 : Int64) / M = 0 := by
      apply Int64.toInt_inj.mp
      rw [Int64.toInt_div, h1i, hM, h0i, Int.tdiv_eq_zero_of_lt (by omega) (by omega)]
      decide
    have sM : (1 + M).toInt = 1 + z := by
      rw [Int64.toInt_add, h1i, hM]
      exact Int.bmod_eq_of_le (by omega) (by omega)
    have d2 : (1 + M) / M = 1 := by
      apply Int64.toInt_inj.mp
      rw [Int64.toInt_div, sM, hM, h1i]
      have : Int.tdiv (1 + z) z = 1 := by
        rw [Int.tdiv_eq_ediv_of_nonneg (by omega)]
        rw [Int.add_ediv_of_dvd_right (Int.dvd_refl z), Int.ediv_self (by omega), Int.ediv_eq_zero_of_lt (by omega) (by omega)]
        rfl
      rw [this]; decide
    have e1 : jr1 1 M = 1 := by unfold jr1; rw [d1, Int64.zero_mul]; decide
    have e2 : jr2 1 M = 1 := by
      unfold jr2; rw [e1]; unfold jr1; rw [d2, Int64.one_mul]; exact Int64.add_sub_cancel _ _
    have hx : ¬ (1 ^^^ M) < 0 := by
      intro hlt
      have hlt2 := Int64.lt_iff_toInt_lt.mp hlt
      rw [h0i] at hlt2
      have hm : M.toBitVec.msb = false := by
        have hh : 0 ≤ M.toBitVec.toInt := by show 0 ≤ M.toInt; omega
        rw [BitVec.msb_eq_toInt]; simpa using hh
      have hm2 : (1 ^^^ M).toBitVec.msb = false := by
        rw [Int64.toBitVec_xor, BitVec.msb_xor, hm]; decide
      have : 0 ≤ (1 ^^^ M).toInt := by
        show 0 ≤ (1 ^^^ M).toBitVec.toInt
        rw [BitVec.msb_eq_toInt] at hm2; simpa using hm2
      omega
    rw [e2]; unfold jfm; rw [if_pos ((lg_cmp_ge _ _).mpr (Int64.not_lt.mp hx))]
    exact e1
def R_law : String := "FactorDeskLaw"
def lw_P (b : Addr) (xs : List Int32) (args : Array Value) (s : State) : Prop := args = #[.ref b] ∧ s.IntsAt b xs ∧ xs.length ≤ 4 ∧ (Jvm.Cond.and given_1 narrow_1).before args s = true
def lw_Q (_ : Array Value) (s : State) (o : Outcome) (t : State) : Prop := o = .returned (some (.int 1)) ∧ Framed s o t [] 600002 7302232
def lw_Z (below : List Frame) (a : Array Value) (s : State) : State → Prop := fun t => ∃ o, t.status = .running ∧ Ended t below o ∧ lw_Q a s o t
/-- the law's own end, with 1 on the stack, nothing written that was there before, its room as the claim has it -/
theorem lw_ret {p : Program} {l : Launch} {e : Env} {s : State} {m : MethodId} {below : List Frame} {meth : Method} {c : Code} {b : Nat} (hx : p.tables.exec = Jvm.exec) (hb : c.code = code) (hr : meth.sig.returnType = ret) (hlocks : meth.locks = false) {pc : Nat} {H : Heap} {ls : Array Slot} (hdg : decode code pc = .ok (.ireturn, 1)) : W p l e room_1 s m #[Value.ref b] below meth c H [] 600002 7302232 (lw_Z below #[Value.ref b] s) (F0 m pc ls [.int 1]) := by
  intro T hT X
  obtain ⟨fs, hret, hrun, hended, hW, hframe⟩ := X.leave (v := some (.int 1)) (hlocks := hlocks) (fun h => by rw [hr] at h; cases h)
  have hmeth' : T.vm.method? m = some meth := X.method'
  refine ⟨T.setFrames fs, ?_, .returned (some (.int 1)), hrun, hended, rfl, ⟨_, rfl⟩, hW, hframe⟩
  jvm_step X.here [X.here.top, hx, hb, hdg, hmeth', hr, ret, narrow_b1]
  (try refine ⟨rfl, ?_⟩); (try refine ⟨rfl, ?_⟩)
  first | (intro acts; rw [hret _ acts rfl rfl rfl]) | rw [hret _ _ rfl rfl rfl]
  exact Steps.refl _
/-- what holds at the law's entry: the machine, the code, the tables' words (any of lw_tbl by 'hts w (by decide +kernel)'), the script of L ints xs at the cell b, what the Statement gives of the start (any of its parts by flat_of_before) -/
def lw_At (p : Program) (s : State) (m : MethodId) (meth : Method) (c : Code) (b L : Nat) (xs : Nat → Int32) : Prop :=
  p.tables.exec = Jvm.exec ∧ c.code = code ∧ meth.sig.returnType = ret ∧ c.maxLocals = 8 ∧ s.vm.findClass R_law = some m.cls ∧ (∀ w ∈ lw_tbl, w.before #[Value.ref b] s = true) ∧ va_X b L xs s s.heap ∧ b < s.heap.size ∧ meth.locks = false ∧ (Jvm.Cond.and given_1 narrow_1).before #[Value.ref b] s = true
theorem j_sld {b : Nat} {D : va_G} {Y : Nat → ClassId} {p : Program} {l : Launch} {e : Env} {s : State} {m : MethodId} {below : List Frame} {meth : Method} {c : Code} {R : Room} {args : Array Value} {own : String} {cc : ByteArray} {nL : Nat} {ret : Option FieldType} {nm : String} {Q : State → Prop} {pc : Nat} {lv : List (Nat × Value)} {st : List Value} {h : jH} {n k sl : Nat} {xs : Nat → Int32} {L : Nat} {i v : Int32} (hX : va_X b L xs s s.heap) (hbl : b < s.heap.size) (hin : vp_in i L) (hv : xs i.toNatClampNeg = v) (hd : decode cc pc = .ok (.iaload, 1)) (kk : jW b D Y s p l e R s m args below meth c own cc nL ret nm Q (pc + 1) lv (.int v :: st) h n k sl) : jW b D Y s p l e R s m args below meth c own cc nL ret nm Q pc lv (.int i :: .ref b :: st) h n k sl := fun C H locs ls hR hS hl => by
  subst hv
  exact va_sld C.ex C.by hX hbl (Nat.not_le.mpr hbl) hS hin hd (kk C H locs ls hR hS hl)
theorem j_slen {b : Nat} {D : va_G} {Y : Nat → ClassId} {p : Program} {l : Launch} {e : Env} {s : State} {m : MethodId} {below : List Frame} {meth : Method} {c : Code} {R : Room} {args : Array Value} {own : String} {cc : ByteArray} {nL : Nat} {ret : Option FieldType} {nm : String} {Q : State → Prop} {pc : Nat} {lv : List (Nat × Value)} {st : List Value} {h : jH} {n k sl : Nat} {xs : Nat → Int32} {L : Nat} (hX : va_X b L xs s s.heap) (hbl : b < s.heap.size) (hd : decode cc pc = .ok (.arraylength, 1)) (kk : jW b D Y s p l e R s m args below meth c own cc nL ret nm Q (pc + 1) lv (.int (Int32.ofNat L) :: st) h n k sl) : jW b D Y s p l e R s m args below meth c own cc nL ret nm Q pc lv (.ref b :: st) h n k sl := fun C H locs ls hR hS hl =>
  va_slen C.ex C.by hX hbl (Nat.not_le.mpr hbl) hS hd (kk C H locs ls hR hS hl)
theorem j_lawEnd {b : Nat} {D : va_G} {Y : Nat → ClassId} {p : Program} {l : Launch} {e : Env} {s : State} {m : MethodId} {below : List Frame} {meth : Method} {c : Code} {lv : List (Nat × Value)} {h : jH} {n k sl : Nat} (hk : k ≤ 600002) (hs : sl ≤ 7302232) : jW b D Y s p l e room_1 s m #[Value.ref b] below meth c "FactorDeskLaw" code 8 ret meth.name (lw_Z below #[Value.ref b] s) 829 lv [.int 1] h n k sl := fun C H locs ls hR hS hl =>
  va_forget (fun q hq => hS.2.2 q hq) (W.widen hk hs (lw_ret C.ex C.by C.rt C.lk (by decide +kernel)))
theorem jModl.keep {Y : Nat → ClassId} {h h2 : jH} {mm : Nat} (HM : jModl Y h mm) (F : ∀ x, mm ≤ x → x < mm + 23 → h2 x = h x) : jModl Y h2 mm := by
  obtain ⟨M0, M1, M2, M3, M4, M5, M6, M7, M8, M9, M18, M19, M22⟩ := HM
  exact ⟨(F mm (by omega) (by omega)).trans M0, (F (mm + 1) (by omega) (by omega)).trans M1, (F (mm + 2) (by omega) (by omega)).trans M2, (F (mm + 3) (by omega) (by omega)).trans M3, (F (mm + 4) (by omega) (by omega)).trans M4, (F (mm + 5) (by omega) (by omega)).trans M5, (F (mm + 6) (by omega) (by omega)).trans M6, (F (mm + 7) (by omega) (by omega)).trans M7, (F (mm + 8) (by omega) (by omega)).trans M8, (F (mm + 9) (by omega) (by omega)).trans M9, (F (mm + 18) (by omega) (by omega)).trans M18, (F (mm + 19) (by omega) (by omega)).trans M19, (F (mm + 22) (by omega) (by omega)).trans M22⟩
theorem lgc {x y : Int64} (h : x = y) : lg_cmp x y = 0 := by subst h; unfold lg_cmp; simp
