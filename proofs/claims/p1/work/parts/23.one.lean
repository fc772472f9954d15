theorem g_19 : jG (Jvm.Cond.classLink "FactorDeskLaw" (8 : Nat) "FactorDesk") := jG_of 84 (by decide +kernel) (by decide +kernel)
theorem g_20 : jG (Jvm.Cond.instantiable "FactorDesk" (10 : Nat)) := jG_of 85 (by decide +kernel) (by decide +kernel)
theorem g_21 : jG (Jvm.Cond.methodLink "FactorDeskLaw" (55 : Nat) ({ cls := "FactorDesk", name := "<init>", desc := "()V" } : Jvm.MethodName)) := jG_of 86 (by decide +kernel) (by decide +kernel)
theorem g_23 : jG (Jvm.Cond.code ({ cls := "FactorDesk", name := "<init>", desc := "()V" } : Jvm.MethodName) prog_1_method_1_code (1 : Nat) (Option.none : Option Jvm.ClassFile.FieldType)) := jG_of 88 (by decide +kernel) (by decide +kernel)
theorem g_22 : jG (Jvm.Cond.instanceMethod ({ cls := "FactorDesk", name := "<init>", desc := "()V" } : Jvm.MethodName)) := jG_of 87 (by decide +kernel) (by decide +kernel)
theorem g_849 : jG (Jvm.Cond.classLink "FactorDeskLaw" (56 : Nat) "FactorDeskModel") := jG_of 914 (by decide +kernel) (by decide +kernel)
theorem g_850 : jG (Jvm.Cond.instantiable "FactorDeskModel" (35 : Nat)) := jG_of 915 (by decide +kernel) (by decide +kernel)
theorem g_851 : jG (Jvm.Cond.methodLink "FactorDeskLaw" (58 : Nat) ({ cls := "FactorDeskModel", name := "<init>", desc := "()V" } : Jvm.MethodName)) := jG_of 916 (by decide +kernel) (by decide +kernel)
theorem g_853 : jG (Jvm.Cond.code ({ cls := "FactorDeskModel", name := "<init>", desc := "()V" } : Jvm.MethodName) prog_11_method_1_code (1 : Nat) (Option.none : Option Jvm.ClassFile.FieldType)) := jG_of 918 (by decide +kernel) (by decide +kernel)
theorem g_852 : jG (Jvm.Cond.instanceMethod ({ cls := "FactorDeskModel", name := "<init>", desc := "()V" } : Jvm.MethodName)) := jG_of 917 (by decide +kernel) (by decide +kernel)
theorem and15 (x : Int32) : ∃ v : Nat, v < 16 ∧ x &&& 15 = nI v := by
  refine ⟨(x &&& 15).toBitVec.toNat, ?_, ?_⟩
  · rw [Int32.toBitVec_and, BitVec.toNat_and]
    have : (15 : Int32).toBitVec.toNat = 15 := by decide
    rw [this]
    have := @Nat.and_le_right x.toBitVec.toNat 15
    omega
  · apply Int32.toBitVec_inj.mp
    show _ = (Int32.ofNat _).toBitVec
    rw [Int32.toBitVec_ofNat', BitVec.ofNat_toNat, BitVec.setWidth_eq]
theorem d_Law_law_39 : decode code 39 = .ok (.tableswitch 783 0 15 #[77, 133, 146, 190, 234, 290, 303, 317, 330, 398, 465, 478, 534, 578, 633, 684], 77) := by decide +kernel
set_option maxHeartbeats 4000000 in
set_option maxRecDepth 100000 in
theorem law_23 {b : Nat} {D : va_G} {Y : Nat → ClassId} {p : Program} {l : Launch} {e : Env} {s : State} {m : MethodId} {below : List Frame} {meth : Method} {c : Code} {L : Nat} (Z : jS0 b D Y s) (hL : L ≤ 4) (xs : Nat → Int32) (hX : va_X b L xs s s.heap) (hbl : b < s.heap.size) (hlt : l.stackTraces = false) (d : Nat) (h : jH) (HD : jDesk Y h d) (HM : jModl Y h (d + 208)) (HR : h (d + 231) = some (.inl (Y 1, 1, .inr (.inl (fun _ => 0))))) : jW b D Y s p l e room_1 s m #[Value.ref b] below meth c "FactorDeskLaw" code 8 ret meth.name (lw_Z below #[Value.ref b] s) 23 [(4, .int 0), (3, .ref (d + 231)), (2, .ref (d + 208)), (1, .ref d), (0, .ref b)] [] h (d + 232) 232 14861 := by
  by_cases h4 : L = 4
  · subst h4
    refine j_iload d_Law_law_23 0 rfl ?_
    refine j_aload_n d_Law_law_25 4 rfl ?_
    refine j_slen hX hbl d_Law_law_26 ?_
    refine j_iconst d_Law_law_27 (v := 4) (by decide) ?_
    refine j_isub d_Law_law_28 ?_
    refine j_icmp_gt_f (tgt := 828) d_Law_law_29 (by decide) (by decide) ?_
    refine j_aload_n d_Law_law_32 4 rfl ?_
    refine j_iload d_Law_law_33 0 rfl ?_
    refine j_sld (v := xs 0) hX hbl (by unfold vp_in; decide) rfl d_Law_law_35 ?_
    refine j_bipush d_Law_law_36 (v := 15) (by decide) ?_
    refine j_iand d_Law_law_38 ?_
    obtain ⟨v, hv, hx⟩ := and15 (xs 0)
    have hv2 : v = 0 ∨ v = 1 ∨ v = 2 ∨ v = 3 ∨ v = 4 ∨ v = 5 ∨ v = 6 ∨ v = 7 ∨ v = 8 ∨ v = 9 ∨ v = 10 ∨ v = 11 ∨ v = 12 ∨ v = 13 ∨ v = 14 ∨ v = 15 := by omega
    rcases hv2 with rfl | rfl | rfl | rfl | rfl | rfl | rfl | rfl | rfl | rfl | rfl | rfl | rfl | rfl | rfl | rfl
    · refine j_tableIn (tgt := 116) (off := 77) d_Law_law_39 (by rw [hx]; decide) (by rw [hx]; decide) (by rw [hx]; decide) (by decide) ?_
      exact lc_put Z xs hX hbl hlt d h HD HM HR
    · refine j_tableIn (tgt := 172) (off := 133) d_Law_law_39 (by rw [hx]; decide) (by rw [hx]; decide) (by rw [hx]; decide) (by decide) ?_
      exact lc_clear Z xs hX hbl hlt d h HD HM HR
    · refine j_tableIn (tgt := 185) (off := 146) d_Law_law_39 (by rw [hx]; decide) (by rw [hx]; decide) (by rw [hx]; decide) (by decide) ?_
      exact lc_take Z xs hX hbl hlt d h HD HM HR
    · refine j_tableIn (tgt := 229) (off := 190) d_Law_law_39 (by rw [hx]; decide) (by rw [hx]; decide) (by rw [hx]; decide) (by decide) ?_
      exact lc_times Z xs hX hbl hlt d h HD HM HR
    · refine j_tableIn (tgt := 273) (off := 234) d_Law_law_39 (by rw [hx]; decide) (by rw [hx]; decide) (by rw [hx]; decide) (by decide) ?_
      exact lc_at Z xs hX hbl hlt d h HD HM HR
    · refine j_tableIn (tgt := 329) (off := 290) d_Law_law_39 (by rw [hx]; decide) (by rw [hx]; decide) (by rw [hx]; decide) (by decide) ?_
      exact lc_degree Z xs hX hbl hlt d h HD HM HR
    · refine j_tableIn (tgt := 342) (off := 303) d_Law_law_39 (by rw [hx]; decide) (by rw [hx]; decide) (by rw [hx]; decide) (by decide) ?_
      exact lc_content Z xs hX hbl hlt d h HD HM HR
    · refine j_tableIn (tgt := 356) (off := 317) d_Law_law_39 (by rw [hx]; decide) (by rw [hx]; decide) (by rw [hx]; decide) (by decide) ?_
      exact lc_factors Z xs hX hbl hlt d h HD HM HR
    · refine j_tableIn (tgt := 369) (off := 330) d_Law_law_39 (by rw [hx]; decide) (by rw [hx]; decide) (by rw [hx]; decide) (by decide) ?_
      exact lc_factor Z xs hX hbl hlt d h HD HM HR
    · refine j_tableIn (tgt := 437) (off := 398) d_Law_law_39 (by rw [hx]; decide) (by rw [hx]; decide) (by rw [hx]; decide) (by decide) ?_
      exact lc_part Z xs hX hbl hlt d h HD HM HR
    · refine j_tableIn (tgt := 504) (off := 465) d_Law_law_39 (by rw [hx]; decide) (by rw [hx]; decide) (by rw [hx]; decide) (by decide) ?_
      exact lc_isIrr Z xs hX hbl hlt d h HD HM HR
    · refine j_tableIn (tgt := 517) (off := 478) d_Law_law_39 (by rw [hx]; decide) (by rw [hx]; decide) (by rw [hx]; decide) (by decide) ?_
      exact lc_ofDegree Z xs hX hbl hlt d h HD HM HR
    · refine j_tableIn (tgt := 573) (off := 534) d_Law_law_39 (by rw [hx]; decide) (by rw [hx]; decide) (by rw [hx]; decide) (by decide) ?_
      exact lc_common Z xs hX hbl hlt d h HD HM HR
    · refine j_tableIn (tgt := 617) (off := 578) d_Law_law_39 (by rw [hx]; decide) (by rw [hx]; decide) (by rw [hx]; decide) (by decide) ?_
      exact lc_divisor Z xs hX hbl hlt d h HD HM HR
    · refine j_tableIn (tgt := 672) (off := 633) d_Law_law_39 (by rw [hx]; decide) (by rw [hx]; decide) (by rw [hx]; decide) (by decide) ?_
      exact lc_divides Z xs hX hbl hlt d h HD HM HR
    · refine j_tableIn (tgt := 723) (off := 684) d_Law_law_39 (by rw [hx]; decide) (by rw [hx]; decide) (by rw [hx]; decide) (by decide) ?_
      exact lc_value Z xs hX hbl hlt d h HD HM HR
  · have h5 : (Int32.ofNat L - 4 : Int32) < 0 := by
      have h6 : L = 0 ∨ L = 1 ∨ L = 2 ∨ L = 3 := by omega
      rcases h6 with rfl | rfl | rfl | rfl <;> decide
    refine j_iload d_Law_law_23 0 rfl ?_
    refine j_aload_n d_Law_law_25 4 rfl ?_
    refine j_slen hX hbl d_Law_law_26 ?_
    refine j_iconst d_Law_law_27 (v := 4) (by decide) ?_
    refine j_isub d_Law_law_28 ?_
    refine j_icmp_gt_t (tgt := 828) d_Law_law_29 (by decide) h5 ?_
    refine j_iconst d_Law_law_828 (v := 1) (by decide) ?_
    exact j_lawEnd (Nat.le_of_ble_eq_true rfl) (Nat.le_of_ble_eq_true rfl)
set_option maxHeartbeats 4000000 in
set_option maxRecDepth 100000 in
theorem law_0 {b : Nat} {D : va_G} {Y : Nat → ClassId} {p : Program} {l : Launch} {e : Env} {s : State} {m : MethodId} {below : List Frame} {meth : Method} {c : Code} {L : Nat} (Z : jS0 b D Y s) (hL : L ≤ 4) (xs : Nat → Int32) (hX : va_X b L xs s s.heap) (hbl : b < s.heap.size) (hlt : l.stackTraces = false) (d : Nat) : jW b D Y s p l e room_1 s m #[Value.ref b] below meth c "FactorDeskLaw" code 8 ret meth.name (lw_Z below #[Value.ref b] s) 0 [(0, .ref b)] [] (fun _ => none) d 0 0 := by
  refine j_new iw_Desk t_Desk t_Desk_ok (ci := 8) (fs := fs_Desk) rfl g_19 g_20 g_1 df_Desk (by first | exact Nat.le_of_ble_eq_true rfl | (simp only [jrm]; omega)) (by first | exact Nat.le_of_ble_eq_true rfl | (simp only [jrm]; omega)) d_Law_law_0 ?_
  refine j_dup d_Law_law_3 rfl ?_
  refine j_callI (k_Desk_init l Z d (d + 1) _ (by omega) (jh_up_s _ _ _)) ⟨⟨Nat.le_of_ble_eq_true rfl, Nat.le_of_ble_eq_true rfl⟩, g_21, g_23, g_1, by decide +kernel⟩ g_22 rfl ⟨(by first | exact Nat.le_of_ble_eq_true rfl | (simp only [jrm]; omega)), (by first | exact Nat.le_of_ble_eq_true rfl | (simp only [jrm]; omega))⟩ (Nat.le_of_ble_eq_true rfl) d_Law_law_4 (fun r41 h41 n41 P41 => ?_)
  obtain ⟨rfl, rfl, O41, X41_0, X41_1, X41_2, X41_3, X41_4, X41_5, X41_6, X41_7, X41_8, X41_9, F41⟩ := P41
  refine j_astore_n d_Law_law_7 (Nat.le_of_ble_eq_true rfl) rfl ?_
  refine j_new iw_Modl t_Modl t_Modl_ok (ci := 9) (fs := fs_Modl) rfl g_849 g_850 g_10 df_Modl (by first | exact Nat.le_of_ble_eq_true rfl | (simp only [jrm]; omega)) (by first | exact Nat.le_of_ble_eq_true rfl | (simp only [jrm]; omega)) d_Law_law_8 ?_
  refine j_dup d_Law_law_11 rfl ?_
  refine j_callI (k_Modl_init l Z (d + 208) (d + 209) _ (by omega) (jh_up_s _ _ _)) ⟨⟨Nat.le_of_ble_eq_true rfl, Nat.le_of_ble_eq_true rfl⟩, g_851, g_853, g_10, by decide +kernel⟩ g_852 rfl ⟨(by first | exact Nat.le_of_ble_eq_true rfl | (simp only [jrm]; omega)), (by first | exact Nat.le_of_ble_eq_true rfl | (simp only [jrm]; omega))⟩ (Nat.le_of_ble_eq_true rfl) d_Law_law_12 (fun r42 h42 n42 P42 => ?_)
  obtain ⟨rfl, rfl, O42, X42_0, X42_1, X42_2, X42_3, X42_4, X42_5, X42_6, X42_7, X42_8, X42_9, X42_10, X42_11, F42⟩ := P42
  have E42_0 := (F42 d (by omega) (by omega)).trans ((jh_up_n _ _ (by omega)).trans O41)
  have E42_1 := (F42 (d + 1) (by omega) (by omega)).trans ((jh_up_n _ _ (by omega)).trans X41_0)
  have E42_2 := (F42 (d + 2) (by omega) (by omega)).trans ((jh_up_n _ _ (by omega)).trans X41_1)
  have E42_3 := (F42 (d + 3) (by omega) (by omega)).trans ((jh_up_n _ _ (by omega)).trans X41_2)
  have E42_4 := (F42 (d + 8) (by omega) (by omega)).trans ((jh_up_n _ _ (by omega)).trans X41_3)
  have E42_5 := (F42 (d + 9) (by omega) (by omega)).trans ((jh_up_n _ _ (by omega)).trans X41_4)
  have E42_6 := (F42 (d + 10) (by omega) (by omega)).trans ((jh_up_n _ _ (by omega)).trans X41_5)
  have E42_7 := (F42 (d + 37) (by omega) (by omega)).trans ((jh_up_n _ _ (by omega)).trans X41_6)
  have E42_8 := (F42 (d + 38) (by omega) (by omega)).trans ((jh_up_n _ _ (by omega)).trans X41_7)
  have E42_9 := (F42 (d + 202) (by omega) (by omega)).trans ((jh_up_n _ _ (by omega)).trans X41_8)
  have E42_10 := (F42 (d + 203) (by omega) (by omega)).trans ((jh_up_n _ _ (by omega)).trans X41_9)
  refine j_astore_n d_Law_law_15 (Nat.le_of_ble_eq_true rfl) rfl ?_
  refine j_iconst d_Law_law_16 (v := 1) (by decide) ?_
  refine j_newJ (N := 1) g_56 (by decide) rfl (by decide) (by first | exact Nat.le_of_ble_eq_true rfl | (simp only [jrm]; omega)) (by first | exact Nat.le_of_ble_eq_true rfl | (simp only [jrm]; omega)) d_Law_law_17 ?_
  refine j_astore_n d_Law_law_19 (Nat.le_of_ble_eq_true rfl) rfl ?_
  refine j_iconst d_Law_law_20 (v := 0) (by decide) ?_
  refine j_istore d_Law_law_21 (Nat.le_of_ble_eq_true rfl) rfl ?_
  refine law_23 Z hL xs hX hbl hlt d _ ?_ ?_ ?_
  · exact ⟨((jh_up_n _ _ (by omega)).trans E42_0), ((jh_up_n _ _ (by omega)).trans E42_1), ((jh_up_n _ _ (by omega)).trans E42_2), ((jh_up_n _ _ (by omega)).trans E42_3), ((jh_up_n _ _ (by omega)).trans E42_4), ((jh_up_n _ _ (by omega)).trans E42_5), ((jh_up_n _ _ (by omega)).trans E42_6), ((jh_up_n _ _ (by omega)).trans E42_7), ((jh_up_n _ _ (by omega)).trans E42_8), ((jh_up_n _ _ (by omega)).trans E42_9), ((jh_up_n _ _ (by omega)).trans E42_10)⟩
  · exact ⟨((jh_up_n _ _ (by omega)).trans O42), ((jh_up_n _ _ (by omega)).trans X42_0), ((jh_up_n _ _ (by omega)).trans X42_1), ((jh_up_n _ _ (by omega)).trans X42_2), ((jh_up_n _ _ (by omega)).trans X42_3), ((jh_up_n _ _ (by omega)).trans X42_4), ((jh_up_n _ _ (by omega)).trans X42_5), ((jh_up_n _ _ (by omega)).trans X42_6), ((jh_up_n _ _ (by omega)).trans X42_7), ((jh_up_n _ _ (by omega)).trans X42_8), ((jh_up_n _ _ (by omega)).trans X42_9), ((jh_up_n _ _ (by omega)).trans X42_10), ((jh_up_n _ _ (by omega)).trans X42_11)⟩
  · exact (jh_up_s _ _ _)
theorem jN_self (s : State) : jN s s.heap := fun q cell hq hc => absurd (Array.getElem?_eq_some_iff.mp hc).1 (Nat.not_lt.mpr hq)
theorem one_start {b : Nat} {p : Program} {l : Launch} {e : Env} {s : State} {m : MethodId} {below : List Frame} {meth : Method} {c : Code} {L : Nat} {xs : Nat → Int32} (hlt : l.stackTraces = false) (hL : L ≤ 4) (C0 : lw_At p s m meth c b L xs) : W p l e room_1 s m #[Value.ref b] below meth c s.heap [] 0 0 (lw_Z below #[Value.ref b] s) (entryFrame m ([Value.ref b] : List Value).toArray 8) := by
  obtain ⟨h1, h2, h3, h4, h5, h6, h7, h8, h9, h10⟩ := C0
  obtain ⟨D, Y, Z⟩ := j_start h6 h10
  rw [lg_entry_eq]
  exact law_0 Z hL xs h7 h8 hlt s.heap.size ⟨h1, h2, h4, h3, h5, h9, rfl, Z, State.WarmedH.refl s, Nat.le_refl _, fun _ _ => rfl, jN_self s⟩ s.heap [] _ ⟨rfl, (fun a x h => by cases h), jN_self s⟩ va_S.rf (lv_entry [.ref b] (Nat.le_of_ble_eq_true rfl))
