set_option maxHeartbeats 4000000 in
set_option maxRecDepth 100000 in
theorem k_Splt_init (l : Launch) {b : Nat} {D : va_G} {Y : Nat → ClassId} {s0 : State} (Z : jS0 b D Y s0) (a n : Nat) (h : jH) (ha : a < n) (H0 : h a = some (.inr (7, fs_Splt))) : jMet l D s0 y_Splt_init c_Splt_init 1 none 5 [.ref a] h n 170 1355 (fun r h2 n2 => r = none ∧ n2 = n + 170 ∧ h2 a = some (.inr (7, [.ref n, .ref (n + 27), .ref (n + 28), .int 0, .ref (n + 45), .ref (n + 46), .ref (n + 164), .ref (n + 166), .ref (n + 168)])) ∧ h2 n = some (.inr (1, [.ref (n + 1), .ref (n + 26), .int 0])) ∧ h2 (n + 164) = some (.inr (0, [.ref (n + 165), .int (-1)])) ∧ h2 (n + 165) = some (.inl (Y 1, 13, .inr (.inl (fun _ => 0)))) ∧ ∀ x, x < n → x ≠ a → h2 x = h x) := by
  refine jMet_of Z (by decide) (Nat.le_of_ble_eq_true rfl) ?_
  intro p e s m below meth c
  refine j_aload_n d_Splt_init_0 0 rfl ?_
  refine j_objInit g_91 g_25 g_26 (Nat.le_of_ble_eq_true rfl) (Nat.le_of_ble_eq_true rfl) d_Splt_init_1 ?_
  refine j_aload_n d_Splt_init_4 0 rfl ?_
  refine j_new iw_FList t_FList t_FList_ok (ci := 1) (fs := fs_FList) rfl g_92 g_62 g_3 df_FList (by first | exact Nat.le_of_ble_eq_true rfl | (simp only [jrm]; omega)) (by first | exact Nat.le_of_ble_eq_true rfl | (simp only [jrm]; omega)) d_Splt_init_5 ?_
  refine j_dup d_Splt_init_8 rfl ?_
  refine j_callI (k_FList_init l Z n (n + 1) _ (by omega) (jh_up_s _ _ _)) ⟨⟨Nat.le_of_ble_eq_true rfl, Nat.le_of_ble_eq_true rfl⟩, g_93, g_65, g_3, by decide +kernel⟩ g_64 rfl ⟨(by first | exact Nat.le_of_ble_eq_true rfl | (simp only [jrm]; omega)), (by first | exact Nat.le_of_ble_eq_true rfl | (simp only [jrm]; omega))⟩ (Nat.le_of_ble_eq_true rfl) d_Splt_init_9 (fun r27 h27 n27 P27 => ?_)
  obtain ⟨rfl, rfl, O27, F27⟩ := P27
  have E27_0 := (F27 a (by omega) (by omega)).trans ((jh_up_n _ _ (by omega)).trans H0)
  refine j_putF iw_Splt t_Splt t_Splt_ok n_Splt (ci := 7) (kf := 0) rfl (by decide) g_273 rfl rfl rfl (t_Splt_ok 0 (by decide)) rfl rfl d_Splt_init_12 E27_0 (Nat.le_of_ble_eq_true rfl) ?_
  refine j_aload_n d_Splt_init_15 0 rfl ?_
  refine j_new iw_CDiv t_CDiv t_CDiv_ok (ci := 4) (fs := fs_CDiv) rfl g_94 g_95 g_5 df_CDiv (by first | exact Nat.le_of_ble_eq_true rfl | (simp only [jrm]; omega)) (by first | exact Nat.le_of_ble_eq_true rfl | (simp only [jrm]; omega)) d_Splt_init_16 ?_
  refine j_dup d_Splt_init_19 rfl ?_
  refine j_callI (k_CDiv_init l Z (n + 27) (n + 28) _ (by omega) (jh_up_s _ _ _)) ⟨⟨Nat.le_of_ble_eq_true rfl, Nat.le_of_ble_eq_true rfl⟩, g_96, g_98, g_5, by decide +kernel⟩ g_97 rfl ⟨(by first | exact Nat.le_of_ble_eq_true rfl | (simp only [jrm]; omega)), (by first | exact Nat.le_of_ble_eq_true rfl | (simp only [jrm]; omega))⟩ (Nat.le_of_ble_eq_true rfl) d_Splt_init_20 (fun r28 h28 n28 P28 => ?_)
  obtain ⟨rfl, rfl, O28, F28⟩ := P28
  have E28_0 := (F28 a (by omega) (by omega)).trans ((jh_up_n _ _ (by omega)).trans (jh_up_s _ _ _))
  have E28_1 := (F28 n (by omega) (by omega)).trans ((jh_up_n _ _ (by omega)).trans ((jh_up_n _ _ (by omega)).trans O27))
  refine j_putF iw_Splt t_Splt t_Splt_ok n_Splt (ci := 7) (kf := 1) rfl (by decide) g_275 rfl rfl rfl (t_Splt_ok 1 (by decide)) rfl rfl d_Splt_init_23 E28_0 (Nat.le_of_ble_eq_true rfl) ?_
  refine j_aload_n d_Splt_init_26 0 rfl ?_
  refine j_aload_n d_Splt_init_27 0 rfl ?_
  refine j_get iw_Splt (ci := 7) (kf := 1) rfl (by decide) g_275 d_Splt_init_28 (jh_up_s _ _ _) rfl ?_
  refine j_get iw_CDiv (ci := 4) (kf := 1) rfl (by decide) g_150 d_Splt_init_31 ((jh_up_n _ _ (by omega)).trans O28) rfl ?_
  refine j_putF iw_Splt t_Splt t_Splt_ok n_Splt (ci := 7) (kf := 2) rfl (by decide) g_277 rfl rfl rfl (t_Splt_ok 2 (by decide)) rfl rfl d_Splt_init_34 (jh_up_s _ _ _) (Nat.le_of_ble_eq_true rfl) ?_
  refine j_aload_n d_Splt_init_37 0 rfl ?_
  refine j_iconst d_Splt_init_38 (v := 0) (by decide) ?_
  refine j_put iw_Splt t_Splt t_Splt_ok n_Splt (ci := 7) (kf := 3) rfl (by decide) g_279 rfl (t_Splt_ok 3 (by decide)) rfl rfl d_Splt_init_39 (jh_up_s _ _ _) (Nat.le_of_ble_eq_true rfl) ?_
  refine j_aload_n d_Splt_init_42 0 rfl ?_
  refine j_new iw_Lift t_Lift t_Lift_ok (ci := 6) (fs := fs_Lift) rfl g_171 g_172 g_8 df_Lift (by first | exact Nat.le_of_ble_eq_true rfl | (simp only [jrm]; omega)) (by first | exact Nat.le_of_ble_eq_true rfl | (simp only [jrm]; omega)) d_Splt_init_43 ?_
  refine j_dup d_Splt_init_46 rfl ?_
  refine j_callI (k_Lift_init l Z (n + 45) (n + 46) _ (by omega) (jh_up_s _ _ _)) ⟨⟨Nat.le_of_ble_eq_true rfl, Nat.le_of_ble_eq_true rfl⟩, g_173, g_175, g_8, by decide +kernel⟩ g_174 rfl ⟨(by first | exact Nat.le_of_ble_eq_true rfl | (simp only [jrm]; omega)), (by first | exact Nat.le_of_ble_eq_true rfl | (simp only [jrm]; omega))⟩ (Nat.le_of_ble_eq_true rfl) d_Splt_init_47 (fun r29 h29 n29 P29 => ?_)
  obtain ⟨rfl, rfl, O29, F29⟩ := P29
  have E29_0 := (F29 a (by omega) (by omega)).trans ((jh_up_n _ _ (by omega)).trans (jh_up_s _ _ _))
  have E29_1 := (F29 n (by omega) (by omega)).trans ((jh_up_n _ _ (by omega)).trans ((jh_up_n _ _ (by omega)).trans ((jh_up_n _ _ (by omega)).trans ((jh_up_n _ _ (by omega)).trans E28_1))))
  have E29_2 := (F29 (n + 27) (by omega) (by omega)).trans ((jh_up_n _ _ (by omega)).trans ((jh_up_n _ _ (by omega)).trans ((jh_up_n _ _ (by omega)).trans ((jh_up_n _ _ (by omega)).trans O28))))
  refine j_putF iw_Splt t_Splt t_Splt_ok n_Splt (ci := 7) (kf := 4) rfl (by decide) g_280 rfl rfl rfl (t_Splt_ok 4 (by decide)) rfl rfl d_Splt_init_50 E29_0 (Nat.le_of_ble_eq_true rfl) ?_
  refine j_aload_n d_Splt_init_53 0 rfl ?_
  refine j_aload_n d_Splt_init_54 0 rfl ?_
  refine j_get iw_Splt (ci := 7) (kf := 4) rfl (by decide) g_280 d_Splt_init_55 (jh_up_s _ _ _) rfl ?_
  refine j_get iw_Lift (ci := 6) (kf := 0) rfl (by decide) g_235 d_Splt_init_58 ((jh_up_n _ _ (by omega)).trans O29) rfl ?_
  refine j_putF iw_Splt t_Splt t_Splt_ok n_Splt (ci := 7) (kf := 5) rfl (by decide) g_281 rfl rfl rfl (t_Splt_ok 5 (by decide)) rfl rfl d_Splt_init_61 (jh_up_s _ _ _) (Nat.le_of_ble_eq_true rfl) ?_
  refine j_aload_n d_Splt_init_64 0 rfl ?_
  refine j_new iw_Poly t_Poly t_Poly_ok (ci := 0) (fs := fs_Poly) rfl g_271 g_28 g_2 df_Poly (by first | exact Nat.le_of_ble_eq_true rfl | (simp only [jrm]; omega)) (by first | exact Nat.le_of_ble_eq_true rfl | (simp only [jrm]; omega)) d_Splt_init_65 ?_
  refine j_dup d_Splt_init_68 rfl ?_
  refine j_callI (k_Poly_init l Z (n + 164) (n + 165) _ (by omega) (jh_up_s _ _ _)) ⟨⟨Nat.le_of_ble_eq_true rfl, Nat.le_of_ble_eq_true rfl⟩, g_272, g_31, g_2, by decide +kernel⟩ g_30 rfl ⟨(by first | exact Nat.le_of_ble_eq_true rfl | (simp only [jrm]; omega)), (by first | exact Nat.le_of_ble_eq_true rfl | (simp only [jrm]; omega))⟩ (Nat.le_of_ble_eq_true rfl) d_Splt_init_69 (fun r30 h30 n30 P30 => ?_)
  obtain ⟨rfl, rfl, A30, O30, F30⟩ := P30
  have E30_0 := (F30 a (by omega) (by omega)).trans ((jh_up_n _ _ (by omega)).trans (jh_up_s _ _ _))
  have E30_1 := (F30 n (by omega) (by omega)).trans ((jh_up_n _ _ (by omega)).trans ((jh_up_n _ _ (by omega)).trans ((jh_up_n _ _ (by omega)).trans E29_1)))
  have E30_2 := (F30 (n + 27) (by omega) (by omega)).trans ((jh_up_n _ _ (by omega)).trans ((jh_up_n _ _ (by omega)).trans ((jh_up_n _ _ (by omega)).trans E29_2)))
  have E30_3 := (F30 (n + 45) (by omega) (by omega)).trans ((jh_up_n _ _ (by omega)).trans ((jh_up_n _ _ (by omega)).trans ((jh_up_n _ _ (by omega)).trans O29)))
  refine j_putF iw_Splt t_Splt t_Splt_ok n_Splt (ci := 7) (kf := 6) rfl (by decide) g_282 rfl rfl rfl (t_Splt_ok 6 (by decide)) rfl rfl d_Splt_init_72 E30_0 (Nat.le_of_ble_eq_true rfl) ?_
  refine j_aload_n d_Splt_init_75 0 rfl ?_
  refine j_new iw_Poly t_Poly t_Poly_ok (ci := 0) (fs := fs_Poly) rfl g_271 g_28 g_2 df_Poly (by first | exact Nat.le_of_ble_eq_true rfl | (simp only [jrm]; omega)) (by first | exact Nat.le_of_ble_eq_true rfl | (simp only [jrm]; omega)) d_Splt_init_76 ?_
  refine j_dup d_Splt_init_79 rfl ?_
  refine j_callI (k_Poly_init l Z (n + 166) (n + 167) _ (by omega) (jh_up_s _ _ _)) ⟨⟨Nat.le_of_ble_eq_true rfl, Nat.le_of_ble_eq_true rfl⟩, g_272, g_31, g_2, by decide +kernel⟩ g_30 rfl ⟨(by first | exact Nat.le_of_ble_eq_true rfl | (simp only [jrm]; omega)), (by first | exact Nat.le_of_ble_eq_true rfl | (simp only [jrm]; omega))⟩ (Nat.le_of_ble_eq_true rfl) d_Splt_init_80 (fun r31 h31 n31 P31 => ?_)
  obtain ⟨rfl, rfl, A31, O31, F31⟩ := P31
  have E31_0 := (F31 a (by omega) (by omega)).trans ((jh_up_n _ _ (by omega)).trans (jh_up_s _ _ _))
  have E31_1 := (F31 n (by omega) (by omega)).trans ((jh_up_n _ _ (by omega)).trans ((jh_up_n _ _ (by omega)).trans E30_1))
  have E31_2 := (F31 (n + 27) (by omega) (by omega)).trans ((jh_up_n _ _ (by omega)).trans ((jh_up_n _ _ (by omega)).trans E30_2))
  have E31_3 := (F31 (n + 45) (by omega) (by omega)).trans ((jh_up_n _ _ (by omega)).trans ((jh_up_n _ _ (by omega)).trans E30_3))
  have E31_4 := (F31 (n + 164) (by omega) (by omega)).trans ((jh_up_n _ _ (by omega)).trans ((jh_up_n _ _ (by omega)).trans O30))
  have E31_5 := (F31 (n + 165) (by omega) (by omega)).trans ((jh_up_n _ _ (by omega)).trans ((jh_up_n _ _ (by omega)).trans A30))
  refine j_putF iw_Splt t_Splt t_Splt_ok n_Splt (ci := 7) (kf := 7) rfl (by decide) g_283 rfl rfl rfl (t_Splt_ok 7 (by decide)) rfl rfl d_Splt_init_83 E31_0 (Nat.le_of_ble_eq_true rfl) ?_
  refine j_aload_n d_Splt_init_86 0 rfl ?_
  refine j_new iw_Poly t_Poly t_Poly_ok (ci := 0) (fs := fs_Poly) rfl g_271 g_28 g_2 df_Poly (by first | exact Nat.le_of_ble_eq_true rfl | (simp only [jrm]; omega)) (by first | exact Nat.le_of_ble_eq_true rfl | (simp only [jrm]; omega)) d_Splt_init_87 ?_
  refine j_dup d_Splt_init_90 rfl ?_
  refine j_callI (k_Poly_init l Z (n + 168) (n + 169) _ (by omega) (jh_up_s _ _ _)) ⟨⟨Nat.le_of_ble_eq_true rfl, Nat.le_of_ble_eq_true rfl⟩, g_272, g_31, g_2, by decide +kernel⟩ g_30 rfl ⟨(by first | exact Nat.le_of_ble_eq_true rfl | (simp only [jrm]; omega)), (by first | exact Nat.le_of_ble_eq_true rfl | (simp only [jrm]; omega))⟩ (Nat.le_of_ble_eq_true rfl) d_Splt_init_91 (fun r32 h32 n32 P32 => ?_)
  obtain ⟨rfl, rfl, A32, O32, F32⟩ := P32
  have E32_0 := (F32 a (by omega) (by omega)).trans ((jh_up_n _ _ (by omega)).trans (jh_up_s _ _ _))
  have E32_1 := (F32 n (by omega) (by omega)).trans ((jh_up_n _ _ (by omega)).trans ((jh_up_n _ _ (by omega)).trans E31_1))
  have E32_2 := (F32 (n + 27) (by omega) (by omega)).trans ((jh_up_n _ _ (by omega)).trans ((jh_up_n _ _ (by omega)).trans E31_2))
  have E32_3 := (F32 (n + 45) (by omega) (by omega)).trans ((jh_up_n _ _ (by omega)).trans ((jh_up_n _ _ (by omega)).trans E31_3))
  have E32_4 := (F32 (n + 164) (by omega) (by omega)).trans ((jh_up_n _ _ (by omega)).trans ((jh_up_n _ _ (by omega)).trans E31_4))
  have E32_5 := (F32 (n + 165) (by omega) (by omega)).trans ((jh_up_n _ _ (by omega)).trans ((jh_up_n _ _ (by omega)).trans E31_5))
  refine j_putF iw_Splt t_Splt t_Splt_ok n_Splt (ci := 7) (kf := 8) rfl (by decide) g_284 rfl rfl rfl (t_Splt_ok 8 (by decide)) rfl rfl d_Splt_init_94 E32_0 (Nat.le_of_ble_eq_true rfl) ?_
  refine j_vret rfl d_Splt_init_97 ⟨rfl, rfl, ?_, ?_, ?_, ?_, fun x h1 h2 => ?_⟩
  · exact (jh_up_s _ _ _)
  · exact ((jh_up_n _ _ (by omega)).trans E32_1)
  · exact ((jh_up_n _ _ (by omega)).trans E32_4)
  · exact ((jh_up_n _ _ (by omega)).trans E32_5)
  · exact ((jh_up_n _ _ (by omega)).trans ((F32 x (by omega) (by omega)).trans ((jh_up_n _ _ (by omega)).trans ((jh_up_n _ _ (by omega)).trans ((F31 x (by omega) (by omega)).trans ((jh_up_n _ _ (by omega)).trans ((jh_up_n _ _ (by omega)).trans ((F30 x (by omega) (by omega)).trans ((jh_up_n _ _ (by omega)).trans ((jh_up_n _ _ (by omega)).trans ((jh_up_n _ _ (by omega)).trans ((F29 x (by omega) (by omega)).trans ((jh_up_n _ _ (by omega)).trans ((jh_up_n _ _ (by omega)).trans ((jh_up_n _ _ (by omega)).trans ((jh_up_n _ _ (by omega)).trans ((F28 x (by omega) (by omega)).trans ((jh_up_n _ _ (by omega)).trans ((jh_up_n _ _ (by omega)).trans ((F27 x (by omega) (by omega)).trans (jh_up_n _ _ (by omega))))))))))))))))))))))
abbrev jOne : Nat → Int64 := vp_updL (fun _ => 0) 0 1
theorem upd00 (i : Nat) : vp_updL (fun _ => 0) i 0 = fun _ => 0 := by funext j; simp [vp_updL]
set_option maxHeartbeats 4000000 in
set_option maxRecDepth 100000 in
theorem k_Poly_setNumber_loop (l : Launch) {b : Nat} {D : va_G} {Y : Nat → ClassId} {s0 : State} (Z : jS0 b D Y s0) {p : Program} {e : Env} {s : State} {m : MethodId} {below : List Frame} {meth : Method} {c : Code} {Q : State → Prop} (a q n : Nat) (d : Int32) (hb : jH) (haq : a ≠ q) (hx : ∀ h2 : jH, h2 a = some (.inr (0, [.ref q, .int d])) → h2 q = some (.inl (Y 1, 13, .inr (.inl (fun _ => 0)))) → (∀ x, x ≠ q → h2 x = hb x) → jW b D Y s0 p l e (jrm 1 0 0) s m [Value.ref a, .long 1].toArray below meth c y_Poly_setNumber.cls c_Poly_setNumber 4 none y_Poly_setNumber.name Q 21 [(3, .int 13), (0, .ref a), (1, .long 1)] [] h2 n 0 0) :
    ∀ (j i : Nat), i + j = 13 → ∀ (h : jH), h a = some (.inr (0, [.ref q, .int d])) → h q = some (.inl (Y 1, 13, .inr (.inl (fun _ => 0)))) → (∀ x, x ≠ q → h x = hb x) → jW b D Y s0 p l e (jrm 1 0 0) s m [Value.ref a, .long 1].toArray below meth c y_Poly_setNumber.cls c_Poly_setNumber 4 none y_Poly_setNumber.name Q 2 [(3, .int (nI i)), (0, .ref a), (1, .long 1)] [] h n 0 0 := by
  intro j
  induction j with
  | zero =>
    intro i hi h H0 H1 HF
    obtain rfl : i = 13 := by omega
    refine j_iload_n d_Poly_setNumber_2 0 rfl ?_
    refine j_bipush d_Poly_setNumber_3 (v := 12) (by decide) ?_
    refine j_icmp_gt_t (tgt := 21) d_Poly_setNumber_5 (by decide) (by decide) ?_
    exact hx h H0 H1 HF
  | succ j ih =>
    intro i hi h H0 H1 HF
    have hi13 : i < 13 := by omega
    refine j_iload_n d_Poly_setNumber_2 0 rfl ?_
    refine j_bipush d_Poly_setNumber_3 (v := 12) (by decide) ?_
    refine j_icmp_gt_f (tgt := 21) d_Poly_setNumber_5 (by decide) (nI_nlt (a := 12) (by omega) (by decide)) ?_
    refine j_aload_n d_Poly_setNumber_8 1 rfl ?_
    refine j_get iw_Poly (ci := 0) (kf := 0) rfl (by decide) g_33 d_Poly_setNumber_9 H0 rfl ?_
    refine j_iload_n d_Poly_setNumber_12 0 rfl ?_
    refine j_lconst d_Poly_setNumber_13 (v := 0) (by decide) ?_
    refine j_last d_Poly_setNumber_14 H1 (nI_in hi13 (by omega)) ?_
    refine j_iinc d_Poly_setNumber_15 0 rfl (v := nI (i + 1)) (nI_1 i) (Nat.le_of_ble_eq_true rfl) rfl ?_
    refine j_goto (tgt := 2) d_Poly_setNumber_18 (by decide) ?_
    exact ih (i + 1) (by omega) _ ((jh_up_n _ _ (by omega)).trans H0) ((jh_up_s _ _ _).trans (by rw [upd00])) (fun x h1x => (jh_up_n _ _ (by omega)).trans (HF x h1x))
set_option maxHeartbeats 4000000 in
set_option maxRecDepth 100000 in
theorem k_Poly_setNumber (l : Launch) {b : Nat} {D : va_G} {Y : Nat → ClassId} {s0 : State} (Z : jS0 b D Y s0) (a q n : Nat) (d : Int32) (h : jH) (haq : a ≠ q) (H0 : h a = some (.inr (0, [.ref q, .int d]))) (H1 : h q = some (.inl (Y 1, 13, .inr (.inl (fun _ => 0))))) : jMet l D s0 y_Poly_setNumber c_Poly_setNumber 4 none 1 [.ref a, .long 1] h n 0 0 (fun r h2 n2 => r = none ∧ n2 = n ∧ h2 a = some (.inr (0, [.ref q, .int 0])) ∧ h2 q = some (.inl (Y 1, 13, .inr (.inl jOne))) ∧ ∀ x, x ≠ a → x ≠ q → h2 x = h x) := by
  refine jMet_of Z (by decide) (Nat.le_of_ble_eq_true rfl) ?_
  intro p e s m below meth c
  refine j_iconst d_Poly_setNumber_0 (v := 0) (by decide) ?_
  refine j_istore_n d_Poly_setNumber_1 (Nat.le_of_ble_eq_true rfl) rfl ?_
  refine k_Poly_setNumber_loop l Z a q n d h haq (fun h3 A3 B3 G3 => ?_) 13 0 rfl h H0 H1 (fun x _ => rfl)
  refine j_aload_n d_Poly_setNumber_21 1 rfl ?_
  refine j_get iw_Poly (ci := 0) (kf := 0) rfl (by decide) g_33 d_Poly_setNumber_22 A3 rfl ?_
  refine j_iconst d_Poly_setNumber_25 (v := 0) (by decide) ?_
  refine j_lload_n d_Poly_setNumber_26 2 rfl ?_
  refine j_last d_Poly_setNumber_27 B3 (by unfold vp_in; decide) ?_
  refine j_aload_n d_Poly_setNumber_28 1 rfl ?_
  refine j_lload_n d_Poly_setNumber_29 2 rfl ?_
  refine j_lconst d_Poly_setNumber_30 (v := 0) (by decide) ?_
  refine j_lcmp d_Poly_setNumber_31 ?_
  refine j_if_ne_t (tgt := 39) d_Poly_setNumber_32 (by decide) (by decide) ?_
  refine j_iconst d_Poly_setNumber_39 (v := 0) (by decide) ?_
  refine j_put iw_Poly t_Poly t_Poly_ok n_Poly (ci := 0) (kf := 1) rfl (by decide) g_41 rfl (t_Poly_ok 1 (by decide)) rfl rfl d_Poly_setNumber_40 ((jh_up_n _ _ (by omega)).trans A3) (Nat.le_of_ble_eq_true rfl) ?_
  refine j_vret rfl d_Poly_setNumber_43 ⟨rfl, rfl, (jh_up_s _ _ _), ((jh_up_n _ _ (by omega)).trans (jh_up_s _ _ _)), fun x h1 h2 => ((jh_up_n _ _ (by omega)).trans ((jh_up_n _ _ (by omega)).trans (G3 x h2)))⟩
set_option maxHeartbeats 4000000 in
set_option maxRecDepth 100000 in
theorem k_Desk_init (l : Launch) {b : Nat} {D : va_G} {Y : Nat → ClassId} {s0 : State} (Z : jS0 b D Y s0) (a n : Nat) (h : jH) (ha : a < n) (H0 : h a = some (.inr (8, fs_Desk))) : jMet l D s0 y_Desk_init c_Desk_init 1 none 6 [.ref a] h n 207 1644 (fun r h2 n2 => r = none ∧ n2 = n + 207 ∧ h2 a = some (.inr (8, [.ref n, .int 0, .ref (n + 1), .ref (n + 3), .ref (n + 5), .ref (n + 7), .ref (n + 9), .ref (n + 36), .ref (n + 64), .ref (n + 65)])) ∧ h2 n = some (.inl (Y 0, 13, .inl (fun _ => 0))) ∧ h2 (n + 1) = some (.inr (0, [.ref (n + 2), .int 0])) ∧ h2 (n + 2) = some (.inl (Y 1, 13, .inr (.inl jOne))) ∧ h2 (n + 7) = some (.inr (0, [.ref (n + 8), .int 0])) ∧ h2 (n + 8) = some (.inl (Y 1, 13, .inr (.inl jOne))) ∧ h2 (n + 9) = some (.inr (1, [.ref (n + 10), .ref (n + 35), .int 0])) ∧ h2 (n + 36) = some (.inr (7, [.ref (n + 37), .ref (n + 64), .ref (n + 65), .int 0, .ref (n + 82), .ref (n + 83), .ref (n + 201), .ref (n + 203), .ref (n + 205)])) ∧ h2 (n + 37) = some (.inr (1, [.ref (n + 38), .ref (n + 63), .int 0])) ∧ h2 (n + 201) = some (.inr (0, [.ref (n + 202), .int (-1)])) ∧ h2 (n + 202) = some (.inl (Y 1, 13, .inr (.inl (fun _ => 0)))) ∧ ∀ x, x < n → x ≠ a → h2 x = h x) := by
  refine jMet_of Z (by decide) (Nat.le_of_ble_eq_true rfl) ?_
  intro p e s m below meth c
  refine j_aload_n d_Desk_init_0 0 rfl ?_
  refine j_objInit g_24 g_25 g_26 (Nat.le_of_ble_eq_true rfl) (Nat.le_of_ble_eq_true rfl) d_Desk_init_1 ?_
  refine j_aload_n d_Desk_init_4 0 rfl ?_
  refine j_bipush d_Desk_init_5 (v := 13) (by decide) ?_
  refine j_newI (N := 13) g_55 (by decide) rfl (by decide) (by first | exact Nat.le_of_ble_eq_true rfl | (simp only [jrm]; omega)) (by first | exact Nat.le_of_ble_eq_true rfl | (simp only [jrm]; omega)) d_Desk_init_7 ?_
  refine j_putF iw_Desk t_Desk t_Desk_ok n_Desk (ci := 8) (kf := 0) rfl (by decide) g_304 rfl rfl rfl (t_Desk_ok 0 (by decide)) rfl rfl d_Desk_init_9 ((jh_up_n _ _ (by omega)).trans H0) (Nat.le_of_ble_eq_true rfl) ?_
  refine j_aload_n d_Desk_init_12 0 rfl ?_
  refine j_iconst d_Desk_init_13 (v := 0) (by decide) ?_
  refine j_put iw_Desk t_Desk t_Desk_ok n_Desk (ci := 8) (kf := 1) rfl (by decide) g_305 rfl (t_Desk_ok 1 (by decide)) rfl rfl d_Desk_init_14 (jh_up_s _ _ _) (Nat.le_of_ble_eq_true rfl) ?_
  refine j_aload_n d_Desk_init_17 0 rfl ?_
  refine j_new iw_Poly t_Poly t_Poly_ok (ci := 0) (fs := fs_Poly) rfl g_27 g_28 g_2 df_Poly (by first | exact Nat.le_of_ble_eq_true rfl | (simp only [jrm]; omega)) (by first | exact Nat.le_of_ble_eq_true rfl | (simp only [jrm]; omega)) d_Desk_init_18 ?_
  refine j_dup d_Desk_init_21 rfl ?_
  refine j_callI (k_Poly_init l Z (n + 1) (n + 2) _ (by omega) (jh_up_s _ _ _)) ⟨⟨Nat.le_of_ble_eq_true rfl, Nat.le_of_ble_eq_true rfl⟩, g_29, g_31, g_2, by decide +kernel⟩ g_30 rfl ⟨(by first | exact Nat.le_of_ble_eq_true rfl | (simp only [jrm]; omega)), (by first | exact Nat.le_of_ble_eq_true rfl | (simp only [jrm]; omega))⟩ (Nat.le_of_ble_eq_true rfl) d_Desk_init_22 (fun r33 h33 n33 P33 => ?_)
  obtain ⟨rfl, rfl, A33, O33, F33⟩ := P33
  have E33_0 := (F33 a (by omega) (by omega)).trans ((jh_up_n _ _ (by omega)).trans (jh_up_s _ _ _))
  have E33_1 := (F33 n (by omega) (by omega)).trans ((jh_up_n _ _ (by omega)).trans ((jh_up_n _ _ (by omega)).trans ((jh_up_n _ _ (by omega)).trans (jh_up_s _ _ _))))
  refine j_putF iw_Desk t_Desk t_Desk_ok n_Desk (ci := 8) (kf := 2) rfl (by decide) g_306 rfl rfl rfl (t_Desk_ok 2 (by decide)) rfl rfl d_Desk_init_25 E33_0 (Nat.le_of_ble_eq_true rfl) ?_
  refine j_aload_n d_Desk_init_28 0 rfl ?_
  refine j_get iw_Desk (ci := 8) (kf := 2) rfl (by decide) g_306 d_Desk_init_29 (jh_up_s _ _ _) rfl ?_
  refine j_lconst d_Desk_init_32 (v := 1) (by decide) ?_
  refine j_callV (k_Poly_setNumber l Z (n + 1) (n + 2) _ _ _ (by omega) ((jh_up_n _ _ (by omega)).trans O33) ((jh_up_n _ _ (by omega)).trans A33)) ⟨⟨Nat.le_of_ble_eq_true rfl, Nat.le_of_ble_eq_true rfl⟩, g_57, g_60, g_2, (by decide +kernel), (by decide +kernel), (show _ = some 1 from by decide +kernel)⟩ g_58 g_59 (ci := 0) rfl ((jh_up_n _ _ (by omega)).trans O33) ⟨(by first | exact Nat.le_of_ble_eq_true rfl | (simp only [jrm]; omega)), (by first | exact Nat.le_of_ble_eq_true rfl | (simp only [jrm]; omega))⟩ (Nat.le_of_ble_eq_true rfl) d_Desk_init_33 (fun r34 h34 n34 P34 => ?_)
  obtain ⟨rfl, rfl, O34, A34, F34⟩ := P34
  have E34_0 := (F34 a (by omega) (by omega)).trans (jh_up_s _ _ _)
  have E34_1 := (F34 n (by omega) (by omega)).trans ((jh_up_n _ _ (by omega)).trans E33_1)
  refine j_aload_n d_Desk_init_36 0 rfl ?_
  refine j_new iw_Poly t_Poly t_Poly_ok (ci := 0) (fs := fs_Poly) rfl g_27 g_28 g_2 df_Poly (by first | exact Nat.le_of_ble_eq_true rfl | (simp only [jrm]; omega)) (by first | exact Nat.le_of_ble_eq_true rfl | (simp only [jrm]; omega)) d_Desk_init_37 ?_
  refine j_dup d_Desk_init_40 rfl ?_
  refine j_callI (k_Poly_init l Z (n + 3) (n + 4) _ (by omega) (jh_up_s _ _ _)) ⟨⟨Nat.le_of_ble_eq_true rfl, Nat.le_of_ble_eq_true rfl⟩, g_29, g_31, g_2, by decide +kernel⟩ g_30 rfl ⟨(by first | exact Nat.le_of_ble_eq_true rfl | (simp only [jrm]; omega)), (by first | exact Nat.le_of_ble_eq_true rfl | (simp only [jrm]; omega))⟩ (Nat.le_of_ble_eq_true rfl) d_Desk_init_41 (fun r35 h35 n35 P35 => ?_)
  obtain ⟨rfl, rfl, A35, O35, F35⟩ := P35
  have E35_0 := (F35 a (by omega) (by omega)).trans ((jh_up_n _ _ (by omega)).trans E34_0)
  have E35_1 := (F35 n (by omega) (by omega)).trans ((jh_up_n _ _ (by omega)).trans E34_1)
  have E35_2 := (F35 (n + 1) (by omega) (by omega)).trans ((jh_up_n _ _ (by omega)).trans O34)
  have E35_3 := (F35 (n + 2) (by omega) (by omega)).trans ((jh_up_n _ _ (by omega)).trans A34)
  refine j_putF iw_Desk t_Desk t_Desk_ok n_Desk (ci := 8) (kf := 3) rfl (by decide) g_307 rfl rfl rfl (t_Desk_ok 3 (by decide)) rfl rfl d_Desk_init_44 E35_0 (Nat.le_of_ble_eq_true rfl) ?_
  refine j_aload_n d_Desk_init_47 0 rfl ?_
  refine j_new iw_Poly t_Poly t_Poly_ok (ci := 0) (fs := fs_Poly) rfl g_27 g_28 g_2 df_Poly (by first | exact Nat.le_of_ble_eq_true rfl | (simp only [jrm]; omega)) (by first | exact Nat.le_of_ble_eq_true rfl | (simp only [jrm]; omega)) d_Desk_init_48 ?_
  refine j_dup d_Desk_init_51 rfl ?_
  refine j_callI (k_Poly_init l Z (n + 5) (n + 6) _ (by omega) (jh_up_s _ _ _)) ⟨⟨Nat.le_of_ble_eq_true rfl, Nat.le_of_ble_eq_true rfl⟩, g_29, g_31, g_2, by decide +kernel⟩ g_30 rfl ⟨(by first | exact Nat.le_of_ble_eq_true rfl | (simp only [jrm]; omega)), (by first | exact Nat.le_of_ble_eq_true rfl | (simp only [jrm]; omega))⟩ (Nat.le_of_ble_eq_true rfl) d_Desk_init_52 (fun r36 h36 n36 P36 => ?_)
  obtain ⟨rfl, rfl, A36, O36, F36⟩ := P36
  have E36_0 := (F36 a (by omega) (by omega)).trans ((jh_up_n _ _ (by omega)).trans (jh_up_s _ _ _))
  have E36_1 := (F36 n (by omega) (by omega)).trans ((jh_up_n _ _ (by omega)).trans ((jh_up_n _ _ (by omega)).trans E35_1))
  have E36_2 := (F36 (n + 1) (by omega) (by omega)).trans ((jh_up_n _ _ (by omega)).trans ((jh_up_n _ _ (by omega)).trans E35_2))
  have E36_3 := (F36 (n + 2) (by omega) (by omega)).trans ((jh_up_n _ _ (by omega)).trans ((jh_up_n _ _ (by omega)).trans E35_3))
  refine j_putF iw_Desk t_Desk t_Desk_ok n_Desk (ci := 8) (kf := 4) rfl (by decide) g_308 rfl rfl rfl (t_Desk_ok 4 (by decide)) rfl rfl d_Desk_init_55 E36_0 (Nat.le_of_ble_eq_true rfl) ?_
  refine j_aload_n d_Desk_init_58 0 rfl ?_
  refine j_new iw_Poly t_Poly t_Poly_ok (ci := 0) (fs := fs_Poly) rfl g_27 g_28 g_2 df_Poly (by first | exact Nat.le_of_ble_eq_true rfl | (simp only [jrm]; omega)) (by first | exact Nat.le_of_ble_eq_true rfl | (simp only [jrm]; omega)) d_Desk_init_59 ?_
  refine j_dup d_Desk_init_62 rfl ?_
  refine j_callI (k_Poly_init l Z (n + 7) (n + 8) _ (by omega) (jh_up_s _ _ _)) ⟨⟨Nat.le_of_ble_eq_true rfl, Nat.le_of_ble_eq_true rfl⟩, g_29, g_31, g_2, by decide +kernel⟩ g_30 rfl ⟨(by first | exact Nat.le_of_ble_eq_true rfl | (simp only [jrm]; omega)), (by first | exact Nat.le_of_ble_eq_true rfl | (simp only [jrm]; omega))⟩ (Nat.le_of_ble_eq_true rfl) d_Desk_init_63 (fun r37 h37 n37 P37 => ?_)
  obtain ⟨rfl, rfl, A37, O37, F37⟩ := P37
  have E37_0 := (F37 a (by omega) (by omega)).trans ((jh_up_n _ _ (by omega)).trans (jh_up_s _ _ _))
  have E37_1 := (F37 n (by omega) (by omega)).trans ((jh_up_n _ _ (by omega)).trans ((jh_up_n _ _ (by omega)).trans E36_1))
  have E37_2 := (F37 (n + 1) (by omega) (by omega)).trans ((jh_up_n _ _ (by omega)).trans ((jh_up_n _ _ (by omega)).trans E36_2))
  have E37_3 := (F37 (n + 2) (by omega) (by omega)).trans ((jh_up_n _ _ (by omega)).trans ((jh_up_n _ _ (by omega)).trans E36_3))
  refine j_putF iw_Desk t_Desk t_Desk_ok n_Desk (ci := 8) (kf := 5) rfl (by decide) g_309 rfl rfl rfl (t_Desk_ok 5 (by decide)) rfl rfl d_Desk_init_66 E37_0 (Nat.le_of_ble_eq_true rfl) ?_
  refine j_aload_n d_Desk_init_69 0 rfl ?_
  refine j_get iw_Desk (ci := 8) (kf := 5) rfl (by decide) g_309 d_Desk_init_70 (jh_up_s _ _ _) rfl ?_
  refine j_lconst d_Desk_init_73 (v := 1) (by decide) ?_
  refine j_callV (k_Poly_setNumber l Z (n + 7) (n + 8) _ _ _ (by omega) ((jh_up_n _ _ (by omega)).trans O37) ((jh_up_n _ _ (by omega)).trans A37)) ⟨⟨Nat.le_of_ble_eq_true rfl, Nat.le_of_ble_eq_true rfl⟩, g_57, g_60, g_2, (by decide +kernel), (by decide +kernel), (show _ = some 1 from by decide +kernel)⟩ g_58 g_59 (ci := 0) rfl ((jh_up_n _ _ (by omega)).trans O37) ⟨(by first | exact Nat.le_of_ble_eq_true rfl | (simp only [jrm]; omega)), (by first | exact Nat.le_of_ble_eq_true rfl | (simp only [jrm]; omega))⟩ (Nat.le_of_ble_eq_true rfl) d_Desk_init_74 (fun r38 h38 n38 P38 => ?_)
  obtain ⟨rfl, rfl, O38, A38, F38⟩ := P38
  have E38_0 := (F38 a (by omega) (by omega)).trans (jh_up_s _ _ _)
  have E38_1 := (F38 n (by omega) (by omega)).trans ((jh_up_n _ _ (by omega)).trans E37_1)
  have E38_2 := (F38 (n + 1) (by omega) (by omega)).trans ((jh_up_n _ _ (by omega)).trans E37_2)
  have E38_3 := (F38 (n + 2) (by omega) (by omega)).trans ((jh_up_n _ _ (by omega)).trans E37_3)
  refine j_aload_n d_Desk_init_77 0 rfl ?_
  refine j_new iw_FList t_FList t_FList_ok (ci := 1) (fs := fs_FList) rfl g_61 g_62 g_3 df_FList (by first | exact Nat.le_of_ble_eq_true rfl | (simp only [jrm]; omega)) (by first | exact Nat.le_of_ble_eq_true rfl | (simp only [jrm]; omega)) d_Desk_init_78 ?_
  refine j_dup d_Desk_init_81 rfl ?_
  refine j_callI (k_FList_init l Z (n + 9) (n + 10) _ (by omega) (jh_up_s _ _ _)) ⟨⟨Nat.le_of_ble_eq_true rfl, Nat.le_of_ble_eq_true rfl⟩, g_63, g_65, g_3, by decide +kernel⟩ g_64 rfl ⟨(by first | exact Nat.le_of_ble_eq_true rfl | (simp only [jrm]; omega)), (by first | exact Nat.le_of_ble_eq_true rfl | (simp only [jrm]; omega))⟩ (Nat.le_of_ble_eq_true rfl) d_Desk_init_82 (fun r39 h39 n39 P39 => ?_)
  obtain ⟨rfl, rfl, O39, F39⟩ := P39
  have E39_0 := (F39 a (by omega) (by omega)).trans ((jh_up_n _ _ (by omega)).trans E38_0)
  have E39_1 := (F39 n (by omega) (by omega)).trans ((jh_up_n _ _ (by omega)).trans E38_1)
  have E39_2 := (F39 (n + 1) (by omega) (by omega)).trans ((jh_up_n _ _ (by omega)).trans E38_2)
  have E39_3 := (F39 (n + 2) (by omega) (by omega)).trans ((jh_up_n _ _ (by omega)).trans E38_3)
  have E39_4 := (F39 (n + 7) (by omega) (by omega)).trans ((jh_up_n _ _ (by omega)).trans O38)
  have E39_5 := (F39 (n + 8) (by omega) (by omega)).trans ((jh_up_n _ _ (by omega)).trans A38)
  refine j_putF iw_Desk t_Desk t_Desk_ok n_Desk (ci := 8) (kf := 6) rfl (by decide) g_310 rfl rfl rfl (t_Desk_ok 6 (by decide)) rfl rfl d_Desk_init_85 E39_0 (Nat.le_of_ble_eq_true rfl) ?_
  refine j_aload_n d_Desk_init_88 0 rfl ?_
  refine j_new iw_Splt t_Splt t_Splt_ok (ci := 7) (fs := fs_Splt) rfl g_86 g_87 g_4 df_Splt (by first | exact Nat.le_of_ble_eq_true rfl | (simp only [jrm]; omega)) (by first | exact Nat.le_of_ble_eq_true rfl | (simp only [jrm]; omega)) d_Desk_init_89 ?_
  refine j_dup d_Desk_init_92 rfl ?_
  refine j_callI (k_Splt_init l Z (n + 36) (n + 37) _ (by omega) (jh_up_s _ _ _)) ⟨⟨Nat.le_of_ble_eq_true rfl, Nat.le_of_ble_eq_true rfl⟩, g_88, g_90, g_4, by decide +kernel⟩ g_89 rfl ⟨(by first | exact Nat.le_of_ble_eq_true rfl | (simp only [jrm]; omega)), (by first | exact Nat.le_of_ble_eq_true rfl | (simp only [jrm]; omega))⟩ (Nat.le_of_ble_eq_true rfl) d_Desk_init_93 (fun r40 h40 n40 P40 => ?_)
  obtain ⟨rfl, rfl, O40, X40_0, X40_1, X40_2, F40⟩ := P40
  have E40_0 := (F40 a (by omega) (by omega)).trans ((jh_up_n _ _ (by omega)).trans (jh_up_s _ _ _))
  have E40_1 := (F40 n (by omega) (by omega)).trans ((jh_up_n _ _ (by omega)).trans ((jh_up_n _ _ (by omega)).trans E39_1))
  have E40_2 := (F40 (n + 1) (by omega) (by omega)).trans ((jh_up_n _ _ (by omega)).trans ((jh_up_n _ _ (by omega)).trans E39_2))
  have E40_3 := (F40 (n + 2) (by omega) (by omega)).trans ((jh_up_n _ _ (by omega)).trans ((jh_up_n _ _ (by omega)).trans E39_3))
  have E40_4 := (F40 (n + 7) (by omega) (by omega)).trans ((jh_up_n _ _ (by omega)).trans ((jh_up_n _ _ (by omega)).trans E39_4))
  have E40_5 := (F40 (n + 8) (by omega) (by omega)).trans ((jh_up_n _ _ (by omega)).trans ((jh_up_n _ _ (by omega)).trans E39_5))
  have E40_6 := (F40 (n + 9) (by omega) (by omega)).trans ((jh_up_n _ _ (by omega)).trans ((jh_up_n _ _ (by omega)).trans O39))
  refine j_putF iw_Desk t_Desk t_Desk_ok n_Desk (ci := 8) (kf := 7) rfl (by decide) g_311 rfl rfl rfl (t_Desk_ok 7 (by decide)) rfl rfl d_Desk_init_96 E40_0 (Nat.le_of_ble_eq_true rfl) ?_
  refine j_aload_n d_Desk_init_99 0 rfl ?_
  refine j_aload_n d_Desk_init_100 0 rfl ?_
  refine j_get iw_Desk (ci := 8) (kf := 7) rfl (by decide) g_311 d_Desk_init_101 (jh_up_s _ _ _) rfl ?_
  refine j_get iw_Splt (ci := 7) (kf := 1) rfl (by decide) g_276 d_Desk_init_104 ((jh_up_n _ _ (by omega)).trans O40) rfl ?_
  refine j_putF iw_Desk t_Desk t_Desk_ok n_Desk (ci := 8) (kf := 8) rfl (by decide) g_312 rfl rfl rfl (t_Desk_ok 8 (by decide)) rfl rfl d_Desk_init_107 (jh_up_s _ _ _) (Nat.le_of_ble_eq_true rfl) ?_
  refine j_aload_n d_Desk_init_110 0 rfl ?_
  refine j_aload_n d_Desk_init_111 0 rfl ?_
  refine j_get iw_Desk (ci := 8) (kf := 7) rfl (by decide) g_311 d_Desk_init_112 (jh_up_s _ _ _) rfl ?_
  refine j_get iw_Splt (ci := 7) (kf := 2) rfl (by decide) g_278 d_Desk_init_115 ((jh_up_n _ _ (by omega)).trans ((jh_up_n _ _ (by omega)).trans O40)) rfl ?_
  refine j_putF iw_Desk t_Desk t_Desk_ok n_Desk (ci := 8) (kf := 9) rfl (by decide) g_313 rfl rfl rfl (t_Desk_ok 9 (by decide)) rfl rfl d_Desk_init_118 (jh_up_s _ _ _) (Nat.le_of_ble_eq_true rfl) ?_
  refine j_vret rfl d_Desk_init_121 ⟨rfl, rfl, ?_, ?_, ?_, ?_, ?_, ?_, ?_, ?_, ?_, ?_, ?_, fun x h1 h2 => ?_⟩
  · exact (jh_up_s _ _ _)
  · exact ((jh_up_n _ _ (by omega)).trans ((jh_up_n _ _ (by omega)).trans ((jh_up_n _ _ (by omega)).trans E40_1)))
  · exact ((jh_up_n _ _ (by omega)).trans ((jh_up_n _ _ (by omega)).trans ((jh_up_n _ _ (by omega)).trans E40_2)))
  · exact ((jh_up_n _ _ (by omega)).trans ((jh_up_n _ _ (by omega)).trans ((jh_up_n _ _ (by omega)).trans E40_3)))
  · exact ((jh_up_n _ _ (by omega)).trans ((jh_up_n _ _ (by omega)).trans ((jh_up_n _ _ (by omega)).trans E40_4)))
  · exact ((jh_up_n _ _ (by omega)).trans ((jh_up_n _ _ (by omega)).trans ((jh_up_n _ _ (by omega)).trans E40_5)))
  · exact ((jh_up_n _ _ (by omega)).trans ((jh_up_n _ _ (by omega)).trans ((jh_up_n _ _ (by omega)).trans E40_6)))
  · exact ((jh_up_n _ _ (by omega)).trans ((jh_up_n _ _ (by omega)).trans ((jh_up_n _ _ (by omega)).trans O40)))
  · exact ((jh_up_n _ _ (by omega)).trans ((jh_up_n _ _ (by omega)).trans ((jh_up_n _ _ (by omega)).trans X40_0)))
  · exact ((jh_up_n _ _ (by omega)).trans ((jh_up_n _ _ (by omega)).trans ((jh_up_n _ _ (by omega)).trans X40_1)))
  · exact ((jh_up_n _ _ (by omega)).trans ((jh_up_n _ _ (by omega)).trans ((jh_up_n _ _ (by omega)).trans X40_2)))
  · exact ((jh_up_n _ _ (by omega)).trans ((jh_up_n _ _ (by omega)).trans ((jh_up_n _ _ (by omega)).trans ((F40 x (by omega) (by omega)).trans ((jh_up_n _ _ (by omega)).trans ((jh_up_n _ _ (by omega)).trans ((F39 x (by omega) (by omega)).trans ((jh_up_n _ _ (by omega)).trans ((F38 x (by omega) (by omega)).trans ((jh_up_n _ _ (by omega)).trans ((F37 x (by omega) (by omega)).trans ((jh_up_n _ _ (by omega)).trans ((jh_up_n _ _ (by omega)).trans ((F36 x (by omega) (by omega)).trans ((jh_up_n _ _ (by omega)).trans ((jh_up_n _ _ (by omega)).trans ((F35 x (by omega) (by omega)).trans ((jh_up_n _ _ (by omega)).trans ((F34 x (by omega) (by omega)).trans ((jh_up_n _ _ (by omega)).trans ((F33 x (by omega) (by omega)).trans ((jh_up_n _ _ (by omega)).trans ((jh_up_n _ _ (by omega)).trans ((jh_up_n _ _ (by omega)).trans (jh_up_n _ _ (by omega))))))))))))))))))))))))))
