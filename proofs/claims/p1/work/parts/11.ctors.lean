theorem j_nks {b : Nat} {D : va_G} {Y : Nat → ClassId} {s0 : State} {p : Program} {l : Launch} {e : Env} {R : Room} {s : State} {m : MethodId} {args : Array Value} {below : List Frame} {meth : Method} {c : Code} {own : String} {cc : ByteArray} {nL : Nat} {ret : Option FieldType} {nm : String} {Q : State → Prop} {pc : Nat} {lv : List (Nat × Value)} {st : List Value} {h : jH} {n k sl : Nat} (n2 k2 sl2 : Nat) (h1 : n = n2) (h2 : k = k2) (h3 : sl = sl2) (kk : jW b D Y s0 p l e R s m args below meth c own cc nL ret nm Q pc lv st h n2 k2 sl2) : jW b D Y s0 p l e R s m args below meth c own cc nL ret nm Q pc lv st h n k sl := by
  subst h1; subst h2; subst h3; exact kk
theorem j_upx {b : Nat} {D : va_G} {Y : Nat → ClassId} {s0 : State} {p : Program} {l : Launch} {e : Env} {R : Room} {s : State} {m : MethodId} {args : Array Value} {below : List Frame} {meth : Method} {c : Code} {own : String} {cc : ByteArray} {nL : Nat} {ret : Option FieldType} {nm : String} {Q : State → Prop} {pc : Nat} {lv : List (Nat × Value)} {st : List Value} {h : jH} {n k sl a ci : Nat} {fs fs2 : List Value} (h1 : fs = fs2) (kk : jW b D Y s0 p l e R s m args below meth c own cc nL ret nm Q pc lv st (jh_up h a (.inr (ci, fs2))) n k sl) : jW b D Y s0 p l e R s m args below meth c own cc nL ret nm Q pc lv st (jh_up h a (.inr (ci, fs))) n k sl := by
  subst h1; exact kk
set_option maxHeartbeats 4000000 in
set_option maxRecDepth 100000 in
theorem k_Poly_init (l : Launch) {b : Nat} {D : va_G} {Y : Nat → ClassId} {s0 : State} (Z : jS0 b D Y s0) (a n : Nat) (h : jH) (ha : a < n) (H0 : h a = some (.inr (0, fs_Poly))) : jMet l D s0 y_Poly_init c_Poly_init 1 none 1 [.ref a] h n 1 13 (fun r h2 n2 => r = none ∧ n2 = n + 1 ∧ h2 n = some (.inl (Y 1, 13, .inr (.inl (fun _ => 0)))) ∧ h2 a = some (.inr (0, [.ref n, .int (-1)])) ∧ ∀ x, x ≠ n → x ≠ a → h2 x = h x) := by
  refine jMet_of Z (by decide) (Nat.le_of_ble_eq_true rfl) ?_
  intro p e s m below meth c
  refine j_aload_n d_Poly_init_0 0 rfl ?_
  refine j_objInit g_32 g_25 g_26 (Nat.le_of_ble_eq_true rfl) (Nat.le_of_ble_eq_true rfl) d_Poly_init_1 ?_
  refine j_aload_n d_Poly_init_4 0 rfl ?_
  refine j_bipush d_Poly_init_5 (v := 13) (by decide) ?_
  refine j_newJ (N := 13) g_56 (by decide) rfl (by decide) (by first | exact Nat.le_of_ble_eq_true rfl | (simp only [jrm]; omega)) (by first | exact Nat.le_of_ble_eq_true rfl | (simp only [jrm]; omega)) d_Poly_init_7 ?_
  refine j_putF iw_Poly t_Poly t_Poly_ok n_Poly (ci := 0) (kf := 0) rfl (by decide) g_33 rfl rfl rfl (t_Poly_ok 0 (by decide)) rfl rfl d_Poly_init_9 ((jh_up_n _ _ (by omega)).trans H0) (Nat.le_of_ble_eq_true rfl) ?_
  refine j_aload_n d_Poly_init_12 0 rfl ?_
  refine j_iconst d_Poly_init_13 (v := -1) (by decide) ?_
  refine j_put iw_Poly t_Poly t_Poly_ok n_Poly (ci := 0) (kf := 1) rfl (by decide) g_41 rfl (t_Poly_ok 1 (by decide)) rfl rfl d_Poly_init_14 (jh_up_s _ _ _) (Nat.le_of_ble_eq_true rfl) ?_
  refine j_vret rfl d_Poly_init_17 ⟨rfl, rfl, ?_, ?_, fun x h1 h2 => ?_⟩
  · exact ((jh_up_n _ _ (by omega)).trans ((jh_up_n _ _ (by omega)).trans (jh_up_s _ _ _)))
  · exact (jh_up_s _ _ _)
  · simp [jh_up, h1, h2]
set_option maxHeartbeats 4000000 in
set_option maxRecDepth 100000 in
theorem k_Divn_init (l : Launch) {b : Nat} {D : va_G} {Y : Nat → ClassId} {s0 : State} (Z : jS0 b D Y s0) (a n : Nat) (h : jH) (ha : a < n) (H0 : h a = some (.inr (2, fs_Divn))) : jMet l D s0 y_Divn_init c_Divn_init 1 none 2 [.ref a] h n 3 28 (fun r h2 n2 => r = none ∧ n2 = n + 3 ∧ h2 a = some (.inr (2, [.ref n, .ref (n + 2)])) ∧ ∀ x, x < n → x ≠ a → h2 x = h x) := by
  refine jMet_of Z (by decide) (Nat.le_of_ble_eq_true rfl) ?_
  intro p e s m below meth c
  refine j_aload_n d_Divn_init_0 0 rfl ?_
  refine j_objInit g_105 g_25 g_26 (Nat.le_of_ble_eq_true rfl) (Nat.le_of_ble_eq_true rfl) d_Divn_init_1 ?_
  refine j_aload_n d_Divn_init_4 0 rfl ?_
  refine j_new iw_Poly t_Poly t_Poly_ok (ci := 0) (fs := fs_Poly) rfl g_106 g_28 g_2 df_Poly (by first | exact Nat.le_of_ble_eq_true rfl | (simp only [jrm]; omega)) (by first | exact Nat.le_of_ble_eq_true rfl | (simp only [jrm]; omega)) d_Divn_init_5 ?_
  refine j_dup d_Divn_init_8 rfl ?_
  refine j_callI (k_Poly_init l Z n (n + 1) _ (by omega) (jh_up_s _ _ _)) ⟨⟨Nat.le_of_ble_eq_true rfl, Nat.le_of_ble_eq_true rfl⟩, g_107, g_31, g_2, by decide +kernel⟩ g_30 rfl ⟨(by first | exact Nat.le_of_ble_eq_true rfl | (simp only [jrm]; omega)), (by first | exact Nat.le_of_ble_eq_true rfl | (simp only [jrm]; omega))⟩ (Nat.le_of_ble_eq_true rfl) d_Divn_init_9 (fun r0 h0 n0 P0 => ?_)
  obtain ⟨rfl, rfl, A0, O0, F0⟩ := P0
  have E0_0 := (F0 a (by omega) (by omega)).trans ((jh_up_n _ _ (by omega)).trans H0)
  refine j_putF iw_Divn t_Divn t_Divn_ok n_Divn (ci := 2) (kf := 0) rfl (by decide) g_108 rfl rfl rfl (t_Divn_ok 0 (by decide)) rfl rfl d_Divn_init_12 E0_0 (Nat.le_of_ble_eq_true rfl) ?_
  refine j_aload_n d_Divn_init_15 0 rfl ?_
  refine j_bipush d_Divn_init_16 (v := 13) (by decide) ?_
  refine j_newJ (N := 13) g_56 (by decide) rfl (by decide) (by first | exact Nat.le_of_ble_eq_true rfl | (simp only [jrm]; omega)) (by first | exact Nat.le_of_ble_eq_true rfl | (simp only [jrm]; omega)) d_Divn_init_18 ?_
  refine j_putF iw_Divn t_Divn t_Divn_ok n_Divn (ci := 2) (kf := 1) rfl (by decide) g_110 rfl rfl rfl (t_Divn_ok 1 (by decide)) rfl rfl d_Divn_init_20 ((jh_up_n _ _ (by omega)).trans (jh_up_s _ _ _)) (Nat.le_of_ble_eq_true rfl) ?_
  refine j_vret rfl d_Divn_init_23 ⟨rfl, rfl, ?_, fun x h1 h2 => ?_⟩
  · exact (jh_up_s _ _ _)
  · exact ((jh_up_n _ _ (by omega)).trans ((jh_up_n _ _ (by omega)).trans ((jh_up_n _ _ (by omega)).trans ((F0 x (by omega) (by omega)).trans (jh_up_n _ _ (by omega))))))
set_option maxHeartbeats 4000000 in
set_option maxRecDepth 100000 in
theorem k_Resi_init (l : Launch) {b : Nat} {D : va_G} {Y : Nat → ClassId} {s0 : State} (Z : jS0 b D Y s0) (a n : Nat) (h : jH) (ha : a < n) (H0 : h a = some (.inr (3, fs_Resi))) : jMet l D s0 y_Resi_init c_Resi_init 1 none 2 [.ref a] h n 2 15 (fun r h2 n2 => r = none ∧ n2 = n + 2 ∧ h2 a = some (.inr (3, [.ref n, .long 2, .int 31, .long 2147483647, .int 1])) ∧ ∀ x, x < n → x ≠ a → h2 x = h x) := by
  refine jMet_of Z (by decide) (Nat.le_of_ble_eq_true rfl) ?_
  intro p e s m below meth c
  refine j_aload_n d_Resi_init_0 0 rfl ?_
  refine j_objInit g_121 g_25 g_26 (Nat.le_of_ble_eq_true rfl) (Nat.le_of_ble_eq_true rfl) d_Resi_init_1 ?_
  refine j_aload_n d_Resi_init_4 0 rfl ?_
  refine j_new iw_Poly t_Poly t_Poly_ok (ci := 0) (fs := fs_Poly) rfl g_122 g_28 g_2 df_Poly (by first | exact Nat.le_of_ble_eq_true rfl | (simp only [jrm]; omega)) (by first | exact Nat.le_of_ble_eq_true rfl | (simp only [jrm]; omega)) d_Resi_init_5 ?_
  refine j_dup d_Resi_init_8 rfl ?_
  refine j_callI (k_Poly_init l Z n (n + 1) _ (by omega) (jh_up_s _ _ _)) ⟨⟨Nat.le_of_ble_eq_true rfl, Nat.le_of_ble_eq_true rfl⟩, g_123, g_31, g_2, by decide +kernel⟩ g_30 rfl ⟨(by first | exact Nat.le_of_ble_eq_true rfl | (simp only [jrm]; omega)), (by first | exact Nat.le_of_ble_eq_true rfl | (simp only [jrm]; omega))⟩ (Nat.le_of_ble_eq_true rfl) d_Resi_init_9 (fun r1 h1 n1 P1 => ?_)
  obtain ⟨rfl, rfl, A1, O1, F1⟩ := P1
  have E1_0 := (F1 a (by omega) (by omega)).trans ((jh_up_n _ _ (by omega)).trans H0)
  refine j_putF iw_Resi t_Resi t_Resi_ok n_Resi (ci := 3) (kf := 0) rfl (by decide) g_126 rfl rfl rfl (t_Resi_ok 0 (by decide)) rfl rfl d_Resi_init_12 E1_0 (Nat.le_of_ble_eq_true rfl) ?_
  refine j_aload_n d_Resi_init_15 0 rfl ?_
  refine j_ldc2 g_124 d_Resi_init_16 ?_
  refine j_put iw_Resi t_Resi t_Resi_ok n_Resi (ci := 3) (kf := 1) rfl (by decide) g_129 rfl (t_Resi_ok 1 (by decide)) rfl rfl d_Resi_init_19 (jh_up_s _ _ _) (Nat.le_of_ble_eq_true rfl) ?_
  refine j_aload_n d_Resi_init_22 0 rfl ?_
  refine j_bipush d_Resi_init_23 (v := 31) (by decide) ?_
  refine j_put iw_Resi t_Resi t_Resi_ok n_Resi (ci := 3) (kf := 2) rfl (by decide) g_130 rfl (t_Resi_ok 2 (by decide)) rfl rfl d_Resi_init_25 (jh_up_s _ _ _) (Nat.le_of_ble_eq_true rfl) ?_
  refine j_aload_n d_Resi_init_28 0 rfl ?_
  refine j_ldc2 g_125 d_Resi_init_29 ?_
  refine j_put iw_Resi t_Resi t_Resi_ok n_Resi (ci := 3) (kf := 3) rfl (by decide) g_131 rfl (t_Resi_ok 3 (by decide)) rfl rfl d_Resi_init_32 (jh_up_s _ _ _) (Nat.le_of_ble_eq_true rfl) ?_
  refine j_aload_n d_Resi_init_35 0 rfl ?_
  refine j_iconst d_Resi_init_36 (v := 1) (by decide) ?_
  refine j_put iw_Resi t_Resi t_Resi_ok n_Resi (ci := 3) (kf := 4) rfl (by decide) g_132 rfl (t_Resi_ok 4 (by decide)) rfl rfl d_Resi_init_37 (jh_up_s _ _ _) (Nat.le_of_ble_eq_true rfl) ?_
  refine j_vret rfl d_Resi_init_40 ⟨rfl, rfl, ?_, fun x h1 h2 => ?_⟩
  · exact (jh_up_s _ _ _)
  · exact ((jh_up_n _ _ (by omega)).trans ((jh_up_n _ _ (by omega)).trans ((jh_up_n _ _ (by omega)).trans ((jh_up_n _ _ (by omega)).trans ((jh_up_n _ _ (by omega)).trans ((F1 x (by omega) (by omega)).trans (jh_up_n _ _ (by omega))))))))
set_option maxHeartbeats 4000000 in
set_option maxRecDepth 100000 in
theorem k_CDiv_init (l : Launch) {b : Nat} {D : va_G} {Y : Nat → ClassId} {s0 : State} (Z : jS0 b D Y s0) (a n : Nat) (h : jH) (ha : a < n) (H0 : h a = some (.inr (4, fs_CDiv))) : jMet l D s0 y_CDiv_init c_CDiv_init 1 none 3 [.ref a] h n 17 125 (fun r h2 n2 => r = none ∧ n2 = n + 17 ∧ h2 a = some (.inr (4, [.ref (n + 7), .ref n, .ref (n + 4), .ref (n + 9), .ref (n + 11), .ref (n + 13), .ref (n + 15)])) ∧ ∀ x, x < n → x ≠ a → h2 x = h x) := by
  refine jMet_of Z (by decide) (Nat.le_of_ble_eq_true rfl) ?_
  intro p e s m below meth c
  refine j_aload_n d_CDiv_init_0 0 rfl ?_
  refine j_objInit g_99 g_25 g_26 (Nat.le_of_ble_eq_true rfl) (Nat.le_of_ble_eq_true rfl) d_CDiv_init_1 ?_
  refine j_aload_n d_CDiv_init_4 0 rfl ?_
  refine j_new iw_Divn t_Divn t_Divn_ok (ci := 2) (fs := fs_Divn) rfl g_100 g_101 g_6 df_Divn (by first | exact Nat.le_of_ble_eq_true rfl | (simp only [jrm]; omega)) (by first | exact Nat.le_of_ble_eq_true rfl | (simp only [jrm]; omega)) d_CDiv_init_5 ?_
  refine j_dup d_CDiv_init_8 rfl ?_
  refine j_callI (k_Divn_init l Z n (n + 1) _ (by omega) (jh_up_s _ _ _)) ⟨⟨Nat.le_of_ble_eq_true rfl, Nat.le_of_ble_eq_true rfl⟩, g_102, g_104, g_6, by decide +kernel⟩ g_103 rfl ⟨(by first | exact Nat.le_of_ble_eq_true rfl | (simp only [jrm]; omega)), (by first | exact Nat.le_of_ble_eq_true rfl | (simp only [jrm]; omega))⟩ (Nat.le_of_ble_eq_true rfl) d_CDiv_init_9 (fun r2 h2 n2 P2 => ?_)
  obtain ⟨rfl, rfl, O2, F2⟩ := P2
  have E2_0 := (F2 a (by omega) (by omega)).trans ((jh_up_n _ _ (by omega)).trans H0)
  refine j_putF iw_CDiv t_CDiv t_CDiv_ok n_CDiv (ci := 4) (kf := 1) rfl (by decide) g_149 rfl rfl rfl (t_CDiv_ok 1 (by decide)) rfl rfl d_CDiv_init_12 E2_0 (Nat.le_of_ble_eq_true rfl) ?_
  refine j_aload_n d_CDiv_init_15 0 rfl ?_
  refine j_new iw_Resi t_Resi t_Resi_ok (ci := 3) (fs := fs_Resi) rfl g_116 g_117 g_7 df_Resi (by first | exact Nat.le_of_ble_eq_true rfl | (simp only [jrm]; omega)) (by first | exact Nat.le_of_ble_eq_true rfl | (simp only [jrm]; omega)) d_CDiv_init_16 ?_
  refine j_dup d_CDiv_init_19 rfl ?_
  refine j_callI (k_Resi_init l Z (n + 4) (n + 5) _ (by omega) (jh_up_s _ _ _)) ⟨⟨Nat.le_of_ble_eq_true rfl, Nat.le_of_ble_eq_true rfl⟩, g_118, g_120, g_7, by decide +kernel⟩ g_119 rfl ⟨(by first | exact Nat.le_of_ble_eq_true rfl | (simp only [jrm]; omega)), (by first | exact Nat.le_of_ble_eq_true rfl | (simp only [jrm]; omega))⟩ (Nat.le_of_ble_eq_true rfl) d_CDiv_init_20 (fun r3 h3 n3 P3 => ?_)
  obtain ⟨rfl, rfl, O3, F3⟩ := P3
  have E3_0 := (F3 a (by omega) (by omega)).trans ((jh_up_n _ _ (by omega)).trans (jh_up_s _ _ _))
  refine j_putF iw_CDiv t_CDiv t_CDiv_ok n_CDiv (ci := 4) (kf := 2) rfl (by decide) g_151 rfl rfl rfl (t_CDiv_ok 2 (by decide)) rfl rfl d_CDiv_init_23 E3_0 (Nat.le_of_ble_eq_true rfl) ?_
  refine j_aload_n d_CDiv_init_26 0 rfl ?_
  refine j_new iw_Poly t_Poly t_Poly_ok (ci := 0) (fs := fs_Poly) rfl g_144 g_28 g_2 df_Poly (by first | exact Nat.le_of_ble_eq_true rfl | (simp only [jrm]; omega)) (by first | exact Nat.le_of_ble_eq_true rfl | (simp only [jrm]; omega)) d_CDiv_init_27 ?_
  refine j_dup d_CDiv_init_30 rfl ?_
  refine j_callI (k_Poly_init l Z (n + 7) (n + 8) _ (by omega) (jh_up_s _ _ _)) ⟨⟨Nat.le_of_ble_eq_true rfl, Nat.le_of_ble_eq_true rfl⟩, g_145, g_31, g_2, by decide +kernel⟩ g_30 rfl ⟨(by first | exact Nat.le_of_ble_eq_true rfl | (simp only [jrm]; omega)), (by first | exact Nat.le_of_ble_eq_true rfl | (simp only [jrm]; omega))⟩ (Nat.le_of_ble_eq_true rfl) d_CDiv_init_31 (fun r4 h4 n4 P4 => ?_)
  obtain ⟨rfl, rfl, A4, O4, F4⟩ := P4
  have E4_0 := (F4 a (by omega) (by omega)).trans ((jh_up_n _ _ (by omega)).trans (jh_up_s _ _ _))
  refine j_putF iw_CDiv t_CDiv t_CDiv_ok n_CDiv (ci := 4) (kf := 0) rfl (by decide) g_146 rfl rfl rfl (t_CDiv_ok 0 (by decide)) rfl rfl d_CDiv_init_34 E4_0 (Nat.le_of_ble_eq_true rfl) ?_
  refine j_aload_n d_CDiv_init_37 0 rfl ?_
  refine j_new iw_Poly t_Poly t_Poly_ok (ci := 0) (fs := fs_Poly) rfl g_144 g_28 g_2 df_Poly (by first | exact Nat.le_of_ble_eq_true rfl | (simp only [jrm]; omega)) (by first | exact Nat.le_of_ble_eq_true rfl | (simp only [jrm]; omega)) d_CDiv_init_38 ?_
  refine j_dup d_CDiv_init_41 rfl ?_
  refine j_callI (k_Poly_init l Z (n + 9) (n + 10) _ (by omega) (jh_up_s _ _ _)) ⟨⟨Nat.le_of_ble_eq_true rfl, Nat.le_of_ble_eq_true rfl⟩, g_145, g_31, g_2, by decide +kernel⟩ g_30 rfl ⟨(by first | exact Nat.le_of_ble_eq_true rfl | (simp only [jrm]; omega)), (by first | exact Nat.le_of_ble_eq_true rfl | (simp only [jrm]; omega))⟩ (Nat.le_of_ble_eq_true rfl) d_CDiv_init_42 (fun r5 h5 n5 P5 => ?_)
  obtain ⟨rfl, rfl, A5, O5, F5⟩ := P5
  have E5_0 := (F5 a (by omega) (by omega)).trans ((jh_up_n _ _ (by omega)).trans (jh_up_s _ _ _))
  refine j_putF iw_CDiv t_CDiv t_CDiv_ok n_CDiv (ci := 4) (kf := 3) rfl (by decide) g_152 rfl rfl rfl (t_CDiv_ok 3 (by decide)) rfl rfl d_CDiv_init_45 E5_0 (Nat.le_of_ble_eq_true rfl) ?_
  refine j_aload_n d_CDiv_init_48 0 rfl ?_
  refine j_new iw_Poly t_Poly t_Poly_ok (ci := 0) (fs := fs_Poly) rfl g_144 g_28 g_2 df_Poly (by first | exact Nat.le_of_ble_eq_true rfl | (simp only [jrm]; omega)) (by first | exact Nat.le_of_ble_eq_true rfl | (simp only [jrm]; omega)) d_CDiv_init_49 ?_
  refine j_dup d_CDiv_init_52 rfl ?_
  refine j_callI (k_Poly_init l Z (n + 11) (n + 12) _ (by omega) (jh_up_s _ _ _)) ⟨⟨Nat.le_of_ble_eq_true rfl, Nat.le_of_ble_eq_true rfl⟩, g_145, g_31, g_2, by decide +kernel⟩ g_30 rfl ⟨(by first | exact Nat.le_of_ble_eq_true rfl | (simp only [jrm]; omega)), (by first | exact Nat.le_of_ble_eq_true rfl | (simp only [jrm]; omega))⟩ (Nat.le_of_ble_eq_true rfl) d_CDiv_init_53 (fun r6 h6 n6 P6 => ?_)
  obtain ⟨rfl, rfl, A6, O6, F6⟩ := P6
  have E6_0 := (F6 a (by omega) (by omega)).trans ((jh_up_n _ _ (by omega)).trans (jh_up_s _ _ _))
  refine j_putF iw_CDiv t_CDiv t_CDiv_ok n_CDiv (ci := 4) (kf := 4) rfl (by decide) g_153 rfl rfl rfl (t_CDiv_ok 4 (by decide)) rfl rfl d_CDiv_init_56 E6_0 (Nat.le_of_ble_eq_true rfl) ?_
  refine j_aload_n d_CDiv_init_59 0 rfl ?_
  refine j_new iw_Poly t_Poly t_Poly_ok (ci := 0) (fs := fs_Poly) rfl g_144 g_28 g_2 df_Poly (by first | exact Nat.le_of_ble_eq_true rfl | (simp only [jrm]; omega)) (by first | exact Nat.le_of_ble_eq_true rfl | (simp only [jrm]; omega)) d_CDiv_init_60 ?_
  refine j_dup d_CDiv_init_63 rfl ?_
  refine j_callI (k_Poly_init l Z (n + 13) (n + 14) _ (by omega) (jh_up_s _ _ _)) ⟨⟨Nat.le_of_ble_eq_true rfl, Nat.le_of_ble_eq_true rfl⟩, g_145, g_31, g_2, by decide +kernel⟩ g_30 rfl ⟨(by first | exact Nat.le_of_ble_eq_true rfl | (simp only [jrm]; omega)), (by first | exact Nat.le_of_ble_eq_true rfl | (simp only [jrm]; omega))⟩ (Nat.le_of_ble_eq_true rfl) d_CDiv_init_64 (fun r7 h7 n7 P7 => ?_)
  obtain ⟨rfl, rfl, A7, O7, F7⟩ := P7
  have E7_0 := (F7 a (by omega) (by omega)).trans ((jh_up_n _ _ (by omega)).trans (jh_up_s _ _ _))
  refine j_putF iw_CDiv t_CDiv t_CDiv_ok n_CDiv (ci := 4) (kf := 5) rfl (by decide) g_154 rfl rfl rfl (t_CDiv_ok 5 (by decide)) rfl rfl d_CDiv_init_67 E7_0 (Nat.le_of_ble_eq_true rfl) ?_
  refine j_aload_n d_CDiv_init_70 0 rfl ?_
  refine j_new iw_Poly t_Poly t_Poly_ok (ci := 0) (fs := fs_Poly) rfl g_144 g_28 g_2 df_Poly (by first | exact Nat.le_of_ble_eq_true rfl | (simp only [jrm]; omega)) (by first | exact Nat.le_of_ble_eq_true rfl | (simp only [jrm]; omega)) d_CDiv_init_71 ?_
  refine j_dup d_CDiv_init_74 rfl ?_
  refine j_callI (k_Poly_init l Z (n + 15) (n + 16) _ (by omega) (jh_up_s _ _ _)) ⟨⟨Nat.le_of_ble_eq_true rfl, Nat.le_of_ble_eq_true rfl⟩, g_145, g_31, g_2, by decide +kernel⟩ g_30 rfl ⟨(by first | exact Nat.le_of_ble_eq_true rfl | (simp only [jrm]; omega)), (by first | exact Nat.le_of_ble_eq_true rfl | (simp only [jrm]; omega))⟩ (Nat.le_of_ble_eq_true rfl) d_CDiv_init_75 (fun r8 h8 n8 P8 => ?_)
  obtain ⟨rfl, rfl, A8, O8, F8⟩ := P8
  have E8_0 := (F8 a (by omega) (by omega)).trans ((jh_up_n _ _ (by omega)).trans (jh_up_s _ _ _))
  refine j_putF iw_CDiv t_CDiv t_CDiv_ok n_CDiv (ci := 4) (kf := 6) rfl (by decide) g_155 rfl rfl rfl (t_CDiv_ok 6 (by decide)) rfl rfl d_CDiv_init_78 E8_0 (Nat.le_of_ble_eq_true rfl) ?_
  refine j_vret rfl d_CDiv_init_81 ⟨rfl, rfl, ?_, fun x h1 h2 => ?_⟩
  · exact (jh_up_s _ _ _)
  · exact ((jh_up_n _ _ (by omega)).trans ((F8 x (by omega) (by omega)).trans ((jh_up_n _ _ (by omega)).trans ((jh_up_n _ _ (by omega)).trans ((F7 x (by omega) (by omega)).trans ((jh_up_n _ _ (by omega)).trans ((jh_up_n _ _ (by omega)).trans ((F6 x (by omega) (by omega)).trans ((jh_up_n _ _ (by omega)).trans ((jh_up_n _ _ (by omega)).trans ((F5 x (by omega) (by omega)).trans ((jh_up_n _ _ (by omega)).trans ((jh_up_n _ _ (by omega)).trans ((F4 x (by omega) (by omega)).trans ((jh_up_n _ _ (by omega)).trans ((jh_up_n _ _ (by omega)).trans ((F3 x (by omega) (by omega)).trans ((jh_up_n _ _ (by omega)).trans ((jh_up_n _ _ (by omega)).trans ((F2 x (by omega) (by omega)).trans (jh_up_n _ _ (by omega))))))))))))))))))))))
set_option maxHeartbeats 4000000 in
set_option maxRecDepth 100000 in
theorem k_FList_loop (l : Launch) {b : Nat} {D : va_G} {Y : Nat → ClassId} {s0 : State} (Z : jS0 b D Y s0) {p : Program} {e : Env} {s : State} {m : MethodId} {below : List Frame} {meth : Method} {c : Code} {Q : State → Prop} {mc ms : Nat} (a q0 n k0 sl0 : Nat) (fs : List Value) (hb : jH) (ha : a < n) (hq0 : q0 < n) (haq0 : a ≠ q0) (hf0 : fs[0]? = some (.ref q0)) (hmc : k0 + 24 ≤ mc) (hms : sl0 + 180 ≤ ms)
    (hx : ∀ (h2 : jH) (f0 : Nat → Option Nat), h2 a = some (.inr (1, fs)) → h2 q0 = some (.inl (Y 3, 12, .inr (.inr (.inr (.inr f0))))) → (∀ x, x < n → x ≠ q0 → h2 x = hb x) → jW b D Y s0 p l e (jrm 2 mc ms) s m [Value.ref a].toArray below meth c y_FList_init.cls c_FList_init 2 none y_FList_init.name Q 40 [(1, .int 12), (0, .ref a)] [] h2 (n + 24) (k0 + 24) (sl0 + 180)) :
    ∀ (j i : Nat), i + j = 12 → ∀ (h : jH) (f0 : Nat → Option Nat), h a = some (.inr (1, fs)) → h q0 = some (.inl (Y 3, 12, .inr (.inr (.inr (.inr f0))))) → (∀ x, x < n → x ≠ q0 → h x = hb x) → jW b D Y s0 p l e (jrm 2 mc ms) s m [Value.ref a].toArray below meth c y_FList_init.cls c_FList_init 2 none y_FList_init.name Q 15 [(1, .int (nI i)), (0, .ref a)] [] h (n + 2 * i) (k0 + 2 * i) (sl0 + 15 * i) := by
  intro j
  induction j with
  | zero =>
    intro i hi h f0 H0 H1 HF
    obtain rfl : i = 12 := by omega
    refine j_iload_n d_FList_init_15 0 rfl ?_
    refine j_bipush d_FList_init_16 (v := 12) (by decide) ?_
    refine j_icmp_ge_t (tgt := 40) d_FList_init_18 (by decide) (by decide) ?_
    exact hx h f0 H0 H1 HF
  | succ j ih =>
    intro i hi h f0 H0 H1 HF
    have hi12 : i < 12 := by omega
    refine j_iload_n d_FList_init_15 0 rfl ?_
    refine j_bipush d_FList_init_16 (v := 12) (by decide) ?_
    refine j_icmp_ge_f d_FList_init_18 (tgt := 40) (by decide) (nI_ge (b := 12) hi12 (by decide)) ?_
    refine j_aload_n d_FList_init_21 1 rfl ?_
    refine j_get iw_FList (ci := 1) (kf := 0) rfl (by decide) g_70 d_FList_init_22 H0 hf0 ?_
    refine j_iload_n d_FList_init_25 0 rfl ?_
    refine j_new iw_Poly t_Poly t_Poly_ok (ci := 0) (fs := fs_Poly) rfl g_67 g_28 g_2 df_Poly (by first | exact Nat.le_of_ble_eq_true rfl | (simp only [jrm]; omega)) (by first | exact Nat.le_of_ble_eq_true rfl | (simp only [jrm]; omega)) d_FList_init_26 ?_
    refine j_dup d_FList_init_29 rfl ?_
    refine j_callI (k_Poly_init l Z (n + 2 * i) ((n + 2 * i) + 1) _ (by omega) (jh_up_s _ _ _)) ⟨⟨Nat.le_of_ble_eq_true rfl, Nat.le_of_ble_eq_true rfl⟩, g_69, g_31, g_2, by decide +kernel⟩ g_30 rfl ⟨(by first | exact Nat.le_of_ble_eq_true rfl | (simp only [jrm]; omega)), (by first | exact Nat.le_of_ble_eq_true rfl | (simp only [jrm]; omega))⟩ (Nat.le_of_ble_eq_true rfl) d_FList_init_30 (fun r9 h9 n9 P9 => ?_)
    obtain ⟨rfl, rfl, A9, O9, F9⟩ := P9
    have E9_0 := (F9 a (by omega) (by omega)).trans ((jh_up_n _ _ (by omega)).trans H0)
    have E9_1 := (F9 q0 (by omega) (by omega)).trans ((jh_up_n _ _ (by omega)).trans H1)
    refine j_aast d_FList_init_33 E9_1 (nI_in hi12 (by omega)) O9 rfl ?_
    refine j_iinc d_FList_init_34 0 rfl (v := nI (i + 1)) (nI_1 i) (Nat.le_of_ble_eq_true rfl) rfl ?_
    refine j_goto (tgt := 15) d_FList_init_37 (by decide) ?_
    refine j_nks (n + 2 * (i + 1)) (k0 + 2 * (i + 1)) (sl0 + 15 * (i + 1)) (by omega) (by omega) (by omega) ?_
    exact ih (i + 1) (by omega) _ _ ((jh_up_n _ _ (by omega)).trans E9_0) (jh_up_s _ _ _) (fun x h0x h1x => ((jh_up_n _ _ (by omega)).trans ((F9 x (by omega) (by omega)).trans (jh_up_n _ _ (by omega)))).trans (HF x h0x h1x))
set_option maxHeartbeats 4000000 in
set_option maxRecDepth 100000 in
theorem k_FList_init (l : Launch) {b : Nat} {D : va_G} {Y : Nat → ClassId} {s0 : State} (Z : jS0 b D Y s0) (a n : Nat) (h : jH) (ha : a < n) (H0 : h a = some (.inr (1, fs_FList))) : jMet l D s0 y_FList_init c_FList_init 2 none 2 [.ref a] h n 26 204 (fun r h2 n2 => r = none ∧ n2 = n + 26 ∧ h2 a = some (.inr (1, [.ref n, .ref (n + 25), .int 0])) ∧ ∀ x, x < n → x ≠ a → h2 x = h x) := by
  refine jMet_of Z (by decide) (Nat.le_of_ble_eq_true rfl) ?_
  intro p e s m below meth c
  refine j_aload_n d_FList_init_0 0 rfl ?_
  refine j_objInit g_66 g_25 g_26 (Nat.le_of_ble_eq_true rfl) (Nat.le_of_ble_eq_true rfl) d_FList_init_1 ?_
  refine j_aload_n d_FList_init_4 0 rfl ?_
  refine j_bipush d_FList_init_5 (v := 12) (by decide) ?_
  refine j_newP (N := 12) g_67 (List.mem_of_getElem? (i := 133) (by decide +kernel)) (by decide) rfl (by decide) (by first | exact Nat.le_of_ble_eq_true rfl | (simp only [jrm]; omega)) (by first | exact Nat.le_of_ble_eq_true rfl | (simp only [jrm]; omega)) d_FList_init_7 ?_
  refine j_putF iw_FList t_FList t_FList_ok n_FList (ci := 1) (kf := 0) rfl (by decide) g_70 rfl rfl rfl (t_FList_ok 0 (by decide)) rfl rfl d_FList_init_10 ((jh_up_n _ _ (by omega)).trans H0) (Nat.le_of_ble_eq_true rfl) ?_
  refine j_iconst d_FList_init_13 (v := 0) (by decide) ?_
  refine j_istore_n d_FList_init_14 (Nat.le_of_ble_eq_true rfl) rfl ?_
  refine j_nks ((n + 1) + 2 * 0) (1 + 2 * 0) (12 + 15 * 0) (by omega) (by omega) (by omega) ?_
  refine k_FList_loop l Z a n (n + 1) 1 12 [.ref n, .null, .int 0] _ (by omega) (by omega) (by omega) rfl (Nat.le_of_ble_eq_true rfl) (Nat.le_of_ble_eq_true rfl) (fun hy fy_0 Ay By_0 Gy => ?_) 12 0 rfl _ _ (jh_up_s _ _ _) ((jh_up_n _ _ (by omega)).trans (jh_up_s _ _ _)) (fun x _ _ => rfl)
  refine j_aload_n d_FList_init_40 1 rfl ?_
  refine j_bipush d_FList_init_41 (v := 12) (by decide) ?_
  refine j_newI (N := 12) g_55 (by decide) rfl (by decide) (by first | exact Nat.le_of_ble_eq_true rfl | (simp only [jrm]; omega)) (by first | exact Nat.le_of_ble_eq_true rfl | (simp only [jrm]; omega)) d_FList_init_43 ?_
  refine j_putF iw_FList t_FList t_FList_ok n_FList (ci := 1) (kf := 1) rfl (by decide) g_73 rfl rfl rfl (t_FList_ok 1 (by decide)) rfl rfl d_FList_init_45 ((jh_up_n _ _ (by omega)).trans Ay) (Nat.le_of_ble_eq_true rfl) ?_
  refine j_aload_n d_FList_init_48 1 rfl ?_
  refine j_iconst d_FList_init_49 (v := 0) (by decide) ?_
  refine j_put iw_FList t_FList t_FList_ok n_FList (ci := 1) (kf := 2) rfl (by decide) g_76 rfl (t_FList_ok 2 (by decide)) rfl rfl d_FList_init_50 (jh_up_s _ _ _) (Nat.le_of_ble_eq_true rfl) ?_
  refine j_vret rfl d_FList_init_53 ⟨rfl, rfl, ?_, fun x h1 h2 => ?_⟩
  · exact (jh_up_s _ _ _)
  · exact ((jh_up_n _ _ (by omega)).trans ((jh_up_n _ _ (by omega)).trans ((jh_up_n _ _ (by omega)).trans ((Gy x (by omega) (by omega)).trans ((jh_up_n _ _ (by omega)).trans (jh_up_n _ _ (by omega)))))))
set_option maxHeartbeats 4000000 in
set_option maxRecDepth 100000 in
theorem k_MSpl_loop (l : Launch) {b : Nat} {D : va_G} {Y : Nat → ClassId} {s0 : State} (Z : jS0 b D Y s0) {p : Program} {e : Env} {s : State} {m : MethodId} {below : List Frame} {meth : Method} {c : Code} {Q : State → Prop} {mc ms : Nat} (a q0 n k0 sl0 : Nat) (fs : List Value) (hb : jH) (ha : a < n) (hq0 : q0 < n) (haq0 : a ≠ q0) (hf0 : fs[1]? = some (.ref q0)) (hmc : k0 + 24 ≤ mc) (hms : sl0 + 180 ≤ ms)
    (hx : ∀ (h2 : jH) (f0 : Nat → Option Nat), h2 a = some (.inr (5, fs)) → h2 q0 = some (.inl (Y 3, 12, .inr (.inr (.inr (.inr f0))))) → (∀ x, x < n → x ≠ q0 → h2 x = hb x) → jW b D Y s0 p l e (jrm 3 mc ms) s m [Value.ref a].toArray below meth c y_MSpl_init.cls c_MSpl_init 2 none y_MSpl_init.name Q 51 [(1, .int 12), (0, .ref a)] [] h2 (n + 24) (k0 + 24) (sl0 + 180)) :
    ∀ (j i : Nat), i + j = 12 → ∀ (h : jH) (f0 : Nat → Option Nat), h a = some (.inr (5, fs)) → h q0 = some (.inl (Y 3, 12, .inr (.inr (.inr (.inr f0))))) → (∀ x, x < n → x ≠ q0 → h x = hb x) → jW b D Y s0 p l e (jrm 3 mc ms) s m [Value.ref a].toArray below meth c y_MSpl_init.cls c_MSpl_init 2 none y_MSpl_init.name Q 26 [(1, .int (nI i)), (0, .ref a)] [] h (n + 2 * i) (k0 + 2 * i) (sl0 + 15 * i) := by
  intro j
  induction j with
  | zero =>
    intro i hi h f0 H0 H1 HF
    obtain rfl : i = 12 := by omega
    refine j_iload_n d_MSpl_init_26 0 rfl ?_
    refine j_bipush d_MSpl_init_27 (v := 12) (by decide) ?_
    refine j_icmp_ge_t (tgt := 51) d_MSpl_init_29 (by decide) (by decide) ?_
    exact hx h f0 H0 H1 HF
  | succ j ih =>
    intro i hi h f0 H0 H1 HF
    have hi12 : i < 12 := by omega
    refine j_iload_n d_MSpl_init_26 0 rfl ?_
    refine j_bipush d_MSpl_init_27 (v := 12) (by decide) ?_
    refine j_icmp_ge_f d_MSpl_init_29 (tgt := 51) (by decide) (nI_ge (b := 12) hi12 (by decide)) ?_
    refine j_aload_n d_MSpl_init_32 1 rfl ?_
    refine j_get iw_MSpl (ci := 5) (kf := 1) rfl (by decide) g_191 d_MSpl_init_33 H0 hf0 ?_
    refine j_iload_n d_MSpl_init_36 0 rfl ?_
    refine j_new iw_Poly t_Poly t_Poly_ok (ci := 0) (fs := fs_Poly) rfl g_185 g_28 g_2 df_Poly (by first | exact Nat.le_of_ble_eq_true rfl | (simp only [jrm]; omega)) (by first | exact Nat.le_of_ble_eq_true rfl | (simp only [jrm]; omega)) d_MSpl_init_37 ?_
    refine j_dup d_MSpl_init_40 rfl ?_
    refine j_callI (k_Poly_init l Z (n + 2 * i) ((n + 2 * i) + 1) _ (by omega) (jh_up_s _ _ _)) ⟨⟨Nat.le_of_ble_eq_true rfl, Nat.le_of_ble_eq_true rfl⟩, g_186, g_31, g_2, by decide +kernel⟩ g_30 rfl ⟨(by first | exact Nat.le_of_ble_eq_true rfl | (simp only [jrm]; omega)), (by first | exact Nat.le_of_ble_eq_true rfl | (simp only [jrm]; omega))⟩ (Nat.le_of_ble_eq_true rfl) d_MSpl_init_41 (fun r10 h10 n10 P10 => ?_)
    obtain ⟨rfl, rfl, A10, O10, F10⟩ := P10
    have E10_0 := (F10 a (by omega) (by omega)).trans ((jh_up_n _ _ (by omega)).trans H0)
    have E10_1 := (F10 q0 (by omega) (by omega)).trans ((jh_up_n _ _ (by omega)).trans H1)
    refine j_aast d_MSpl_init_44 E10_1 (nI_in hi12 (by omega)) O10 rfl ?_
    refine j_iinc d_MSpl_init_45 0 rfl (v := nI (i + 1)) (nI_1 i) (Nat.le_of_ble_eq_true rfl) rfl ?_
    refine j_goto (tgt := 26) d_MSpl_init_48 (by decide) ?_
    refine j_nks (n + 2 * (i + 1)) (k0 + 2 * (i + 1)) (sl0 + 15 * (i + 1)) (by omega) (by omega) (by omega) ?_
    exact ih (i + 1) (by omega) _ _ ((jh_up_n _ _ (by omega)).trans E10_0) (jh_up_s _ _ _) (fun x h0x h1x => ((jh_up_n _ _ (by omega)).trans ((F10 x (by omega) (by omega)).trans (jh_up_n _ _ (by omega)))).trans (HF x h0x h1x))
set_option maxHeartbeats 4000000 in
set_option maxRecDepth 100000 in
theorem k_MSpl_init (l : Launch) {b : Nat} {D : va_G} {Y : Nat → ClassId} {s0 : State} (Z : jS0 b D Y s0) (a n : Nat) (h : jH) (ha : a < n) (H0 : h a = some (.inr (5, fs_MSpl))) : jMet l D s0 y_MSpl_init c_MSpl_init 2 none 3 [.ref a] h n 50 440 (fun r h2 n2 => r = none ∧ n2 = n + 50 ∧ h2 a = some (.inr (5, [.ref n, .ref (n + 3), .ref (n + 28), .int 0, .int 0, .int 0, .ref (n + 30), .ref (n + 43), .ref (n + 44), .ref (n + 46), .ref (n + 48)])) ∧ ∀ x, x < n → x ≠ a → h2 x = h x) := by
  refine jMet_of Z (by decide) (Nat.le_of_ble_eq_true rfl) ?_
  intro p e s m below meth c
  refine j_aload_n d_MSpl_init_0 0 rfl ?_
  refine j_objInit g_182 g_25 g_26 (Nat.le_of_ble_eq_true rfl) (Nat.le_of_ble_eq_true rfl) d_MSpl_init_1 ?_
  refine j_aload_n d_MSpl_init_4 0 rfl ?_
  refine j_new iw_Resi t_Resi t_Resi_ok (ci := 3) (fs := fs_Resi) rfl g_183 g_117 g_7 df_Resi (by first | exact Nat.le_of_ble_eq_true rfl | (simp only [jrm]; omega)) (by first | exact Nat.le_of_ble_eq_true rfl | (simp only [jrm]; omega)) d_MSpl_init_5 ?_
  refine j_dup d_MSpl_init_8 rfl ?_
  refine j_callI (k_Resi_init l Z n (n + 1) _ (by omega) (jh_up_s _ _ _)) ⟨⟨Nat.le_of_ble_eq_true rfl, Nat.le_of_ble_eq_true rfl⟩, g_184, g_120, g_7, by decide +kernel⟩ g_119 rfl ⟨(by first | exact Nat.le_of_ble_eq_true rfl | (simp only [jrm]; omega)), (by first | exact Nat.le_of_ble_eq_true rfl | (simp only [jrm]; omega))⟩ (Nat.le_of_ble_eq_true rfl) d_MSpl_init_9 (fun r11 h11 n11 P11 => ?_)
  obtain ⟨rfl, rfl, O11, F11⟩ := P11
  have E11_0 := (F11 a (by omega) (by omega)).trans ((jh_up_n _ _ (by omega)).trans H0)
  refine j_putF iw_MSpl t_MSpl t_MSpl_ok n_MSpl (ci := 5) (kf := 0) rfl (by decide) g_189 rfl rfl rfl (t_MSpl_ok 0 (by decide)) rfl rfl d_MSpl_init_12 E11_0 (Nat.le_of_ble_eq_true rfl) ?_
  refine j_aload_n d_MSpl_init_15 0 rfl ?_
  refine j_bipush d_MSpl_init_16 (v := 12) (by decide) ?_
  refine j_newP (N := 12) g_185 (List.mem_of_getElem? (i := 133) (by decide +kernel)) (by decide) rfl (by decide) (by first | exact Nat.le_of_ble_eq_true rfl | (simp only [jrm]; omega)) (by first | exact Nat.le_of_ble_eq_true rfl | (simp only [jrm]; omega)) d_MSpl_init_18 ?_
  refine j_putF iw_MSpl t_MSpl t_MSpl_ok n_MSpl (ci := 5) (kf := 1) rfl (by decide) g_191 rfl rfl rfl (t_MSpl_ok 1 (by decide)) rfl rfl d_MSpl_init_21 ((jh_up_n _ _ (by omega)).trans (jh_up_s _ _ _)) (Nat.le_of_ble_eq_true rfl) ?_
  refine j_iconst d_MSpl_init_24 (v := 0) (by decide) ?_
  refine j_istore_n d_MSpl_init_25 (Nat.le_of_ble_eq_true rfl) rfl ?_
  refine j_nks ((n + 4) + 2 * 0) (4 + 2 * 0) (32 + 15 * 0) (by omega) (by omega) (by omega) ?_
  refine k_MSpl_loop l Z a (n + 3) (n + 4) 4 32 [.ref n, .ref (n + 3), .null, .int 0, .int 0, .int 0, .null, .null, .null, .null, .null] _ (by omega) (by omega) (by omega) rfl (Nat.le_of_ble_eq_true rfl) (Nat.le_of_ble_eq_true rfl) (fun hy fy_0 Ay By_0 Gy => ?_) 12 0 rfl _ _ (jh_up_s _ _ _) ((jh_up_n _ _ (by omega)).trans (jh_up_s _ _ _)) (fun x _ _ => rfl)
  refine j_aload_n d_MSpl_init_51 1 rfl ?_
  refine j_new iw_Poly t_Poly t_Poly_ok (ci := 0) (fs := fs_Poly) rfl g_185 g_28 g_2 df_Poly (by first | exact Nat.le_of_ble_eq_true rfl | (simp only [jrm]; omega)) (by first | exact Nat.le_of_ble_eq_true rfl | (simp only [jrm]; omega)) d_MSpl_init_52 ?_
  refine j_dup d_MSpl_init_55 rfl ?_
  refine j_callI (k_Poly_init l Z (n + 28) (n + 29) _ (by omega) (jh_up_s _ _ _)) ⟨⟨Nat.le_of_ble_eq_true rfl, Nat.le_of_ble_eq_true rfl⟩, g_186, g_31, g_2, by decide +kernel⟩ g_30 rfl ⟨(by first | exact Nat.le_of_ble_eq_true rfl | (simp only [jrm]; omega)), (by first | exact Nat.le_of_ble_eq_true rfl | (simp only [jrm]; omega))⟩ (Nat.le_of_ble_eq_true rfl) d_MSpl_init_56 (fun r12 h12 n12 P12 => ?_)
  obtain ⟨rfl, rfl, A12, O12, F12⟩ := P12
  have E12_0 := (F12 a (by omega) (by omega)).trans ((jh_up_n _ _ (by omega)).trans Ay)
  refine j_putF iw_MSpl t_MSpl t_MSpl_ok n_MSpl (ci := 5) (kf := 2) rfl (by decide) g_194 rfl rfl rfl (t_MSpl_ok 2 (by decide)) rfl rfl d_MSpl_init_59 E12_0 (Nat.le_of_ble_eq_true rfl) ?_
  refine j_aload_n d_MSpl_init_62 1 rfl ?_
  refine j_bipush d_MSpl_init_63 (v := 12) (by decide) ?_
  refine j_bipush d_MSpl_init_65 (v := 12) (by decide) ?_
  refine j_mna (N := 12) (K := 12) g_187 (List.mem_of_getElem? (i := 253) (by decide +kernel)) g_56 (by decide) (by decide) rfl rfl (by decide) (by decide) (by first | exact Nat.le_of_ble_eq_true rfl | (simp only [jrm]; omega)) (by first | exact Nat.le_of_ble_eq_true rfl | (simp only [jrm]; omega)) d_MSpl_init_67 ?_
  refine j_putF iw_MSpl t_MSpl t_MSpl_ok n_MSpl (ci := 5) (kf := 6) rfl (by decide) g_202 rfl rfl rfl (t_MSpl_ok 6 (by decide)) rfl rfl d_MSpl_init_71 (jh_up_s _ _ _) (Nat.le_of_ble_eq_true rfl) ?_
  refine j_aload_n d_MSpl_init_74 1 rfl ?_
  refine j_bipush d_MSpl_init_75 (v := 12) (by decide) ?_
  refine j_newI (N := 12) g_55 (by decide) rfl (by decide) (by first | exact Nat.le_of_ble_eq_true rfl | (simp only [jrm]; omega)) (by first | exact Nat.le_of_ble_eq_true rfl | (simp only [jrm]; omega)) d_MSpl_init_77 ?_
  refine j_putF iw_MSpl t_MSpl t_MSpl_ok n_MSpl (ci := 5) (kf := 7) rfl (by decide) g_203 rfl rfl rfl (t_MSpl_ok 7 (by decide)) rfl rfl d_MSpl_init_79 ((jh_up_n _ _ (by omega)).trans (jh_up_s _ _ _)) (Nat.le_of_ble_eq_true rfl) ?_
  refine j_aload_n d_MSpl_init_82 1 rfl ?_
  refine j_new iw_Poly t_Poly t_Poly_ok (ci := 0) (fs := fs_Poly) rfl g_185 g_28 g_2 df_Poly (by first | exact Nat.le_of_ble_eq_true rfl | (simp only [jrm]; omega)) (by first | exact Nat.le_of_ble_eq_true rfl | (simp only [jrm]; omega)) d_MSpl_init_83 ?_
  refine j_dup d_MSpl_init_86 rfl ?_
  refine j_callI (k_Poly_init l Z (n + 44) (n + 45) _ (by omega) (jh_up_s _ _ _)) ⟨⟨Nat.le_of_ble_eq_true rfl, Nat.le_of_ble_eq_true rfl⟩, g_186, g_31, g_2, by decide +kernel⟩ g_30 rfl ⟨(by first | exact Nat.le_of_ble_eq_true rfl | (simp only [jrm]; omega)), (by first | exact Nat.le_of_ble_eq_true rfl | (simp only [jrm]; omega))⟩ (Nat.le_of_ble_eq_true rfl) d_MSpl_init_87 (fun r13 h13 n13 P13 => ?_)
  obtain ⟨rfl, rfl, A13, O13, F13⟩ := P13
  have E13_0 := (F13 a (by omega) (by omega)).trans ((jh_up_n _ _ (by omega)).trans (jh_up_s _ _ _))
  refine j_putF iw_MSpl t_MSpl t_MSpl_ok n_MSpl (ci := 5) (kf := 8) rfl (by decide) g_204 rfl rfl rfl (t_MSpl_ok 8 (by decide)) rfl rfl d_MSpl_init_90 E13_0 (Nat.le_of_ble_eq_true rfl) ?_
  refine j_aload_n d_MSpl_init_93 1 rfl ?_
  refine j_new iw_Poly t_Poly t_Poly_ok (ci := 0) (fs := fs_Poly) rfl g_185 g_28 g_2 df_Poly (by first | exact Nat.le_of_ble_eq_true rfl | (simp only [jrm]; omega)) (by first | exact Nat.le_of_ble_eq_true rfl | (simp only [jrm]; omega)) d_MSpl_init_94 ?_
  refine j_dup d_MSpl_init_97 rfl ?_
  refine j_callI (k_Poly_init l Z (n + 46) (n + 47) _ (by omega) (jh_up_s _ _ _)) ⟨⟨Nat.le_of_ble_eq_true rfl, Nat.le_of_ble_eq_true rfl⟩, g_186, g_31, g_2, by decide +kernel⟩ g_30 rfl ⟨(by first | exact Nat.le_of_ble_eq_true rfl | (simp only [jrm]; omega)), (by first | exact Nat.le_of_ble_eq_true rfl | (simp only [jrm]; omega))⟩ (Nat.le_of_ble_eq_true rfl) d_MSpl_init_98 (fun r14 h14 n14 P14 => ?_)
  obtain ⟨rfl, rfl, A14, O14, F14⟩ := P14
  have E14_0 := (F14 a (by omega) (by omega)).trans ((jh_up_n _ _ (by omega)).trans (jh_up_s _ _ _))
  refine j_putF iw_MSpl t_MSpl t_MSpl_ok n_MSpl (ci := 5) (kf := 9) rfl (by decide) g_205 rfl rfl rfl (t_MSpl_ok 9 (by decide)) rfl rfl d_MSpl_init_101 E14_0 (Nat.le_of_ble_eq_true rfl) ?_
  refine j_aload_n d_MSpl_init_104 1 rfl ?_
  refine j_new iw_Poly t_Poly t_Poly_ok (ci := 0) (fs := fs_Poly) rfl g_185 g_28 g_2 df_Poly (by first | exact Nat.le_of_ble_eq_true rfl | (simp only [jrm]; omega)) (by first | exact Nat.le_of_ble_eq_true rfl | (simp only [jrm]; omega)) d_MSpl_init_105 ?_
  refine j_dup d_MSpl_init_108 rfl ?_
  refine j_callI (k_Poly_init l Z (n + 48) (n + 49) _ (by omega) (jh_up_s _ _ _)) ⟨⟨Nat.le_of_ble_eq_true rfl, Nat.le_of_ble_eq_true rfl⟩, g_186, g_31, g_2, by decide +kernel⟩ g_30 rfl ⟨(by first | exact Nat.le_of_ble_eq_true rfl | (simp only [jrm]; omega)), (by first | exact Nat.le_of_ble_eq_true rfl | (simp only [jrm]; omega))⟩ (Nat.le_of_ble_eq_true rfl) d_MSpl_init_109 (fun r15 h15 n15 P15 => ?_)
  obtain ⟨rfl, rfl, A15, O15, F15⟩ := P15
  have E15_0 := (F15 a (by omega) (by omega)).trans ((jh_up_n _ _ (by omega)).trans (jh_up_s _ _ _))
  refine j_putF iw_MSpl t_MSpl t_MSpl_ok n_MSpl (ci := 5) (kf := 10) rfl (by decide) g_206 rfl rfl rfl (t_MSpl_ok 10 (by decide)) rfl rfl d_MSpl_init_112 E15_0 (Nat.le_of_ble_eq_true rfl) ?_
  refine j_vret rfl d_MSpl_init_115 ⟨rfl, rfl, ?_, fun x h1 h2 => ?_⟩
  · exact (jh_up_s _ _ _)
  · exact ((jh_up_n _ _ (by omega)).trans ((F15 x (by omega) (by omega)).trans ((jh_up_n _ _ (by omega)).trans ((jh_up_n _ _ (by omega)).trans ((F14 x (by omega) (by omega)).trans ((jh_up_n _ _ (by omega)).trans ((jh_up_n _ _ (by omega)).trans ((F13 x (by omega) (by omega)).trans ((jh_up_n _ _ (by omega)).trans ((jh_up_n _ _ (by omega)).trans ((jh_up_n _ _ (by omega)).trans ((jh_up_n _ _ (by omega)).trans ((jh_up_n _ _ (by omega)).trans ((F12 x (by omega) (by omega)).trans ((jh_up_n _ _ (by omega)).trans ((Gy x (by omega) (by omega)).trans ((jh_up_n _ _ (by omega)).trans ((jh_up_n _ _ (by omega)).trans ((jh_up_n _ _ (by omega)).trans ((F11 x (by omega) (by omega)).trans (jh_up_n _ _ (by omega))))))))))))))))))))))
set_option maxHeartbeats 4000000 in
set_option maxRecDepth 100000 in
theorem k_Lift_loop (l : Launch) {b : Nat} {D : va_G} {Y : Nat → ClassId} {s0 : State} (Z : jS0 b D Y s0) {p : Program} {e : Env} {s : State} {m : MethodId} {below : List Frame} {meth : Method} {c : Code} {Q : State → Prop} {mc ms : Nat} (a q0 q1 n k0 sl0 : Nat) (fs : List Value) (hb : jH) (ha : a < n) (hq0 : q0 < n) (haq0 : a ≠ q0) (hf0 : fs[2]? = some (.ref q0)) (hq1 : q1 < n) (haq1 : a ≠ q1) (hf1 : fs[3]? = some (.ref q1)) (hqq : q0 ≠ q1) (hmc : k0 + 48 ≤ mc) (hms : sl0 + 360 ≤ ms)
    (hx : ∀ (h2 : jH) (f0 : Nat → Option Nat) (f1 : Nat → Option Nat), h2 a = some (.inr (6, fs)) → h2 q0 = some (.inl (Y 3, 12, .inr (.inr (.inr (.inr f0))))) → h2 q1 = some (.inl (Y 3, 12, .inr (.inr (.inr (.inr f1))))) → (∀ x, x < n → x ≠ q0 → x ≠ q1 → h2 x = hb x) → jW b D Y s0 p l e (jrm 4 mc ms) s m [Value.ref a].toArray below meth c y_Lift_init.cls c_Lift_init 2 none y_Lift_init.name Q 84 [(1, .int 12), (0, .ref a)] [] h2 (n + 48) (k0 + 48) (sl0 + 360)) :
    ∀ (j i : Nat), i + j = 12 → ∀ (h : jH) (f0 : Nat → Option Nat) (f1 : Nat → Option Nat), h a = some (.inr (6, fs)) → h q0 = some (.inl (Y 3, 12, .inr (.inr (.inr (.inr f0))))) → h q1 = some (.inl (Y 3, 12, .inr (.inr (.inr (.inr f1))))) → (∀ x, x < n → x ≠ q0 → x ≠ q1 → h x = hb x) → jW b D Y s0 p l e (jrm 4 mc ms) s m [Value.ref a].toArray below meth c y_Lift_init.cls c_Lift_init 2 none y_Lift_init.name Q 46 [(1, .int (nI i)), (0, .ref a)] [] h (n + 4 * i) (k0 + 4 * i) (sl0 + 30 * i) := by
  intro j
  induction j with
  | zero =>
    intro i hi h f0 f1 H0 H1 H2 HF
    obtain rfl : i = 12 := by omega
    refine j_iload_n d_Lift_init_46 0 rfl ?_
    refine j_bipush d_Lift_init_47 (v := 12) (by decide) ?_
    refine j_icmp_ge_t (tgt := 84) d_Lift_init_49 (by decide) (by decide) ?_
    exact hx h f0 f1 H0 H1 H2 HF
  | succ j ih =>
    intro i hi h f0 f1 H0 H1 H2 HF
    have hi12 : i < 12 := by omega
    refine j_iload_n d_Lift_init_46 0 rfl ?_
    refine j_bipush d_Lift_init_47 (v := 12) (by decide) ?_
    refine j_icmp_ge_f d_Lift_init_49 (tgt := 84) (by decide) (nI_ge (b := 12) hi12 (by decide)) ?_
    refine j_aload_n d_Lift_init_52 1 rfl ?_
    refine j_get iw_Lift (ci := 6) (kf := 2) rfl (by decide) g_238 d_Lift_init_53 H0 hf0 ?_
    refine j_iload_n d_Lift_init_56 0 rfl ?_
    refine j_new iw_Poly t_Poly t_Poly_ok (ci := 0) (fs := fs_Poly) rfl g_232 g_28 g_2 df_Poly (by first | exact Nat.le_of_ble_eq_true rfl | (simp only [jrm]; omega)) (by first | exact Nat.le_of_ble_eq_true rfl | (simp only [jrm]; omega)) d_Lift_init_57 ?_
    refine j_dup d_Lift_init_60 rfl ?_
    refine j_callI (k_Poly_init l Z (n + 4 * i) ((n + 4 * i) + 1) _ (by omega) (jh_up_s _ _ _)) ⟨⟨Nat.le_of_ble_eq_true rfl, Nat.le_of_ble_eq_true rfl⟩, g_233, g_31, g_2, by decide +kernel⟩ g_30 rfl ⟨(by first | exact Nat.le_of_ble_eq_true rfl | (simp only [jrm]; omega)), (by first | exact Nat.le_of_ble_eq_true rfl | (simp only [jrm]; omega))⟩ (Nat.le_of_ble_eq_true rfl) d_Lift_init_61 (fun r16 h16 n16 P16 => ?_)
    obtain ⟨rfl, rfl, A16, O16, F16⟩ := P16
    have E16_0 := (F16 a (by omega) (by omega)).trans ((jh_up_n _ _ (by omega)).trans H0)
    have E16_1 := (F16 q0 (by omega) (by omega)).trans ((jh_up_n _ _ (by omega)).trans H1)
    have E16_2 := (F16 q1 (by omega) (by omega)).trans ((jh_up_n _ _ (by omega)).trans H2)
    refine j_aast d_Lift_init_64 E16_1 (nI_in hi12 (by omega)) O16 rfl ?_
    refine j_aload_n d_Lift_init_65 1 rfl ?_
    refine j_get iw_Lift (ci := 6) (kf := 3) rfl (by decide) g_240 d_Lift_init_66 ((jh_up_n _ _ (by omega)).trans E16_0) hf1 ?_
    refine j_iload_n d_Lift_init_69 0 rfl ?_
    refine j_new iw_Poly t_Poly t_Poly_ok (ci := 0) (fs := fs_Poly) rfl g_232 g_28 g_2 df_Poly (by first | exact Nat.le_of_ble_eq_true rfl | (simp only [jrm]; omega)) (by first | exact Nat.le_of_ble_eq_true rfl | (simp only [jrm]; omega)) d_Lift_init_70 ?_
    refine j_dup d_Lift_init_73 rfl ?_
    refine j_callI (k_Poly_init l Z ((n + 4 * i) + 2) ((n + 4 * i) + 3) _ (by omega) (jh_up_s _ _ _)) ⟨⟨Nat.le_of_ble_eq_true rfl, Nat.le_of_ble_eq_true rfl⟩, g_233, g_31, g_2, by decide +kernel⟩ g_30 rfl ⟨(by first | exact Nat.le_of_ble_eq_true rfl | (simp only [jrm]; omega)), (by first | exact Nat.le_of_ble_eq_true rfl | (simp only [jrm]; omega))⟩ (Nat.le_of_ble_eq_true rfl) d_Lift_init_74 (fun r17 h17 n17 P17 => ?_)
    obtain ⟨rfl, rfl, A17, O17, F17⟩ := P17
    have E17_0 := (F17 a (by omega) (by omega)).trans ((jh_up_n _ _ (by omega)).trans ((jh_up_n _ _ (by omega)).trans E16_0))
    have E17_1 := (F17 q0 (by omega) (by omega)).trans ((jh_up_n _ _ (by omega)).trans (jh_up_s _ _ _))
    have E17_2 := (F17 q1 (by omega) (by omega)).trans ((jh_up_n _ _ (by omega)).trans ((jh_up_n _ _ (by omega)).trans E16_2))
    refine j_aast d_Lift_init_77 E17_2 (nI_in hi12 (by omega)) O17 rfl ?_
    refine j_iinc d_Lift_init_78 0 rfl (v := nI (i + 1)) (nI_1 i) (Nat.le_of_ble_eq_true rfl) rfl ?_
    refine j_goto (tgt := 46) d_Lift_init_81 (by decide) ?_
    refine j_nks (n + 4 * (i + 1)) (k0 + 4 * (i + 1)) (sl0 + 30 * (i + 1)) (by omega) (by omega) (by omega) ?_
    exact ih (i + 1) (by omega) _ _ _ ((jh_up_n _ _ (by omega)).trans E17_0) ((jh_up_n _ _ (by omega)).trans E17_1) (jh_up_s _ _ _) (fun x h0x h1x h2x => ((jh_up_n _ _ (by omega)).trans ((F17 x (by omega) (by omega)).trans ((jh_up_n _ _ (by omega)).trans ((jh_up_n _ _ (by omega)).trans ((F16 x (by omega) (by omega)).trans (jh_up_n _ _ (by omega))))))).trans (HF x h0x h1x h2x))
set_option maxHeartbeats 4000000 in
set_option maxRecDepth 100000 in
theorem k_Lift_init (l : Launch) {b : Nat} {D : va_G} {Y : Nat → ClassId} {s0 : State} (Z : jS0 b D Y s0) (a n : Nat) (h : jH) (ha : a < n) (H0 : h a = some (.inr (6, fs_Lift))) : jMet l D s0 y_Lift_init c_Lift_init 2 none 4 [.ref a] h n 118 960 (fun r h2 n2 => r = none ∧ n2 = n + 118 ∧ h2 a = some (.inr (6, [.ref n, .ref (n + 51), .ref (n + 54), .ref (n + 55), .ref (n + 104), .ref (n + 106), .ref (n + 108), .ref (n + 110), .ref (n + 112), .ref (n + 114), .ref (n + 116)])) ∧ ∀ x, x < n → x ≠ a → h2 x = h x) := by
  refine jMet_of Z (by decide) (Nat.le_of_ble_eq_true rfl) ?_
  intro p e s m below meth c
  refine j_aload_n d_Lift_init_0 0 rfl ?_
  refine j_objInit g_176 g_25 g_26 (Nat.le_of_ble_eq_true rfl) (Nat.le_of_ble_eq_true rfl) d_Lift_init_1 ?_
  refine j_aload_n d_Lift_init_4 0 rfl ?_
  refine j_new iw_MSpl t_MSpl t_MSpl_ok (ci := 5) (fs := fs_MSpl) rfl g_177 g_178 g_9 df_MSpl (by first | exact Nat.le_of_ble_eq_true rfl | (simp only [jrm]; omega)) (by first | exact Nat.le_of_ble_eq_true rfl | (simp only [jrm]; omega)) d_Lift_init_5 ?_
  refine j_dup d_Lift_init_8 rfl ?_
  refine j_callI (k_MSpl_init l Z n (n + 1) _ (by omega) (jh_up_s _ _ _)) ⟨⟨Nat.le_of_ble_eq_true rfl, Nat.le_of_ble_eq_true rfl⟩, g_179, g_181, g_9, by decide +kernel⟩ g_180 rfl ⟨(by first | exact Nat.le_of_ble_eq_true rfl | (simp only [jrm]; omega)), (by first | exact Nat.le_of_ble_eq_true rfl | (simp only [jrm]; omega))⟩ (Nat.le_of_ble_eq_true rfl) d_Lift_init_9 (fun r18 h18 n18 P18 => ?_)
  obtain ⟨rfl, rfl, O18, F18⟩ := P18
  have E18_0 := (F18 a (by omega) (by omega)).trans ((jh_up_n _ _ (by omega)).trans H0)
  refine j_putF iw_Lift t_Lift t_Lift_ok n_Lift (ci := 6) (kf := 0) rfl (by decide) g_234 rfl rfl rfl (t_Lift_ok 0 (by decide)) rfl rfl d_Lift_init_12 E18_0 (Nat.le_of_ble_eq_true rfl) ?_
  refine j_aload_n d_Lift_init_15 0 rfl ?_
  refine j_new iw_Resi t_Resi t_Resi_ok (ci := 3) (fs := fs_Resi) rfl g_230 g_117 g_7 df_Resi (by first | exact Nat.le_of_ble_eq_true rfl | (simp only [jrm]; omega)) (by first | exact Nat.le_of_ble_eq_true rfl | (simp only [jrm]; omega)) d_Lift_init_16 ?_
  refine j_dup d_Lift_init_19 rfl ?_
  refine j_callI (k_Resi_init l Z (n + 51) (n + 52) _ (by omega) (jh_up_s _ _ _)) ⟨⟨Nat.le_of_ble_eq_true rfl, Nat.le_of_ble_eq_true rfl⟩, g_231, g_120, g_7, by decide +kernel⟩ g_119 rfl ⟨(by first | exact Nat.le_of_ble_eq_true rfl | (simp only [jrm]; omega)), (by first | exact Nat.le_of_ble_eq_true rfl | (simp only [jrm]; omega))⟩ (Nat.le_of_ble_eq_true rfl) d_Lift_init_20 (fun r19 h19 n19 P19 => ?_)
  obtain ⟨rfl, rfl, O19, F19⟩ := P19
  have E19_0 := (F19 a (by omega) (by omega)).trans ((jh_up_n _ _ (by omega)).trans (jh_up_s _ _ _))
  refine j_putF iw_Lift t_Lift t_Lift_ok n_Lift (ci := 6) (kf := 1) rfl (by decide) g_236 rfl rfl rfl (t_Lift_ok 1 (by decide)) rfl rfl d_Lift_init_23 E19_0 (Nat.le_of_ble_eq_true rfl) ?_
  refine j_aload_n d_Lift_init_26 0 rfl ?_
  refine j_bipush d_Lift_init_27 (v := 12) (by decide) ?_
  refine j_newP (N := 12) g_232 (List.mem_of_getElem? (i := 133) (by decide +kernel)) (by decide) rfl (by decide) (by first | exact Nat.le_of_ble_eq_true rfl | (simp only [jrm]; omega)) (by first | exact Nat.le_of_ble_eq_true rfl | (simp only [jrm]; omega)) d_Lift_init_29 ?_
  refine j_putF iw_Lift t_Lift t_Lift_ok n_Lift (ci := 6) (kf := 2) rfl (by decide) g_238 rfl rfl rfl (t_Lift_ok 2 (by decide)) rfl rfl d_Lift_init_32 ((jh_up_n _ _ (by omega)).trans (jh_up_s _ _ _)) (Nat.le_of_ble_eq_true rfl) ?_
  refine j_aload_n d_Lift_init_35 0 rfl ?_
  refine j_bipush d_Lift_init_36 (v := 12) (by decide) ?_
  refine j_newP (N := 12) g_232 (List.mem_of_getElem? (i := 133) (by decide +kernel)) (by decide) rfl (by decide) (by first | exact Nat.le_of_ble_eq_true rfl | (simp only [jrm]; omega)) (by first | exact Nat.le_of_ble_eq_true rfl | (simp only [jrm]; omega)) d_Lift_init_38 ?_
  refine j_putF iw_Lift t_Lift t_Lift_ok n_Lift (ci := 6) (kf := 3) rfl (by decide) g_240 rfl rfl rfl (t_Lift_ok 3 (by decide)) rfl rfl d_Lift_init_41 ((jh_up_n _ _ (by omega)).trans (jh_up_s _ _ _)) (Nat.le_of_ble_eq_true rfl) ?_
  refine j_iconst d_Lift_init_44 (v := 0) (by decide) ?_
  refine j_istore_n d_Lift_init_45 (Nat.le_of_ble_eq_true rfl) rfl ?_
  refine j_nks ((n + 56) + 4 * 0) (56 + 4 * 0) (495 + 30 * 0) (by omega) (by omega) (by omega) ?_
  refine k_Lift_loop l Z a (n + 54) (n + 55) (n + 56) 56 495 [.ref n, .ref (n + 51), .ref (n + 54), .ref (n + 55), .null, .null, .null, .null, .null, .null, .null] _ (by omega) (by omega) (by omega) rfl (by omega) (by omega) rfl (by omega) (Nat.le_of_ble_eq_true rfl) (Nat.le_of_ble_eq_true rfl) (fun hy fy_0 fy_1 Ay By_0 By_1 Gy => ?_) 12 0 rfl _ _ _ (jh_up_s _ _ _) ((jh_up_n _ _ (by omega)).trans ((jh_up_n _ _ (by omega)).trans ((jh_up_n _ _ (by omega)).trans (jh_up_s _ _ _)))) ((jh_up_n _ _ (by omega)).trans (jh_up_s _ _ _)) (fun x _ _ _ => rfl)
  refine j_aload_n d_Lift_init_84 1 rfl ?_
  refine j_new iw_Poly t_Poly t_Poly_ok (ci := 0) (fs := fs_Poly) rfl g_232 g_28 g_2 df_Poly (by first | exact Nat.le_of_ble_eq_true rfl | (simp only [jrm]; omega)) (by first | exact Nat.le_of_ble_eq_true rfl | (simp only [jrm]; omega)) d_Lift_init_85 ?_
  refine j_dup d_Lift_init_88 rfl ?_
  refine j_callI (k_Poly_init l Z (n + 104) (n + 105) _ (by omega) (jh_up_s _ _ _)) ⟨⟨Nat.le_of_ble_eq_true rfl, Nat.le_of_ble_eq_true rfl⟩, g_233, g_31, g_2, by decide +kernel⟩ g_30 rfl ⟨(by first | exact Nat.le_of_ble_eq_true rfl | (simp only [jrm]; omega)), (by first | exact Nat.le_of_ble_eq_true rfl | (simp only [jrm]; omega))⟩ (Nat.le_of_ble_eq_true rfl) d_Lift_init_89 (fun r20 h20 n20 P20 => ?_)
  obtain ⟨rfl, rfl, A20, O20, F20⟩ := P20
  have E20_0 := (F20 a (by omega) (by omega)).trans ((jh_up_n _ _ (by omega)).trans Ay)
  refine j_putF iw_Lift t_Lift t_Lift_ok n_Lift (ci := 6) (kf := 4) rfl (by decide) g_241 rfl rfl rfl (t_Lift_ok 4 (by decide)) rfl rfl d_Lift_init_92 E20_0 (Nat.le_of_ble_eq_true rfl) ?_
  refine j_aload_n d_Lift_init_95 1 rfl ?_
  refine j_new iw_Poly t_Poly t_Poly_ok (ci := 0) (fs := fs_Poly) rfl g_232 g_28 g_2 df_Poly (by first | exact Nat.le_of_ble_eq_true rfl | (simp only [jrm]; omega)) (by first | exact Nat.le_of_ble_eq_true rfl | (simp only [jrm]; omega)) d_Lift_init_96 ?_
  refine j_dup d_Lift_init_99 rfl ?_
  refine j_callI (k_Poly_init l Z (n + 106) (n + 107) _ (by omega) (jh_up_s _ _ _)) ⟨⟨Nat.le_of_ble_eq_true rfl, Nat.le_of_ble_eq_true rfl⟩, g_233, g_31, g_2, by decide +kernel⟩ g_30 rfl ⟨(by first | exact Nat.le_of_ble_eq_true rfl | (simp only [jrm]; omega)), (by first | exact Nat.le_of_ble_eq_true rfl | (simp only [jrm]; omega))⟩ (Nat.le_of_ble_eq_true rfl) d_Lift_init_100 (fun r21 h21 n21 P21 => ?_)
  obtain ⟨rfl, rfl, A21, O21, F21⟩ := P21
  have E21_0 := (F21 a (by omega) (by omega)).trans ((jh_up_n _ _ (by omega)).trans (jh_up_s _ _ _))
  refine j_putF iw_Lift t_Lift t_Lift_ok n_Lift (ci := 6) (kf := 5) rfl (by decide) g_242 rfl rfl rfl (t_Lift_ok 5 (by decide)) rfl rfl d_Lift_init_103 E21_0 (Nat.le_of_ble_eq_true rfl) ?_
  refine j_aload_n d_Lift_init_106 1 rfl ?_
  refine j_new iw_Poly t_Poly t_Poly_ok (ci := 0) (fs := fs_Poly) rfl g_232 g_28 g_2 df_Poly (by first | exact Nat.le_of_ble_eq_true rfl | (simp only [jrm]; omega)) (by first | exact Nat.le_of_ble_eq_true rfl | (simp only [jrm]; omega)) d_Lift_init_107 ?_
  refine j_dup d_Lift_init_110 rfl ?_
  refine j_callI (k_Poly_init l Z (n + 108) (n + 109) _ (by omega) (jh_up_s _ _ _)) ⟨⟨Nat.le_of_ble_eq_true rfl, Nat.le_of_ble_eq_true rfl⟩, g_233, g_31, g_2, by decide +kernel⟩ g_30 rfl ⟨(by first | exact Nat.le_of_ble_eq_true rfl | (simp only [jrm]; omega)), (by first | exact Nat.le_of_ble_eq_true rfl | (simp only [jrm]; omega))⟩ (Nat.le_of_ble_eq_true rfl) d_Lift_init_111 (fun r22 h22 n22 P22 => ?_)
  obtain ⟨rfl, rfl, A22, O22, F22⟩ := P22
  have E22_0 := (F22 a (by omega) (by omega)).trans ((jh_up_n _ _ (by omega)).trans (jh_up_s _ _ _))
  refine j_putF iw_Lift t_Lift t_Lift_ok n_Lift (ci := 6) (kf := 6) rfl (by decide) g_243 rfl rfl rfl (t_Lift_ok 6 (by decide)) rfl rfl d_Lift_init_114 E22_0 (Nat.le_of_ble_eq_true rfl) ?_
  refine j_aload_n d_Lift_init_117 1 rfl ?_
  refine j_new iw_Poly t_Poly t_Poly_ok (ci := 0) (fs := fs_Poly) rfl g_232 g_28 g_2 df_Poly (by first | exact Nat.le_of_ble_eq_true rfl | (simp only [jrm]; omega)) (by first | exact Nat.le_of_ble_eq_true rfl | (simp only [jrm]; omega)) d_Lift_init_118 ?_
  refine j_dup d_Lift_init_121 rfl ?_
  refine j_callI (k_Poly_init l Z (n + 110) (n + 111) _ (by omega) (jh_up_s _ _ _)) ⟨⟨Nat.le_of_ble_eq_true rfl, Nat.le_of_ble_eq_true rfl⟩, g_233, g_31, g_2, by decide +kernel⟩ g_30 rfl ⟨(by first | exact Nat.le_of_ble_eq_true rfl | (simp only [jrm]; omega)), (by first | exact Nat.le_of_ble_eq_true rfl | (simp only [jrm]; omega))⟩ (Nat.le_of_ble_eq_true rfl) d_Lift_init_122 (fun r23 h23 n23 P23 => ?_)
  obtain ⟨rfl, rfl, A23, O23, F23⟩ := P23
  have E23_0 := (F23 a (by omega) (by omega)).trans ((jh_up_n _ _ (by omega)).trans (jh_up_s _ _ _))
  refine j_put iw_Lift t_Lift t_Lift_ok n_Lift (ci := 6) (kf := 7) rfl (by decide) g_244 rfl (t_Lift_ok 7 (by decide)) rfl rfl d_Lift_init_125 E23_0 (Nat.le_of_ble_eq_true rfl) ?_
  refine j_aload_n d_Lift_init_128 1 rfl ?_
  refine j_new iw_Poly t_Poly t_Poly_ok (ci := 0) (fs := fs_Poly) rfl g_232 g_28 g_2 df_Poly (by first | exact Nat.le_of_ble_eq_true rfl | (simp only [jrm]; omega)) (by first | exact Nat.le_of_ble_eq_true rfl | (simp only [jrm]; omega)) d_Lift_init_129 ?_
  refine j_dup d_Lift_init_132 rfl ?_
  refine j_callI (k_Poly_init l Z (n + 112) (n + 113) _ (by omega) (jh_up_s _ _ _)) ⟨⟨Nat.le_of_ble_eq_true rfl, Nat.le_of_ble_eq_true rfl⟩, g_233, g_31, g_2, by decide +kernel⟩ g_30 rfl ⟨(by first | exact Nat.le_of_ble_eq_true rfl | (simp only [jrm]; omega)), (by first | exact Nat.le_of_ble_eq_true rfl | (simp only [jrm]; omega))⟩ (Nat.le_of_ble_eq_true rfl) d_Lift_init_133 (fun r24 h24 n24 P24 => ?_)
  obtain ⟨rfl, rfl, A24, O24, F24⟩ := P24
  have E24_0 := (F24 a (by omega) (by omega)).trans ((jh_up_n _ _ (by omega)).trans (jh_up_s _ _ _))
  refine j_put iw_Lift t_Lift t_Lift_ok n_Lift (ci := 6) (kf := 8) rfl (by decide) g_245 rfl (t_Lift_ok 8 (by decide)) rfl rfl d_Lift_init_136 E24_0 (Nat.le_of_ble_eq_true rfl) ?_
  refine j_aload_n d_Lift_init_139 1 rfl ?_
  refine j_new iw_Poly t_Poly t_Poly_ok (ci := 0) (fs := fs_Poly) rfl g_232 g_28 g_2 df_Poly (by first | exact Nat.le_of_ble_eq_true rfl | (simp only [jrm]; omega)) (by first | exact Nat.le_of_ble_eq_true rfl | (simp only [jrm]; omega)) d_Lift_init_140 ?_
  refine j_dup d_Lift_init_143 rfl ?_
  refine j_callI (k_Poly_init l Z (n + 114) (n + 115) _ (by omega) (jh_up_s _ _ _)) ⟨⟨Nat.le_of_ble_eq_true rfl, Nat.le_of_ble_eq_true rfl⟩, g_233, g_31, g_2, by decide +kernel⟩ g_30 rfl ⟨(by first | exact Nat.le_of_ble_eq_true rfl | (simp only [jrm]; omega)), (by first | exact Nat.le_of_ble_eq_true rfl | (simp only [jrm]; omega))⟩ (Nat.le_of_ble_eq_true rfl) d_Lift_init_144 (fun r25 h25 n25 P25 => ?_)
  obtain ⟨rfl, rfl, A25, O25, F25⟩ := P25
  have E25_0 := (F25 a (by omega) (by omega)).trans ((jh_up_n _ _ (by omega)).trans (jh_up_s _ _ _))
  refine j_put iw_Lift t_Lift t_Lift_ok n_Lift (ci := 6) (kf := 9) rfl (by decide) g_246 rfl (t_Lift_ok 9 (by decide)) rfl rfl d_Lift_init_147 E25_0 (Nat.le_of_ble_eq_true rfl) ?_
  refine j_aload_n d_Lift_init_150 1 rfl ?_
  refine j_new iw_Poly t_Poly t_Poly_ok (ci := 0) (fs := fs_Poly) rfl g_232 g_28 g_2 df_Poly (by first | exact Nat.le_of_ble_eq_true rfl | (simp only [jrm]; omega)) (by first | exact Nat.le_of_ble_eq_true rfl | (simp only [jrm]; omega)) d_Lift_init_151 ?_
  refine j_dup d_Lift_init_154 rfl ?_
  refine j_callI (k_Poly_init l Z (n + 116) (n + 117) _ (by omega) (jh_up_s _ _ _)) ⟨⟨Nat.le_of_ble_eq_true rfl, Nat.le_of_ble_eq_true rfl⟩, g_233, g_31, g_2, by decide +kernel⟩ g_30 rfl ⟨(by first | exact Nat.le_of_ble_eq_true rfl | (simp only [jrm]; omega)), (by first | exact Nat.le_of_ble_eq_true rfl | (simp only [jrm]; omega))⟩ (Nat.le_of_ble_eq_true rfl) d_Lift_init_155 (fun r26 h26 n26 P26 => ?_)
  obtain ⟨rfl, rfl, A26, O26, F26⟩ := P26
  have E26_0 := (F26 a (by omega) (by omega)).trans ((jh_up_n _ _ (by omega)).trans (jh_up_s _ _ _))
  refine j_put iw_Lift t_Lift t_Lift_ok n_Lift (ci := 6) (kf := 10) rfl (by decide) g_247 rfl (t_Lift_ok 10 (by decide)) rfl rfl d_Lift_init_158 E26_0 (Nat.le_of_ble_eq_true rfl) ?_
  refine j_vret rfl d_Lift_init_161 ⟨rfl, rfl, ?_, fun x h1 h2 => ?_⟩
  · exact (jh_up_s _ _ _)
  · exact ((jh_up_n _ _ (by omega)).trans ((F26 x (by omega) (by omega)).trans ((jh_up_n _ _ (by omega)).trans ((jh_up_n _ _ (by omega)).trans ((F25 x (by omega) (by omega)).trans ((jh_up_n _ _ (by omega)).trans ((jh_up_n _ _ (by omega)).trans ((F24 x (by omega) (by omega)).trans ((jh_up_n _ _ (by omega)).trans ((jh_up_n _ _ (by omega)).trans ((F23 x (by omega) (by omega)).trans ((jh_up_n _ _ (by omega)).trans ((jh_up_n _ _ (by omega)).trans ((F22 x (by omega) (by omega)).trans ((jh_up_n _ _ (by omega)).trans ((jh_up_n _ _ (by omega)).trans ((F21 x (by omega) (by omega)).trans ((jh_up_n _ _ (by omega)).trans ((jh_up_n _ _ (by omega)).trans ((F20 x (by omega) (by omega)).trans ((jh_up_n _ _ (by omega)).trans ((Gy x (by omega) (by omega) (by omega)).trans ((jh_up_n _ _ (by omega)).trans ((jh_up_n _ _ (by omega)).trans ((jh_up_n _ _ (by omega)).trans ((jh_up_n _ _ (by omega)).trans ((jh_up_n _ _ (by omega)).trans ((F19 x (by omega) (by omega)).trans ((jh_up_n _ _ (by omega)).trans ((jh_up_n _ _ (by omega)).trans ((F18 x (by omega) (by omega)).trans (jh_up_n _ _ (by omega)))))))))))))))))))))))))))))))))
