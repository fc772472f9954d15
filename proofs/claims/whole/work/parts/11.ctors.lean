theorem j_nks {b : Nat} {D : va_G} {Y : Nat → ClassId} {s0 : State} {p : Program} {l : Launch} {e : Env} {R : Room} {s : State} {m : MethodId} {args : Array Value} {below : List Frame} {meth : Method} {c : Code} {own : String} {cc : ByteArray} {nL : Nat} {ret : Option FieldType} {nm : String} {Q : State → Prop} {pc : Nat} {lv : List (Nat × Value)} {st : List Value} {h : jH} {n k sl : Nat} (n2 k2 sl2 : Nat) (h1 : n = n2) (h2 : k = k2) (h3 : sl = sl2) (kk : jW b D Y s0 p l e R s m args below meth c own cc nL ret nm Q pc lv st h n2 k2 sl2) : jW b D Y s0 p l e R s m args below meth c own cc nL ret nm Q pc lv st h n k sl := by
  subst h1; subst h2; subst h3; exact kk
set_option maxHeartbeats 4000000 in
set_option maxRecDepth 100000 in
theorem k_Poly_init (l : Launch) {b : Nat} {D : va_G} {Y : Nat → ClassId} {s0 : State} (Z : jS0 b D Y s0) (a n : Nat) (h : jH) (ha : a < n) (H0 : h a = some (.inr (0, fs_Poly))) : jMet l D s0 y_Poly_init c_Poly_init 1 none 1 [.ref a] h n 1 13 (fun r h2 n2 => r = none ∧ n2 = n + 1 ∧ h2 n = some (.inl (Y 1, 13, .inr (.inl (fun _ => 0)))) ∧ h2 a = some (.inr (0, [.ref n, .int (-1)])) ∧ ∀ x, x ≠ n → x ≠ a → h2 x = h x) := by
  refine jMet_of Z (by decide) (Nat.le_of_ble_eq_true rfl) ?_
  intro p e s m below meth c
  refine j_aload_n d_Poly_init_0 0 rfl ?_
  refine j_objInit g_32 g_25 g_26 (Nat.le_of_ble_eq_true rfl) (Nat.le_of_ble_eq_true rfl) d_Poly_init_1 ?_
  refine j_aload_n d_Poly_init_4 0 rfl ?_
  refine j_bipush d_Poly_init_5 (v := 13) (by decide) ?_
  refine j_newJ g_56 (by decide) rfl (by decide) (by first | exact Nat.le_of_ble_eq_true rfl | (simp only [jrm]; omega)) (by first | exact Nat.le_of_ble_eq_true rfl | (simp only [jrm]; omega)) d_Poly_init_7 ?_
  refine j_putF iw_Poly t_Poly t_Poly_ok n_Poly (ci := 0) (kf := 0) rfl (by decide) g_33 rfl rfl rfl (t_Poly_ok 0 (by decide)) rfl rfl d_Poly_init_9 ((jh_up_n _ _ (by omega)).trans H0) (Nat.le_of_ble_eq_true rfl) ?_
  refine j_aload_n d_Poly_init_12 0 rfl ?_
  refine j_iconst d_Poly_init_13 (v := -1) (by decide) ?_
  refine j_put iw_Poly t_Poly t_Poly_ok n_Poly (ci := 0) (kf := 1) rfl (by decide) g_41 rfl (t_Poly_ok 1 (by decide)) rfl rfl d_Poly_init_14 (jh_up_s _ _ _) (Nat.le_of_ble_eq_true rfl) ?_
  refine j_vret rfl d_Poly_init_17 ⟨rfl, rfl, ?_, ?_, fun x h1 h2 => ?_⟩
  · exact ((jh_up_n _ _ (by omega)).trans ((jh_up_n _ _ (by omega)).trans (jh_up_s _ _ _)))
  · exact (jh_up_s _ _ _)
  · simp [jh_up, h1, h2]
set_option maxHeartbeats 4000000 in
set_option maxRecDepth 100000 in
theorem k_Divn_init (l : Launch) {b : Nat} {D : va_G} {Y : Nat → ClassId} {s0 : State} (Z : jS0 b D Y s0) (a n : Nat) (h : jH) (ha : a < n) (H0 : h a = some (.inr (2, fs_Divn))) : jMet l D s0 y_Divn_init c_Divn_init 1 none 2 [.ref a] h n 3 28 (fun r h2 n2 => r = none ∧ n2 = n + 3 ∧ h2 a = some (.inr (2, [.ref n, .ref (n + 2)])) ∧ ∀ x, x < n → x ≠ a → h2 x = h x) := by
  refine jMet_of Z (by decide) (Nat.le_of_ble_eq_true rfl) ?_
  intro p e s m below meth c
  refine j_aload_n d_Divn_init_0 0 rfl ?_
  refine j_objInit g_105 g_25 g_26 (Nat.le_of_ble_eq_true rfl) (Nat.le_of_ble_eq_true rfl) d_Divn_init_1 ?_
  refine j_aload_n d_Divn_init_4 0 rfl ?_
  refine j_new iw_Poly t_Poly t_Poly_ok (ci := 0) (fs := fs_Poly) rfl g_106 g_28 g_2 df_Poly (by first | exact Nat.le_of_ble_eq_true rfl | (simp only [jrm]; omega)) (by first | exact Nat.le_of_ble_eq_true rfl | (simp only [jrm]; omega)) d_Divn_init_5 ?_
  refine j_dup d_Divn_init_8 rfl ?_
  refine j_callI (k_Poly_init l Z n (n + 1) _ (by omega) (jh_up_s _ _ _)) ⟨⟨Nat.le_of_ble_eq_true rfl, Nat.le_of_ble_eq_true rfl⟩, g_107, g_31, g_2, by decide +kernel⟩ g_30 rfl ⟨(by first | exact Nat.le_of_ble_eq_true rfl | (simp only [jrm]; omega)), (by first | exact Nat.le_of_ble_eq_true rfl | (simp only [jrm]; omega))⟩ (Nat.le_of_ble_eq_true rfl) d_Divn_init_9 (fun r0 h0 n0 P0 => ?_)
  obtain ⟨rfl, rfl, A0, O0, F0⟩ := P0
  have E0_0 := (F0 a (by omega) (by omega)).trans ((jh_up_n _ _ (by omega)).trans H0)
  refine j_putF iw_Divn t_Divn t_Divn_ok n_Divn (ci := 2) (kf := 0) rfl (by decide) g_108 rfl rfl rfl (t_Divn_ok 0 (by decide)) rfl rfl d_Divn_init_12 E0_0 (Nat.le_of_ble_eq_true rfl) ?_
  refine j_aload_n d_Divn_init_15 0 rfl ?_
  refine j_bipush d_Divn_init_16 (v := 13) (by decide) ?_
  refine j_newJ g_56 (by decide) rfl (by decide) (by first | exact Nat.le_of_ble_eq_true rfl | (simp only [jrm]; omega)) (by first | exact Nat.le_of_ble_eq_true rfl | (simp only [jrm]; omega)) d_Divn_init_18 ?_
  refine j_putF iw_Divn t_Divn t_Divn_ok n_Divn (ci := 2) (kf := 1) rfl (by decide) g_110 rfl rfl rfl (t_Divn_ok 1 (by decide)) rfl rfl d_Divn_init_20 ((jh_up_n _ _ (by omega)).trans (jh_up_s _ _ _)) (Nat.le_of_ble_eq_true rfl) ?_
  refine j_vret rfl d_Divn_init_23 ⟨rfl, rfl, ?_, fun x h1 h2 => ?_⟩
  · exact (jh_up_s _ _ _)
  · exact ((jh_up_n _ _ (by omega)).trans ((jh_up_n _ _ (by omega)).trans ((jh_up_n _ _ (by omega)).trans ((F0 x (by omega) (by omega)).trans (jh_up_n _ _ (by omega))))))
set_option maxHeartbeats 4000000 in
set_option maxRecDepth 100000 in
theorem k_Resi_init (l : Launch) {b : Nat} {D : va_G} {Y : Nat → ClassId} {s0 : State} (Z : jS0 b D Y s0) (a n : Nat) (h : jH) (ha : a < n) (H0 : h a = some (.inr (3, fs_Resi))) : jMet l D s0 y_Resi_init c_Resi_init 1 none 2 [.ref a] h n 2 15 (fun r h2 n2 => r = none ∧ n2 = n + 2 ∧ h2 a = some (.inr (3, [.ref n, .long 2, .int 31, .long 2147483647, .int 1])) ∧ ∀ x, x < n → x ≠ a → h2 x = h x) := by
  refine jMet_of Z (by decide) (Nat.le_of_ble_eq_true rfl) ?_
  intro p e s m below meth c
  refine j_aload_n d_Resi_init_0 0 rfl ?_
  refine j_objInit g_121 g_25 g_26 (Nat.le_of_ble_eq_true rfl) (Nat.le_of_ble_eq_true rfl) d_Resi_init_1 ?_
  refine j_aload_n d_Resi_init_4 0 rfl ?_
  refine j_new iw_Poly t_Poly t_Poly_ok (ci := 0) (fs := fs_Poly) rfl g_122 g_28 g_2 df_Poly (by first | exact Nat.le_of_ble_eq_true rfl | (simp only [jrm]; omega)) (by first | exact Nat.le_of_ble_eq_true rfl | (simp only [jrm]; omega)) d_Resi_init_5 ?_
  refine j_dup d_Resi_init_8 rfl ?_
  refine j_callI (k_Poly_init l Z n (n + 1) _ (by omega) (jh_up_s _ _ _)) ⟨⟨Nat.le_of_ble_eq_true rfl, Nat.le_of_ble_eq_true rfl⟩, g_123, g_31, g_2, by decide +kernel⟩ g_30 rfl ⟨(by first | exact Nat.le_of_ble_eq_true rfl | (simp only [jrm]; omega)), (by first | exact Nat.le_of_ble_eq_true rfl | (simp only [jrm]; omega))⟩ (Nat.le_of_ble_eq_true rfl) d_Resi_init_9 (fun r1 h1 n1 P1 => ?_)
  obtain ⟨rfl, rfl, A1, O1, F1⟩ := P1
  have E1_0 := (F1 a (by omega) (by omega)).trans ((jh_up_n _ _ (by omega)).trans H0)
  refine j_putF iw_Resi t_Resi t_Resi_ok n_Resi (ci := 3) (kf := 0) rfl (by decide) g_126 rfl rfl rfl (t_Resi_ok 0 (by decide)) rfl rfl d_Resi_init_12 E1_0 (Nat.le_of_ble_eq_true rfl) ?_
  refine j_aload_n d_Resi_init_15 0 rfl ?_
  refine j_ldc2 g_124 d_Resi_init_16 ?_
  refine j_put iw_Resi t_Resi t_Resi_ok n_Resi (ci := 3) (kf := 1) rfl (by decide) g_129 rfl (t_Resi_ok 1 (by decide)) rfl rfl d_Resi_init_19 (jh_up_s _ _ _) (Nat.le_of_ble_eq_true rfl) ?_
  refine j_aload_n d_Resi_init_22 0 rfl ?_
  refine j_bipush d_Resi_init_23 (v := 31) (by decide) ?_
  refine j_put iw_Resi t_Resi t_Resi_ok n_Resi (ci := 3) (kf := 2) rfl (by decide) g_130 rfl (t_Resi_ok 2 (by decide)) rfl rfl d_Resi_init_25 (jh_up_s _ _ _) (Nat.le_of_ble_eq_true rfl) ?_
  refine j_aload_n d_Resi_init_28 0 rfl ?_
  refine j_ldc2 g_125 d_Resi_init_29 ?_
  refine j_put iw_Resi t_Resi t_Resi_ok n_Resi (ci := 3) (kf := 3) rfl (by decide) g_131 rfl (t_Resi_ok 3 (by decide)) rfl rfl d_Resi_init_32 (jh_up_s _ _ _) (Nat.le_of_ble_eq_true rfl) ?_
  refine j_aload_n d_Resi_init_35 0 rfl ?_
  refine j_iconst d_Resi_init_36 (v := 1) (by decide) ?_
  refine j_put iw_Resi t_Resi t_Resi_ok n_Resi (ci := 3) (kf := 4) rfl (by decide) g_132 rfl (t_Resi_ok 4 (by decide)) rfl rfl d_Resi_init_37 (jh_up_s _ _ _) (Nat.le_of_ble_eq_true rfl) ?_
  refine j_vret rfl d_Resi_init_40 ⟨rfl, rfl, ?_, fun x h1 h2 => ?_⟩
  · exact (jh_up_s _ _ _)
  · exact ((jh_up_n _ _ (by omega)).trans ((jh_up_n _ _ (by omega)).trans ((jh_up_n _ _ (by omega)).trans ((jh_up_n _ _ (by omega)).trans ((jh_up_n _ _ (by omega)).trans ((F1 x (by omega) (by omega)).trans (jh_up_n _ _ (by omega))))))))
set_option maxHeartbeats 4000000 in
set_option maxRecDepth 100000 in
theorem k_CDiv_init (l : Launch) {b : Nat} {D : va_G} {Y : Nat → ClassId} {s0 : State} (Z : jS0 b D Y s0) (a n : Nat) (h : jH) (ha : a < n) (H0 : h a = some (.inr (4, fs_CDiv))) : jMet l D s0 y_CDiv_init c_CDiv_init 1 none 3 [.ref a] h n 17 125 (fun r h2 n2 => r = none ∧ n2 = n + 17 ∧ h2 a = some (.inr (4, [.ref (n + 7), .ref n, .ref (n + 4), .ref (n + 9), .ref (n + 11), .ref (n + 13), .ref (n + 15)])) ∧ ∀ x, x < n → x ≠ a → h2 x = h x) := by
  refine jMet_of Z (by decide) (Nat.le_of_ble_eq_true rfl) ?_
  intro p e s m below meth c
  refine j_aload_n d_CDiv_init_0 0 rfl ?_
  refine j_objInit g_99 g_25 g_26 (Nat.le_of_ble_eq_true rfl) (Nat.le_of_ble_eq_true rfl) d_CDiv_init_1 ?_
  refine j_aload_n d_CDiv_init_4 0 rfl ?_
  refine j_new iw_Divn t_Divn t_Divn_ok (ci := 2) (fs := fs_Divn) rfl g_100 g_101 g_6 df_Divn (by first | exact Nat.le_of_ble_eq_true rfl | (simp only [jrm]; omega)) (by first | exact Nat.le_of_ble_eq_true rfl | (simp only [jrm]; omega)) d_CDiv_init_5 ?_
  refine j_dup d_CDiv_init_8 rfl ?_
  refine j_callI (k_Divn_init l Z n (n + 1) _ (by omega) (jh_up_s _ _ _)) ⟨⟨Nat.le_of_ble_eq_true rfl, Nat.le_of_ble_eq_true rfl⟩, g_102, g_104, g_6, by decide +kernel⟩ g_103 rfl ⟨(by first | exact Nat.le_of_ble_eq_true rfl | (simp only [jrm]; omega)), (by first | exact Nat.le_of_ble_eq_true rfl | (simp only [jrm]; omega))⟩ (Nat.le_of_ble_eq_true rfl) d_CDiv_init_9 (fun r2 h2 n2 P2 => ?_)
  obtain ⟨rfl, rfl, O2, F2⟩ := P2
  have E2_0 := (F2 a (by omega) (by omega)).trans ((jh_up_n _ _ (by omega)).trans H0)
  refine j_putF iw_CDiv t_CDiv t_CDiv_ok n_CDiv (ci := 4) (kf := 1) rfl (by decide) g_149 rfl rfl rfl (t_CDiv_ok 1 (by decide)) rfl rfl d_CDiv_init_12 E2_0 (Nat.le_of_ble_eq_true rfl) ?_
  refine j_aload_n d_CDiv_init_15 0 rfl ?_
  refine j_new iw_Resi t_Resi t_Resi_ok (ci := 3) (fs := fs_Resi) rfl g_116 g_117 g_7 df_Resi (by first | exact Nat.le_of_ble_eq_true rfl | (simp only [jrm]; omega)) (by first | exact Nat.le_of_ble_eq_true rfl | (simp only [jrm]; omega)) d_CDiv_init_16 ?_
  refine j_dup d_CDiv_init_19 rfl ?_
  refine j_callI (k_Resi_init l Z (n + 4) (n + 5) _ (by omega) (jh_up_s _ _ _)) ⟨⟨Nat.le_of_ble_eq_true rfl, Nat.le_of_ble_eq_true rfl⟩, g_118, g_120, g_7, by decide +kernel⟩ g_119 rfl ⟨(by first | exact Nat.le_of_ble_eq_true rfl | (simp only [jrm]; omega)), (by first | exact Nat.le_of_ble_eq_true rfl | (simp only [jrm]; omega))⟩ (Nat.le_of_ble_eq_true rfl) d_CDiv_init_20 (fun r3 h3 n3 P3 => ?_)
  obtain ⟨rfl, rfl, O3, F3⟩ := P3
  have E3_0 := (F3 a (by omega) (by omega)).trans ((jh_up_n _ _ (by omega)).trans (jh_up_s _ _ _))
  refine j_putF iw_CDiv t_CDiv t_CDiv_ok n_CDiv (ci := 4) (kf := 2) rfl (by decide) g_151 rfl rfl rfl (t_CDiv_ok 2 (by decide)) rfl rfl d_CDiv_init_23 E3_0 (Nat.le_of_ble_eq_true rfl) ?_
  refine j_aload_n d_CDiv_init_26 0 rfl ?_
  refine j_new iw_Poly t_Poly t_Poly_ok (ci := 0) (fs := fs_Poly) rfl g_144 g_28 g_2 df_Poly (by first | exact Nat.le_of_ble_eq_true rfl | (simp only [jrm]; omega)) (by first | exact Nat.le_of_ble_eq_true rfl | (simp only [jrm]; omega)) d_CDiv_init_27 ?_
  refine j_dup d_CDiv_init_30 rfl ?_
  refine j_callI (k_Poly_init l Z (n + 7) (n + 8) _ (by omega) (jh_up_s _ _ _)) ⟨⟨Nat.le_of_ble_eq_true rfl, Nat.le_of_ble_eq_true rfl⟩, g_145, g_31, g_2, by decide +kernel⟩ g_30 rfl ⟨(by first | exact Nat.le_of_ble_eq_true rfl | (simp only [jrm]; omega)), (by first | exact Nat.le_of_ble_eq_true rfl | (simp only [jrm]; omega))⟩ (Nat.le_of_ble_eq_true rfl) d_CDiv_init_31 (fun r4 h4 n4 P4 => ?_)
  obtain ⟨rfl, rfl, A4, O4, F4⟩ := P4
  have E4_0 := (F4 a (by omega) (by omega)).trans ((jh_up_n _ _ (by omega)).trans (jh_up_s _ _ _))
  refine j_putF iw_CDiv t_CDiv t_CDiv_ok n_CDiv (ci := 4) (kf := 0) rfl (by decide) g_146 rfl rfl rfl (t_CDiv_ok 0 (by decide)) rfl rfl d_CDiv_init_34 E4_0 (Nat.le_of_ble_eq_true rfl) ?_
  refine j_aload_n d_CDiv_init_37 0 rfl ?_
  refine j_new iw_Poly t_Poly t_Poly_ok (ci := 0) (fs := fs_Poly) rfl g_144 g_28 g_2 df_Poly (by first | exact Nat.le_of_ble_eq_true rfl | (simp only [jrm]; omega)) (by first | exact Nat.le_of_ble_eq_true rfl | (simp only [jrm]; omega)) d_CDiv_init_38 ?_
  refine j_dup d_CDiv_init_41 rfl ?_
  refine j_callI (k_Poly_init l Z (n + 9) (n + 10) _ (by omega) (jh_up_s _ _ _)) ⟨⟨Nat.le_of_ble_eq_true rfl, Nat.le_of_ble_eq_true rfl⟩, g_145, g_31, g_2, by decide +kernel⟩ g_30 rfl ⟨(by first | exact Nat.le_of_ble_eq_true rfl | (simp only [jrm]; omega)), (by first | exact Nat.le_of_ble_eq_true rfl | (simp only [jrm]; omega))⟩ (Nat.le_of_ble_eq_true rfl) d_CDiv_init_42 (fun r5 h5 n5 P5 => ?_)
  obtain ⟨rfl, rfl, A5, O5, F5⟩ := P5
  have E5_0 := (F5 a (by omega) (by omega)).trans ((jh_up_n _ _ (by omega)).trans (jh_up_s _ _ _))
  refine j_putF iw_CDiv t_CDiv t_CDiv_ok n_CDiv (ci := 4) (kf := 3) rfl (by decide) g_152 rfl rfl rfl (t_CDiv_ok 3 (by decide)) rfl rfl d_CDiv_init_45 E5_0 (Nat.le_of_ble_eq_true rfl) ?_
  refine j_aload_n d_CDiv_init_48 0 rfl ?_
  refine j_new iw_Poly t_Poly t_Poly_ok (ci := 0) (fs := fs_Poly) rfl g_144 g_28 g_2 df_Poly (by first | exact Nat.le_of_ble_eq_true rfl | (simp only [jrm]; omega)) (by first | exact Nat.le_of_ble_eq_true rfl | (simp only [jrm]; omega)) d_CDiv_init_49 ?_
  refine j_dup d_CDiv_init_52 rfl ?_
  refine j_callI (k_Poly_init l Z (n + 11) (n + 12) _ (by omega) (jh_up_s _ _ _)) ⟨⟨Nat.le_of_ble_eq_true rfl, Nat.le_of_ble_eq_true rfl⟩, g_145, g_31, g_2, by decide +kernel⟩ g_30 rfl ⟨(by first | exact Nat.le_of_ble_eq_true rfl | (simp only [jrm]; omega)), (by first | exact Nat.le_of_ble_eq_true rfl | (simp only [jrm]; omega))⟩ (Nat.le_of_ble_eq_true rfl) d_CDiv_init_53 (fun r6 h6 n6 P6 => ?_)
  obtain ⟨rfl, rfl, A6, O6, F6⟩ := P6
  have E6_0 := (F6 a (by omega) (by omega)).trans ((jh_up_n _ _ (by omega)).trans (jh_up_s _ _ _))
  refine j_putF iw_CDiv t_CDiv t_CDiv_ok n_CDiv (ci := 4) (kf := 4) rfl (by decide) g_153 rfl rfl rfl (t_CDiv_ok 4 (by decide)) rfl rfl d_CDiv_init_56 E6_0 (Nat.le_of_ble_eq_true rfl) ?_
  refine j_aload_n d_CDiv_init_59 0 rfl ?_
  refine j_new iw_Poly t_Poly t_Poly_ok (ci := 0) (fs := fs_Poly) rfl g_144 g_28 g_2 df_Poly (by first | exact Nat.le_of_ble_eq_true rfl | (simp only [jrm]; omega)) (by first | exact Nat.le_of_ble_eq_true rfl | (simp only [jrm]; omega)) d_CDiv_init_60 ?_
  refine j_dup d_CDiv_init_63 rfl ?_
  refine j_callI (k_Poly_init l Z (n + 13) (n + 14) _ (by omega) (jh_up_s _ _ _)) ⟨⟨Nat.le_of_ble_eq_true rfl, Nat.le_of_ble_eq_true rfl⟩, g_145, g_31, g_2, by decide +kernel⟩ g_30 rfl ⟨(by first | exact Nat.le_of_ble_eq_true rfl | (simp only [jrm]; omega)), (by first | exact Nat.le_of_ble_eq_true rfl | (simp only [jrm]; omega))⟩ (Nat.le_of_ble_eq_true rfl) d_CDiv_init_64 (fun r7 h7 n7 P7 => ?_)
  obtain ⟨rfl, rfl, A7, O7, F7⟩ := P7
  have E7_0 := (F7 a (by omega) (by omega)).trans ((jh_up_n _ _ (by omega)).trans (jh_up_s _ _ _))
  refine j_putF iw_CDiv t_CDiv t_CDiv_ok n_CDiv (ci := 4) (kf := 5) rfl (by decide) g_154 rfl rfl rfl (t_CDiv_ok 5 (by decide)) rfl rfl d_CDiv_init_67 E7_0 (Nat.le_of_ble_eq_true rfl) ?_
  refine j_aload_n d_CDiv_init_70 0 rfl ?_
  refine j_new iw_Poly t_Poly t_Poly_ok (ci := 0) (fs := fs_Poly) rfl g_144 g_28 g_2 df_Poly (by first | exact Nat.le_of_ble_eq_true rfl | (simp only [jrm]; omega)) (by first | exact Nat.le_of_ble_eq_true rfl | (simp only [jrm]; omega)) d_CDiv_init_71 ?_
  refine j_dup d_CDiv_init_74 rfl ?_
  refine j_callI (k_Poly_init l Z (n + 15) (n + 16) _ (by omega) (jh_up_s _ _ _)) ⟨⟨Nat.le_of_ble_eq_true rfl, Nat.le_of_ble_eq_true rfl⟩, g_145, g_31, g_2, by decide +kernel⟩ g_30 rfl ⟨(by first | exact Nat.le_of_ble_eq_true rfl | (simp only [jrm]; omega)), (by first | exact Nat.le_of_ble_eq_true rfl | (simp only [jrm]; omega))⟩ (Nat.le_of_ble_eq_true rfl) d_CDiv_init_75 (fun r8 h8 n8 P8 => ?_)
  obtain ⟨rfl, rfl, A8, O8, F8⟩ := P8
  have E8_0 := (F8 a (by omega) (by omega)).trans ((jh_up_n _ _ (by omega)).trans (jh_up_s _ _ _))
  refine j_putF iw_CDiv t_CDiv t_CDiv_ok n_CDiv (ci := 4) (kf := 6) rfl (by decide) g_155 rfl rfl rfl (t_CDiv_ok 6 (by decide)) rfl rfl d_CDiv_init_78 E8_0 (Nat.le_of_ble_eq_true rfl) ?_
  refine j_vret rfl d_CDiv_init_81 ⟨rfl, rfl, ?_, fun x h1 h2 => ?_⟩
  · exact (jh_up_s _ _ _)
  · exact ((jh_up_n _ _ (by omega)).trans ((F8 x (by omega) (by omega)).trans ((jh_up_n _ _ (by omega)).trans ((jh_up_n _ _ (by omega)).trans ((F7 x (by omega) (by omega)).trans ((jh_up_n _ _ (by omega)).trans ((jh_up_n _ _ (by omega)).trans ((F6 x (by omega) (by omega)).trans ((jh_up_n _ _ (by omega)).trans ((jh_up_n _ _ (by omega)).trans ((F5 x (by omega) (by omega)).trans ((jh_up_n _ _ (by omega)).trans ((jh_up_n _ _ (by omega)).trans ((F4 x (by omega) (by omega)).trans ((jh_up_n _ _ (by omega)).trans ((jh_up_n _ _ (by omega)).trans ((F3 x (by omega) (by omega)).trans ((jh_up_n _ _ (by omega)).trans ((jh_up_n _ _ (by omega)).trans ((F2 x (by omega) (by omega)).trans (jh_up_n _ _ (by omega))))))))))))))))))))))
set_option maxHeartbeats 4000000 in
set_option maxRecDepth 100000 in
theorem k_FList_loop (l : Launch) {b : Nat} {D : va_G} {Y : Nat → ClassId} {s0 : State} (Z : jS0 b D Y s0) {p : Program} {e : Env} {s : State} {m : MethodId} {below : List Frame} {meth : Method} {c : Code} {Q : State → Prop} {mc ms : Nat} (a q n k0 sl0 : Nat) (fs : List Value) (hb : jH) (ha : a < n) (hq : q < n) (haq : a ≠ q) (hf : fs[0]? = some (.ref q)) (hmc : k0 + 24 ≤ mc) (hms : sl0 + 180 ≤ ms)
    (hx : ∀ (h2 : jH) (f : Nat → Option Nat), h2 a = some (.inr (1, fs)) → h2 q = some (.inl (Y 3, 12, .inr (.inr (.inr (.inr f))))) → (∀ x, x < n → x ≠ q → h2 x = hb x) → jW b D Y s0 p l e (jrm 2 mc ms) s m [Value.ref a].toArray below meth c y_FList_init.cls c_FList_init 2 none y_FList_init.name Q 40 [(1, .int 12), (0, .ref a)] [] h2 (n + 24) (k0 + 24) (sl0 + 180)) :
    ∀ (j i : Nat), i + j = 12 → ∀ (h : jH) (f : Nat → Option Nat), h a = some (.inr (1, fs)) → h q = some (.inl (Y 3, 12, .inr (.inr (.inr (.inr f))))) → (∀ x, x < n → x ≠ q → h x = hb x) → jW b D Y s0 p l e (jrm 2 mc ms) s m [Value.ref a].toArray below meth c y_FList_init.cls c_FList_init 2 none y_FList_init.name Q 15 [(1, .int (nI i)), (0, .ref a)] [] h (n + 2 * i) (k0 + 2 * i) (sl0 + 15 * i) := by
  intro j
  induction j with
  | zero =>
    intro i hi h f H0 H1 HF
    obtain rfl : i = 12 := by omega
    refine j_iload_n d_FList_init_15 0 rfl ?_
    refine j_bipush d_FList_init_16 (v := 12) (by decide) ?_
    refine j_icmp_ge_t (tgt := 40) d_FList_init_18 (by decide) (by decide) ?_
    exact hx h f H0 H1 HF
  | succ j ih =>
    intro i hi h f H0 H1 HF
    have hi12 : i < 12 := by omega
    refine j_iload_n d_FList_init_15 0 rfl ?_
    refine j_bipush d_FList_init_16 (v := 12) (by decide) ?_
    refine j_icmp_ge_f d_FList_init_18 (tgt := 40) (by decide) (nI_ge (b := 12) hi12 (by decide)) ?_
    refine j_aload_n d_FList_init_21 1 rfl ?_
    refine j_get iw_FList (ci := 1) (kf := 0) rfl (by decide) g_70 d_FList_init_22 H0 hf ?_
    refine j_iload_n d_FList_init_25 0 rfl ?_
    refine j_new iw_Poly t_Poly t_Poly_ok (ci := 0) (fs := fs_Poly) rfl g_67 g_28 g_2 df_Poly (by first | exact Nat.le_of_ble_eq_true rfl | (simp only [jrm]; omega)) (by first | exact Nat.le_of_ble_eq_true rfl | (simp only [jrm]; omega)) d_FList_init_26 ?_
    refine j_dup d_FList_init_29 rfl ?_
    refine j_callI (k_Poly_init l Z (n + 2 * i) ((n + 2 * i) + 1) _ (by omega) (jh_up_s _ _ _)) ⟨⟨Nat.le_of_ble_eq_true rfl, Nat.le_of_ble_eq_true rfl⟩, g_69, g_31, g_2, by decide +kernel⟩ g_30 rfl ⟨(by first | exact Nat.le_of_ble_eq_true rfl | (simp only [jrm]; omega)), (by first | exact Nat.le_of_ble_eq_true rfl | (simp only [jrm]; omega))⟩ (Nat.le_of_ble_eq_true rfl) d_FList_init_30 (fun r9 h9 n9 P9 => ?_)
    obtain ⟨rfl, rfl, A9, O9, F9⟩ := P9
    have E9_0 := (F9 a (by omega) (by omega)).trans ((jh_up_n _ _ (by omega)).trans H0)
    have E9_1 := (F9 q (by omega) (by omega)).trans ((jh_up_n _ _ (by omega)).trans H1)
    refine j_aast d_FList_init_33 E9_1 (nI_in hi12 (by omega)) O9 rfl ?_
    refine j_iinc d_FList_init_34 0 rfl (v := nI (i + 1)) (nI_1 i) (Nat.le_of_ble_eq_true rfl) rfl ?_
    refine j_goto (tgt := 15) d_FList_init_37 (by decide) ?_
    refine j_nks (n + 2 * (i + 1)) (k0 + 2 * (i + 1)) (sl0 + 15 * (i + 1)) (by omega) (by omega) (by omega) ?_
    exact ih (i + 1) (by omega) _ _ ((jh_up_n _ _ (by omega)).trans E9_0) (jh_up_s _ _ _) (fun x h1 h2 => ((jh_up_n _ _ (by omega)).trans ((F9 x (by omega) (by omega)).trans (jh_up_n _ _ (by omega)))).trans (HF x h1 h2))
