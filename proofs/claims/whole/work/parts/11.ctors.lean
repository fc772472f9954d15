set_option maxHeartbeats 4000000 in
set_option maxRecDepth 100000 in
theorem k_Poly_init (l : Launch) {b : Nat} {D : va_G} {Y : Nat → ClassId} {s0 : State} (Z : jS0 b D Y s0) (a n : Nat) (h : jH) (ha : a < n) (H0 : h a = some (.inr (0, fs_Poly))) : jMet l D s0 y_Poly_init c_Poly_init 1 none 1 [.ref a] h n 1 13 (fun r h2 n2 => r = none ∧ n2 = n + 1 ∧ h2 n = some (.inl (Y 1, 13, .inr (.inl (fun _ => 0)))) ∧ h2 a = some (.inr (0, [.ref n, .int (-1)])) ∧ ∀ x, x ≠ n → x ≠ a → h2 x = h x) := by
  refine jMet_of Z (by decide) (Nat.le_of_ble_eq_true rfl) ?_
  intro p e s m below meth c
  refine j_aload_n d_Poly_init_0 0 rfl ?_
  refine j_objInit g_32 g_25 g_26 (Nat.le_of_ble_eq_true rfl) (Nat.le_of_ble_eq_true rfl) d_Poly_init_1 ?_
  refine j_aload_n d_Poly_init_4 0 rfl ?_
  refine j_bipush d_Poly_init_5 (v := 13) (by decide) ?_
  refine j_newJ g_56 (by decide) rfl (by decide) (by first | exact Nat.le_of_ble_eq_true rfl | (simp only [jrm]; omega)) (by first | exact Nat.le_of_ble_eq_true rfl | (simp only [jrm]; omega)) d_Poly_init_7 ?_
  refine j_putF iw_Poly t_Poly t_Poly_ok n_Poly (ci := 0) (kf := 0) rfl (by decide) g_33 rfl rfl rfl (t_Poly_ok 0 (by decide)) rfl rfl d_Poly_init_9 ((jh_up_n _ _ (by omega)).trans H0) (Nat.le_of_ble_eq_true rfl) ?_
  refine j_aload_n d_Poly_init_12 0 rfl ?_
  refine j_iconst d_Poly_init_13 (v := -1) (by decide) ?_
  refine j_put iw_Poly t_Poly t_Poly_ok n_Poly (ci := 0) (kf := 1) rfl (by decide) g_41 rfl (t_Poly_ok 1 (by decide)) rfl rfl d_Poly_init_14 (jh_up_s _ _ _) (Nat.le_of_ble_eq_true rfl) ?_
  refine j_vret rfl d_Poly_init_17 ⟨rfl, rfl, ?_, ?_, fun x h1 h2 => ?_⟩
  · exact ((jh_up_n _ _ (by omega)).trans ((jh_up_n _ _ (by omega)).trans (jh_up_s _ _ _)))
  · exact (jh_up_s _ _ _)
  · simp [jh_up, h1, h2]
