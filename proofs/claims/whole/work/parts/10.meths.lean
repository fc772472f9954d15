theorem iw_Poly : ∀ w ∈ u_ws R_Poly T_Poly 2, jG w := jG_ws i_Poly_e i_Poly_g
abbrev fs_Poly : List Value := [.null, .int 0]
theorem df_Poly : ∀ j, j < 2 → defaultValue (t_Poly j) = vp_V fs_Poly j := by decide +kernel
theorem iw_FList : ∀ w ∈ u_ws R_FList T_FList 3, jG w := jG_ws i_FList_e i_FList_g
abbrev fs_FList : List Value := [.null, .null, .int 0]
theorem df_FList : ∀ j, j < 3 → defaultValue (t_FList j) = vp_V fs_FList j := by decide +kernel
theorem iw_Divn : ∀ w ∈ u_ws R_Divn T_Divn 2, jG w := jG_ws i_Divn_e i_Divn_g
abbrev fs_Divn : List Value := [.null, .null]
theorem df_Divn : ∀ j, j < 2 → defaultValue (t_Divn j) = vp_V fs_Divn j := by decide +kernel
theorem iw_Resi : ∀ w ∈ u_ws R_Resi T_Resi 5, jG w := jG_ws i_Resi_e i_Resi_g
abbrev fs_Resi : List Value := [.null, .long 0, .int 0, .long 0, .int 0]
theorem df_Resi : ∀ j, j < 5 → defaultValue (t_Resi j) = vp_V fs_Resi j := by decide +kernel
theorem iw_CDiv : ∀ w ∈ u_ws R_CDiv T_CDiv 7, jG w := jG_ws i_CDiv_e i_CDiv_g
abbrev fs_CDiv : List Value := [.null, .null, .null, .null, .null, .null, .null]
theorem df_CDiv : ∀ j, j < 7 → defaultValue (t_CDiv j) = vp_V fs_CDiv j := by decide +kernel
theorem iw_MSpl : ∀ w ∈ u_ws R_MSpl T_MSpl 11, jG w := jG_ws i_MSpl_e i_MSpl_g
abbrev fs_MSpl : List Value := [.null, .null, .null, .int 0, .int 0, .int 0, .null, .null, .null, .null, .null]
theorem df_MSpl : ∀ j, j < 11 → defaultValue (t_MSpl j) = vp_V fs_MSpl j := by decide +kernel
theorem iw_Lift : ∀ w ∈ u_ws R_Lift T_Lift 11, jG w := jG_ws i_Lift_e i_Lift_g
abbrev fs_Lift : List Value := [.null, .null, .null, .null, .null, .null, .null, .null, .null, .null, .null]
theorem df_Lift : ∀ j, j < 11 → defaultValue (t_Lift j) = vp_V fs_Lift j := by decide +kernel
theorem iw_Splt : ∀ w ∈ u_ws R_Splt T_Splt 9, jG w := jG_ws i_Splt_e i_Splt_g
abbrev fs_Splt : List Value := [.null, .null, .null, .int 0, .null, .null, .null, .null, .null]
theorem df_Splt : ∀ j, j < 9 → defaultValue (t_Splt j) = vp_V fs_Splt j := by decide +kernel
theorem iw_Desk : ∀ w ∈ u_ws R_Desk T_Desk 10, jG w := jG_ws i_Desk_e i_Desk_g
abbrev fs_Desk : List Value := [.null, .int 0, .null, .null, .null, .null, .null, .null, .null, .null]
theorem df_Desk : ∀ j, j < 10 → defaultValue (t_Desk j) = vp_V fs_Desk j := by decide +kernel
theorem iw_Modl : ∀ w ∈ u_ws R_Modl T_Modl 35, jG w := jG_ws i_Modl_e i_Modl_g
abbrev fs_Modl : List Value := [.int 0, .null, .int 0, .null, .int 0, .null, .int 0, .int 0, .null, .null, .null, .int 0, .null, .null, .null, .int 0, .int 0, .null, .null, .null, .null, .null, .null, .long 0, .int 0, .null, .null, .null, .int 0, .long 0, .null, .null, .null, .null, .long 0]
theorem df_Modl : ∀ j, j < 35 → defaultValue (t_Modl j) = vp_V fs_Modl j := by decide +kernel
abbrev c_Poly_init : ByteArray := prog_7_method_1_code
abbrev y_Poly_init : MethodName := ⟨"FactorDesk$Poly", "<init>", "()V"⟩
theorem d_Poly_init_0 : decode c_Poly_init 0 = .ok (.aload_n 0, 1) := by decide +kernel
theorem d_Poly_init_1 : decode c_Poly_init 1 = .ok (.invokespecial 3, 3) := by decide +kernel
theorem d_Poly_init_4 : decode c_Poly_init 4 = .ok (.aload_n 0, 1) := by decide +kernel
theorem d_Poly_init_5 : decode c_Poly_init 5 = .ok (.bipush 13, 2) := by decide +kernel
theorem d_Poly_init_7 : decode c_Poly_init 7 = .ok (.newarray .long, 2) := by decide +kernel
theorem d_Poly_init_9 : decode c_Poly_init 9 = .ok (.putfield 9, 3) := by decide +kernel
theorem d_Poly_init_12 : decode c_Poly_init 12 = .ok (.aload_n 0, 1) := by decide +kernel
theorem d_Poly_init_13 : decode c_Poly_init 13 = .ok (.iconst (-1), 1) := by decide +kernel
theorem d_Poly_init_14 : decode c_Poly_init 14 = .ok (.putfield 15, 3) := by decide +kernel
theorem d_Poly_init_17 : decode c_Poly_init 17 = .ok (.return_, 1) := by decide +kernel
theorem g_32 : jG (Jvm.Cond.methodLink "FactorDesk$Poly" (3 : Nat) ({ cls := "java/lang/Object", name := "<init>", desc := "()V" } : Jvm.MethodName)) := jG_of 97 (by decide +kernel) (by decide +kernel)
theorem g_25 : jG (Jvm.Cond.instanceMethod ({ cls := "java/lang/Object", name := "<init>", desc := "()V" } : Jvm.MethodName)) := jG_of 90 (by decide +kernel) (by decide +kernel)
theorem g_26 : jG (Jvm.Cond.code ({ cls := "java/lang/Object", name := "<init>", desc := "()V" } : Jvm.MethodName) object_method_1_code (1 : Nat) (Option.none : Option Jvm.ClassFile.FieldType)) := jG_of 91 (by decide +kernel) (by decide +kernel)
theorem g_56 : jG (Jvm.Cond.arrayClass Jvm.ClassFile.FieldType.long) := jG_of 121 (by decide +kernel) (by decide +kernel)
theorem g_33 : jG (Jvm.Cond.fieldLink "FactorDesk$Poly" (9 : Nat) "FactorDesk$Poly" "c" "[J") := jG_of 98 (by decide +kernel) (by decide +kernel)
theorem g_41 : jG (Jvm.Cond.fieldLink "FactorDesk$Poly" (15 : Nat) "FactorDesk$Poly" "degree" "I") := jG_of 106 (by decide +kernel) (by decide +kernel)
