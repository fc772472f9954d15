theorem iw_Poly : ∀ w ∈ u_ws R_Poly T_Poly 2, jG w := jG_ws i_Poly_e i_Poly_g
abbrev fs_Poly : List Value := [.null, .int 0]
theorem df_Poly : ∀ j, j < 2 → defaultValue (t_Poly j) = vp_V fs_Poly j := by decide +kernel
theorem iw_FList : ∀ w ∈ u_ws R_FList T_FList 3, jG w := jG_ws i_FList_e i_FList_g
abbrev fs_FList : List Value := [.null, .null, .int 0]
theorem df_FList : ∀ j, j < 3 → defaultValue (t_FList j) = vp_V fs_FList j := by decide +kernel
theorem iw_Divn : ∀ w ∈ u_ws R_Divn T_Divn 2, jG w := jG_ws i_Divn_e i_Divn_g
abbrev fs_Divn : List Value := [.null, .null]
theorem df_Divn : ∀ j, j < 2 → defaultValue (t_Divn j) = vp_V fs_Divn j := by decide +kernel
theorem iw_Resi : ∀ w ∈ u_ws R_Resi T_Resi 5, jG w := jG_ws i_Resi_e i_Resi_g
abbrev fs_Resi : List Value := [.null, .long 0, .int 0, .long 0, .int 0]
theorem df_Resi : ∀ j, j < 5 → defaultValue (t_Resi j) = vp_V fs_Resi j := by decide +kernel
theorem iw_CDiv : ∀ w ∈ u_ws R_CDiv T_CDiv 7, jG w := jG_ws i_CDiv_e i_CDiv_g
abbrev fs_CDiv : List Value := [.null, .null, .null, .null, .null, .null, .null]
theorem df_CDiv : ∀ j, j < 7 → defaultValue (t_CDiv j) = vp_V fs_CDiv j := by decide +kernel
theorem iw_MSpl : ∀ w ∈ u_ws R_MSpl T_MSpl 11, jG w := jG_ws i_MSpl_e i_MSpl_g
abbrev fs_MSpl : List Value := [.null, .null, .null, .int 0, .int 0, .int 0, .null, .null, .null, .null, .null]
theorem df_MSpl : ∀ j, j < 11 → defaultValue (t_MSpl j) = vp_V fs_MSpl j := by decide +kernel
theorem iw_Lift : ∀ w ∈ u_ws R_Lift T_Lift 11, jG w := jG_ws i_Lift_e i_Lift_g
abbrev fs_Lift : List Value := [.null, .null, .null, .null, .null, .null, .null, .null, .null, .null, .null]
theorem df_Lift : ∀ j, j < 11 → defaultValue (t_Lift j) = vp_V fs_Lift j := by decide +kernel
theorem iw_Splt : ∀ w ∈ u_ws R_Splt T_Splt 9, jG w := jG_ws i_Splt_e i_Splt_g
abbrev fs_Splt : List Value := [.null, .null, .null, .int 0, .null, .null, .null, .null, .null]
theorem df_Splt : ∀ j, j < 9 → defaultValue (t_Splt j) = vp_V fs_Splt j := by decide +kernel
theorem iw_Desk : ∀ w ∈ u_ws R_Desk T_Desk 10, jG w := jG_ws i_Desk_e i_Desk_g
abbrev fs_Desk : List Value := [.null, .int 0, .null, .null, .null, .null, .null, .null, .null, .null]
theorem df_Desk : ∀ j, j < 10 → defaultValue (t_Desk j) = vp_V fs_Desk j := by decide +kernel
theorem iw_Modl : ∀ w ∈ u_ws R_Modl T_Modl 35, jG w := jG_ws i_Modl_e i_Modl_g
abbrev fs_Modl : List Value := [.int 0, .null, .int 0, .null, .int 0, .null, .int 0, .int 0, .null, .null, .null, .int 0, .null, .null, .null, .int 0, .int 0, .null, .null, .null, .null, .null, .null, .long 0, .int 0, .null, .null, .null, .int 0, .long 0, .null, .null, .null, .null, .long 0]
theorem df_Modl : ∀ j, j < 35 → defaultValue (t_Modl j) = vp_V fs_Modl j := by decide +kernel
abbrev c_Poly_init : ByteArray := prog_7_method_1_code
abbrev y_Poly_init : MethodName := ⟨"FactorDesk$Poly", "<init>", "()V"⟩
theorem d_Poly_init_0 : decode c_Poly_init 0 = .ok (.aload_n 0, 1) := by decide +kernel
theorem d_Poly_init_1 : decode c_Poly_init 1 = .ok (.invokespecial 3, 3) := by decide +kernel
theorem d_Poly_init_4 : decode c_Poly_init 4 = .ok (.aload_n 0, 1) := by decide +kernel
theorem d_Poly_init_5 : decode c_Poly_init 5 = .ok (.bipush 13, 2) := by decide +kernel
theorem d_Poly_init_7 : decode c_Poly_init 7 = .ok (.newarray .long, 2) := by decide +kernel
theorem d_Poly_init_9 : decode c_Poly_init 9 = .ok (.putfield 9, 3) := by decide +kernel
theorem d_Poly_init_12 : decode c_Poly_init 12 = .ok (.aload_n 0, 1) := by decide +kernel
theorem d_Poly_init_13 : decode c_Poly_init 13 = .ok (.iconst (-1), 1) := by decide +kernel
theorem d_Poly_init_14 : decode c_Poly_init 14 = .ok (.putfield 15, 3) := by decide +kernel
theorem d_Poly_init_17 : decode c_Poly_init 17 = .ok (.return_, 1) := by decide +kernel
abbrev c_Divn_init : ByteArray := prog_3_method_1_code
abbrev y_Divn_init : MethodName := ⟨"FactorDesk$Division", "<init>", "()V"⟩
theorem d_Divn_init_0 : decode c_Divn_init 0 = .ok (.aload_n 0, 1) := by decide +kernel
theorem d_Divn_init_1 : decode c_Divn_init 1 = .ok (.invokespecial 3, 3) := by decide +kernel
theorem d_Divn_init_4 : decode c_Divn_init 4 = .ok (.aload_n 0, 1) := by decide +kernel
theorem d_Divn_init_5 : decode c_Divn_init 5 = .ok (.new 9, 3) := by decide +kernel
theorem d_Divn_init_8 : decode c_Divn_init 8 = .ok (.dup, 1) := by decide +kernel
theorem d_Divn_init_9 : decode c_Divn_init 9 = .ok (.invokespecial 11, 3) := by decide +kernel
theorem d_Divn_init_12 : decode c_Divn_init 12 = .ok (.putfield 12, 3) := by decide +kernel
theorem d_Divn_init_15 : decode c_Divn_init 15 = .ok (.aload_n 0, 1) := by decide +kernel
theorem d_Divn_init_16 : decode c_Divn_init 16 = .ok (.bipush 13, 2) := by decide +kernel
theorem d_Divn_init_18 : decode c_Divn_init 18 = .ok (.newarray .long, 2) := by decide +kernel
theorem d_Divn_init_20 : decode c_Divn_init 20 = .ok (.putfield 18, 3) := by decide +kernel
theorem d_Divn_init_23 : decode c_Divn_init 23 = .ok (.return_, 1) := by decide +kernel
abbrev c_Resi_init : ByteArray := prog_8_method_1_code
abbrev y_Resi_init : MethodName := ⟨"FactorDesk$Residues", "<init>", "()V"⟩
theorem d_Resi_init_0 : decode c_Resi_init 0 = .ok (.aload_n 0, 1) := by decide +kernel
theorem d_Resi_init_1 : decode c_Resi_init 1 = .ok (.invokespecial 3, 3) := by decide +kernel
theorem d_Resi_init_4 : decode c_Resi_init 4 = .ok (.aload_n 0, 1) := by decide +kernel
theorem d_Resi_init_5 : decode c_Resi_init 5 = .ok (.new 9, 3) := by decide +kernel
theorem d_Resi_init_8 : decode c_Resi_init 8 = .ok (.dup, 1) := by decide +kernel
theorem d_Resi_init_9 : decode c_Resi_init 9 = .ok (.invokespecial 11, 3) := by decide +kernel
theorem d_Resi_init_12 : decode c_Resi_init 12 = .ok (.putfield 12, 3) := by decide +kernel
theorem d_Resi_init_15 : decode c_Resi_init 15 = .ok (.aload_n 0, 1) := by decide +kernel
theorem d_Resi_init_16 : decode c_Resi_init 16 = .ok (.ldc2_w 18, 3) := by decide +kernel
theorem d_Resi_init_19 : decode c_Resi_init 19 = .ok (.putfield 20, 3) := by decide +kernel
theorem d_Resi_init_22 : decode c_Resi_init 22 = .ok (.aload_n 0, 1) := by decide +kernel
theorem d_Resi_init_23 : decode c_Resi_init 23 = .ok (.bipush 31, 2) := by decide +kernel
theorem d_Resi_init_25 : decode c_Resi_init 25 = .ok (.putfield 24, 3) := by decide +kernel
theorem d_Resi_init_28 : decode c_Resi_init 28 = .ok (.aload_n 0, 1) := by decide +kernel
theorem d_Resi_init_29 : decode c_Resi_init 29 = .ok (.ldc2_w 28, 3) := by decide +kernel
theorem d_Resi_init_32 : decode c_Resi_init 32 = .ok (.putfield 30, 3) := by decide +kernel
theorem d_Resi_init_35 : decode c_Resi_init 35 = .ok (.aload_n 0, 1) := by decide +kernel
theorem d_Resi_init_36 : decode c_Resi_init 36 = .ok (.iconst 1, 1) := by decide +kernel
theorem d_Resi_init_37 : decode c_Resi_init 37 = .ok (.putfield 33, 3) := by decide +kernel
theorem d_Resi_init_40 : decode c_Resi_init 40 = .ok (.return_, 1) := by decide +kernel
abbrev c_CDiv_init : ByteArray := prog_2_method_1_code
abbrev y_CDiv_init : MethodName := ⟨"FactorDesk$CommonDivisor", "<init>", "()V"⟩
theorem d_CDiv_init_0 : decode c_CDiv_init 0 = .ok (.aload_n 0, 1) := by decide +kernel
theorem d_CDiv_init_1 : decode c_CDiv_init 1 = .ok (.invokespecial 1, 3) := by decide +kernel
theorem d_CDiv_init_4 : decode c_CDiv_init 4 = .ok (.aload_n 0, 1) := by decide +kernel
theorem d_CDiv_init_5 : decode c_CDiv_init 5 = .ok (.new 7, 3) := by decide +kernel
theorem d_CDiv_init_8 : decode c_CDiv_init 8 = .ok (.dup, 1) := by decide +kernel
theorem d_CDiv_init_9 : decode c_CDiv_init 9 = .ok (.invokespecial 9, 3) := by decide +kernel
theorem d_CDiv_init_12 : decode c_CDiv_init 12 = .ok (.putfield 10, 3) := by decide +kernel
theorem d_CDiv_init_15 : decode c_CDiv_init 15 = .ok (.aload_n 0, 1) := by decide +kernel
theorem d_CDiv_init_16 : decode c_CDiv_init 16 = .ok (.new 16, 3) := by decide +kernel
theorem d_CDiv_init_19 : decode c_CDiv_init 19 = .ok (.dup, 1) := by decide +kernel
theorem d_CDiv_init_20 : decode c_CDiv_init 20 = .ok (.invokespecial 18, 3) := by decide +kernel
theorem d_CDiv_init_23 : decode c_CDiv_init 23 = .ok (.putfield 19, 3) := by decide +kernel
theorem d_CDiv_init_26 : decode c_CDiv_init 26 = .ok (.aload_n 0, 1) := by decide +kernel
theorem d_CDiv_init_27 : decode c_CDiv_init 27 = .ok (.new 23, 3) := by decide +kernel
theorem d_CDiv_init_30 : decode c_CDiv_init 30 = .ok (.dup, 1) := by decide +kernel
theorem d_CDiv_init_31 : decode c_CDiv_init 31 = .ok (.invokespecial 25, 3) := by decide +kernel
theorem d_CDiv_init_34 : decode c_CDiv_init 34 = .ok (.putfield 26, 3) := by decide +kernel
theorem d_CDiv_init_37 : decode c_CDiv_init 37 = .ok (.aload_n 0, 1) := by decide +kernel
theorem d_CDiv_init_38 : decode c_CDiv_init 38 = .ok (.new 23, 3) := by decide +kernel
theorem d_CDiv_init_41 : decode c_CDiv_init 41 = .ok (.dup, 1) := by decide +kernel
theorem d_CDiv_init_42 : decode c_CDiv_init 42 = .ok (.invokespecial 25, 3) := by decide +kernel
theorem d_CDiv_init_45 : decode c_CDiv_init 45 = .ok (.putfield 30, 3) := by decide +kernel
theorem d_CDiv_init_48 : decode c_CDiv_init 48 = .ok (.aload_n 0, 1) := by decide +kernel
theorem d_CDiv_init_49 : decode c_CDiv_init 49 = .ok (.new 23, 3) := by decide +kernel
theorem d_CDiv_init_52 : decode c_CDiv_init 52 = .ok (.dup, 1) := by decide +kernel
theorem d_CDiv_init_53 : decode c_CDiv_init 53 = .ok (.invokespecial 25, 3) := by decide +kernel
theorem d_CDiv_init_56 : decode c_CDiv_init 56 = .ok (.putfield 33, 3) := by decide +kernel
theorem d_CDiv_init_59 : decode c_CDiv_init 59 = .ok (.aload_n 0, 1) := by decide +kernel
theorem d_CDiv_init_60 : decode c_CDiv_init 60 = .ok (.new 23, 3) := by decide +kernel
theorem d_CDiv_init_63 : decode c_CDiv_init 63 = .ok (.dup, 1) := by decide +kernel
theorem d_CDiv_init_64 : decode c_CDiv_init 64 = .ok (.invokespecial 25, 3) := by decide +kernel
theorem d_CDiv_init_67 : decode c_CDiv_init 67 = .ok (.putfield 36, 3) := by decide +kernel
theorem d_CDiv_init_70 : decode c_CDiv_init 70 = .ok (.aload_n 0, 1) := by decide +kernel
theorem d_CDiv_init_71 : decode c_CDiv_init 71 = .ok (.new 23, 3) := by decide +kernel
theorem d_CDiv_init_74 : decode c_CDiv_init 74 = .ok (.dup, 1) := by decide +kernel
theorem d_CDiv_init_75 : decode c_CDiv_init 75 = .ok (.invokespecial 25, 3) := by decide +kernel
theorem d_CDiv_init_78 : decode c_CDiv_init 78 = .ok (.putfield 39, 3) := by decide +kernel
theorem d_CDiv_init_81 : decode c_CDiv_init 81 = .ok (.return_, 1) := by decide +kernel
abbrev c_FList_init : ByteArray := prog_4_method_1_code
abbrev y_FList_init : MethodName := ⟨"FactorDesk$FactorList", "<init>", "()V"⟩
theorem d_FList_init_0 : decode c_FList_init 0 = .ok (.aload_n 0, 1) := by decide +kernel
theorem d_FList_init_1 : decode c_FList_init 1 = .ok (.invokespecial 3, 3) := by decide +kernel
theorem d_FList_init_4 : decode c_FList_init 4 = .ok (.aload_n 0, 1) := by decide +kernel
theorem d_FList_init_5 : decode c_FList_init 5 = .ok (.bipush 12, 2) := by decide +kernel
theorem d_FList_init_7 : decode c_FList_init 7 = .ok (.anewarray 9, 3) := by decide +kernel
theorem d_FList_init_10 : decode c_FList_init 10 = .ok (.putfield 11, 3) := by decide +kernel
theorem d_FList_init_13 : decode c_FList_init 13 = .ok (.iconst 0, 1) := by decide +kernel
theorem d_FList_init_14 : decode c_FList_init 14 = .ok (.istore_n 1, 1) := by decide +kernel
theorem d_FList_init_15 : decode c_FList_init 15 = .ok (.iload_n 1, 1) := by decide +kernel
theorem d_FList_init_16 : decode c_FList_init 16 = .ok (.bipush 12, 2) := by decide +kernel
theorem d_FList_init_18 : decode c_FList_init 18 = .ok (.if_icmp .ge 22, 3) := by decide +kernel
theorem d_FList_init_21 : decode c_FList_init 21 = .ok (.aload_n 0, 1) := by decide +kernel
theorem d_FList_init_22 : decode c_FList_init 22 = .ok (.getfield 11, 3) := by decide +kernel
theorem d_FList_init_25 : decode c_FList_init 25 = .ok (.iload_n 1, 1) := by decide +kernel
theorem d_FList_init_26 : decode c_FList_init 26 = .ok (.new 9, 3) := by decide +kernel
theorem d_FList_init_29 : decode c_FList_init 29 = .ok (.dup, 1) := by decide +kernel
theorem d_FList_init_30 : decode c_FList_init 30 = .ok (.invokespecial 17, 3) := by decide +kernel
theorem d_FList_init_33 : decode c_FList_init 33 = .ok (.aastore, 1) := by decide +kernel
theorem d_FList_init_34 : decode c_FList_init 34 = .ok (.iinc 1 1, 3) := by decide +kernel
theorem d_FList_init_37 : decode c_FList_init 37 = .ok (.goto (-22), 3) := by decide +kernel
theorem d_FList_init_40 : decode c_FList_init 40 = .ok (.aload_n 0, 1) := by decide +kernel
theorem d_FList_init_41 : decode c_FList_init 41 = .ok (.bipush 12, 2) := by decide +kernel
theorem d_FList_init_43 : decode c_FList_init 43 = .ok (.newarray .int, 2) := by decide +kernel
theorem d_FList_init_45 : decode c_FList_init 45 = .ok (.putfield 18, 3) := by decide +kernel
theorem d_FList_init_48 : decode c_FList_init 48 = .ok (.aload_n 0, 1) := by decide +kernel
theorem d_FList_init_49 : decode c_FList_init 49 = .ok (.iconst 0, 1) := by decide +kernel
theorem d_FList_init_50 : decode c_FList_init 50 = .ok (.putfield 22, 3) := by decide +kernel
theorem d_FList_init_53 : decode c_FList_init 53 = .ok (.return_, 1) := by decide +kernel
abbrev c_MSpl_init : ByteArray := prog_6_method_1_code
abbrev y_MSpl_init : MethodName := ⟨"FactorDesk$ModularSplit", "<init>", "()V"⟩
theorem d_MSpl_init_0 : decode c_MSpl_init 0 = .ok (.aload_n 0, 1) := by decide +kernel
theorem d_MSpl_init_1 : decode c_MSpl_init 1 = .ok (.invokespecial 3, 3) := by decide +kernel
theorem d_MSpl_init_4 : decode c_MSpl_init 4 = .ok (.aload_n 0, 1) := by decide +kernel
theorem d_MSpl_init_5 : decode c_MSpl_init 5 = .ok (.new 9, 3) := by decide +kernel
theorem d_MSpl_init_8 : decode c_MSpl_init 8 = .ok (.dup, 1) := by decide +kernel
theorem d_MSpl_init_9 : decode c_MSpl_init 9 = .ok (.invokespecial 11, 3) := by decide +kernel
theorem d_MSpl_init_12 : decode c_MSpl_init 12 = .ok (.putfield 12, 3) := by decide +kernel
theorem d_MSpl_init_15 : decode c_MSpl_init 15 = .ok (.aload_n 0, 1) := by decide +kernel
theorem d_MSpl_init_16 : decode c_MSpl_init 16 = .ok (.bipush 12, 2) := by decide +kernel
theorem d_MSpl_init_18 : decode c_MSpl_init 18 = .ok (.anewarray 18, 3) := by decide +kernel
theorem d_MSpl_init_21 : decode c_MSpl_init 21 = .ok (.putfield 20, 3) := by decide +kernel
theorem d_MSpl_init_24 : decode c_MSpl_init 24 = .ok (.iconst 0, 1) := by decide +kernel
theorem d_MSpl_init_25 : decode c_MSpl_init 25 = .ok (.istore_n 1, 1) := by decide +kernel
theorem d_MSpl_init_26 : decode c_MSpl_init 26 = .ok (.iload_n 1, 1) := by decide +kernel
theorem d_MSpl_init_27 : decode c_MSpl_init 27 = .ok (.bipush 12, 2) := by decide +kernel
theorem d_MSpl_init_29 : decode c_MSpl_init 29 = .ok (.if_icmp .ge 22, 3) := by decide +kernel
theorem d_MSpl_init_32 : decode c_MSpl_init 32 = .ok (.aload_n 0, 1) := by decide +kernel
theorem d_MSpl_init_33 : decode c_MSpl_init 33 = .ok (.getfield 20, 3) := by decide +kernel
theorem d_MSpl_init_36 : decode c_MSpl_init 36 = .ok (.iload_n 1, 1) := by decide +kernel
theorem d_MSpl_init_37 : decode c_MSpl_init 37 = .ok (.new 18, 3) := by decide +kernel
theorem d_MSpl_init_40 : decode c_MSpl_init 40 = .ok (.dup, 1) := by decide +kernel
theorem d_MSpl_init_41 : decode c_MSpl_init 41 = .ok (.invokespecial 24, 3) := by decide +kernel
theorem d_MSpl_init_44 : decode c_MSpl_init 44 = .ok (.aastore, 1) := by decide +kernel
theorem d_MSpl_init_45 : decode c_MSpl_init 45 = .ok (.iinc 1 1, 3) := by decide +kernel
theorem d_MSpl_init_48 : decode c_MSpl_init 48 = .ok (.goto (-22), 3) := by decide +kernel
theorem d_MSpl_init_51 : decode c_MSpl_init 51 = .ok (.aload_n 0, 1) := by decide +kernel
theorem d_MSpl_init_52 : decode c_MSpl_init 52 = .ok (.new 18, 3) := by decide +kernel
theorem d_MSpl_init_55 : decode c_MSpl_init 55 = .ok (.dup, 1) := by decide +kernel
theorem d_MSpl_init_56 : decode c_MSpl_init 56 = .ok (.invokespecial 24, 3) := by decide +kernel
theorem d_MSpl_init_59 : decode c_MSpl_init 59 = .ok (.putfield 25, 3) := by decide +kernel
theorem d_MSpl_init_62 : decode c_MSpl_init 62 = .ok (.aload_n 0, 1) := by decide +kernel
theorem d_MSpl_init_63 : decode c_MSpl_init 63 = .ok (.bipush 12, 2) := by decide +kernel
theorem d_MSpl_init_65 : decode c_MSpl_init 65 = .ok (.bipush 12, 2) := by decide +kernel
theorem d_MSpl_init_67 : decode c_MSpl_init 67 = .ok (.multianewarray 29 2, 4) := by decide +kernel
theorem d_MSpl_init_71 : decode c_MSpl_init 71 = .ok (.putfield 31, 3) := by decide +kernel
theorem d_MSpl_init_74 : decode c_MSpl_init 74 = .ok (.aload_n 0, 1) := by decide +kernel
theorem d_MSpl_init_75 : decode c_MSpl_init 75 = .ok (.bipush 12, 2) := by decide +kernel
theorem d_MSpl_init_77 : decode c_MSpl_init 77 = .ok (.newarray .int, 2) := by decide +kernel
theorem d_MSpl_init_79 : decode c_MSpl_init 79 = .ok (.putfield 34, 3) := by decide +kernel
theorem d_MSpl_init_82 : decode c_MSpl_init 82 = .ok (.aload_n 0, 1) := by decide +kernel
theorem d_MSpl_init_83 : decode c_MSpl_init 83 = .ok (.new 18, 3) := by decide +kernel
theorem d_MSpl_init_86 : decode c_MSpl_init 86 = .ok (.dup, 1) := by decide +kernel
theorem d_MSpl_init_87 : decode c_MSpl_init 87 = .ok (.invokespecial 24, 3) := by decide +kernel
theorem d_MSpl_init_90 : decode c_MSpl_init 90 = .ok (.putfield 38, 3) := by decide +kernel
theorem d_MSpl_init_93 : decode c_MSpl_init 93 = .ok (.aload_n 0, 1) := by decide +kernel
theorem d_MSpl_init_94 : decode c_MSpl_init 94 = .ok (.new 18, 3) := by decide +kernel
theorem d_MSpl_init_97 : decode c_MSpl_init 97 = .ok (.dup, 1) := by decide +kernel
theorem d_MSpl_init_98 : decode c_MSpl_init 98 = .ok (.invokespecial 24, 3) := by decide +kernel
theorem d_MSpl_init_101 : decode c_MSpl_init 101 = .ok (.putfield 41, 3) := by decide +kernel
theorem d_MSpl_init_104 : decode c_MSpl_init 104 = .ok (.aload_n 0, 1) := by decide +kernel
theorem d_MSpl_init_105 : decode c_MSpl_init 105 = .ok (.new 18, 3) := by decide +kernel
theorem d_MSpl_init_108 : decode c_MSpl_init 108 = .ok (.dup, 1) := by decide +kernel
theorem d_MSpl_init_109 : decode c_MSpl_init 109 = .ok (.invokespecial 24, 3) := by decide +kernel
theorem d_MSpl_init_112 : decode c_MSpl_init 112 = .ok (.putfield 44, 3) := by decide +kernel
theorem d_MSpl_init_115 : decode c_MSpl_init 115 = .ok (.return_, 1) := by decide +kernel
abbrev c_Lift_init : ByteArray := prog_5_method_1_code
abbrev y_Lift_init : MethodName := ⟨"FactorDesk$Lift", "<init>", "()V"⟩
theorem d_Lift_init_0 : decode c_Lift_init 0 = .ok (.aload_n 0, 1) := by decide +kernel
theorem d_Lift_init_1 : decode c_Lift_init 1 = .ok (.invokespecial 3, 3) := by decide +kernel
theorem d_Lift_init_4 : decode c_Lift_init 4 = .ok (.aload_n 0, 1) := by decide +kernel
theorem d_Lift_init_5 : decode c_Lift_init 5 = .ok (.new 9, 3) := by decide +kernel
theorem d_Lift_init_8 : decode c_Lift_init 8 = .ok (.dup, 1) := by decide +kernel
theorem d_Lift_init_9 : decode c_Lift_init 9 = .ok (.invokespecial 11, 3) := by decide +kernel
theorem d_Lift_init_12 : decode c_Lift_init 12 = .ok (.putfield 12, 3) := by decide +kernel
theorem d_Lift_init_15 : decode c_Lift_init 15 = .ok (.aload_n 0, 1) := by decide +kernel
theorem d_Lift_init_16 : decode c_Lift_init 16 = .ok (.new 18, 3) := by decide +kernel
theorem d_Lift_init_19 : decode c_Lift_init 19 = .ok (.dup, 1) := by decide +kernel
theorem d_Lift_init_20 : decode c_Lift_init 20 = .ok (.invokespecial 20, 3) := by decide +kernel
theorem d_Lift_init_23 : decode c_Lift_init 23 = .ok (.putfield 21, 3) := by decide +kernel
theorem d_Lift_init_26 : decode c_Lift_init 26 = .ok (.aload_n 0, 1) := by decide +kernel
theorem d_Lift_init_27 : decode c_Lift_init 27 = .ok (.bipush 12, 2) := by decide +kernel
theorem d_Lift_init_29 : decode c_Lift_init 29 = .ok (.anewarray 25, 3) := by decide +kernel
theorem d_Lift_init_32 : decode c_Lift_init 32 = .ok (.putfield 27, 3) := by decide +kernel
theorem d_Lift_init_35 : decode c_Lift_init 35 = .ok (.aload_n 0, 1) := by decide +kernel
theorem d_Lift_init_36 : decode c_Lift_init 36 = .ok (.bipush 12, 2) := by decide +kernel
theorem d_Lift_init_38 : decode c_Lift_init 38 = .ok (.anewarray 25, 3) := by decide +kernel
theorem d_Lift_init_41 : decode c_Lift_init 41 = .ok (.putfield 31, 3) := by decide +kernel
theorem d_Lift_init_44 : decode c_Lift_init 44 = .ok (.iconst 0, 1) := by decide +kernel
theorem d_Lift_init_45 : decode c_Lift_init 45 = .ok (.istore_n 1, 1) := by decide +kernel
theorem d_Lift_init_46 : decode c_Lift_init 46 = .ok (.iload_n 1, 1) := by decide +kernel
theorem d_Lift_init_47 : decode c_Lift_init 47 = .ok (.bipush 12, 2) := by decide +kernel
theorem d_Lift_init_49 : decode c_Lift_init 49 = .ok (.if_icmp .ge 35, 3) := by decide +kernel
theorem d_Lift_init_52 : decode c_Lift_init 52 = .ok (.aload_n 0, 1) := by decide +kernel
theorem d_Lift_init_53 : decode c_Lift_init 53 = .ok (.getfield 27, 3) := by decide +kernel
theorem d_Lift_init_56 : decode c_Lift_init 56 = .ok (.iload_n 1, 1) := by decide +kernel
theorem d_Lift_init_57 : decode c_Lift_init 57 = .ok (.new 25, 3) := by decide +kernel
theorem d_Lift_init_60 : decode c_Lift_init 60 = .ok (.dup, 1) := by decide +kernel
theorem d_Lift_init_61 : decode c_Lift_init 61 = .ok (.invokespecial 34, 3) := by decide +kernel
theorem d_Lift_init_64 : decode c_Lift_init 64 = .ok (.aastore, 1) := by decide +kernel
theorem d_Lift_init_65 : decode c_Lift_init 65 = .ok (.aload_n 0, 1) := by decide +kernel
theorem d_Lift_init_66 : decode c_Lift_init 66 = .ok (.getfield 31, 3) := by decide +kernel
theorem d_Lift_init_69 : decode c_Lift_init 69 = .ok (.iload_n 1, 1) := by decide +kernel
theorem d_Lift_init_70 : decode c_Lift_init 70 = .ok (.new 25, 3) := by decide +kernel
theorem d_Lift_init_73 : decode c_Lift_init 73 = .ok (.dup, 1) := by decide +kernel
theorem d_Lift_init_74 : decode c_Lift_init 74 = .ok (.invokespecial 34, 3) := by decide +kernel
theorem d_Lift_init_77 : decode c_Lift_init 77 = .ok (.aastore, 1) := by decide +kernel
theorem d_Lift_init_78 : decode c_Lift_init 78 = .ok (.iinc 1 1, 3) := by decide +kernel
theorem d_Lift_init_81 : decode c_Lift_init 81 = .ok (.goto (-35), 3) := by decide +kernel
theorem d_Lift_init_84 : decode c_Lift_init 84 = .ok (.aload_n 0, 1) := by decide +kernel
theorem d_Lift_init_85 : decode c_Lift_init 85 = .ok (.new 25, 3) := by decide +kernel
theorem d_Lift_init_88 : decode c_Lift_init 88 = .ok (.dup, 1) := by decide +kernel
theorem d_Lift_init_89 : decode c_Lift_init 89 = .ok (.invokespecial 34, 3) := by decide +kernel
theorem d_Lift_init_92 : decode c_Lift_init 92 = .ok (.putfield 35, 3) := by decide +kernel
theorem d_Lift_init_95 : decode c_Lift_init 95 = .ok (.aload_n 0, 1) := by decide +kernel
theorem d_Lift_init_96 : decode c_Lift_init 96 = .ok (.new 25, 3) := by decide +kernel
theorem d_Lift_init_99 : decode c_Lift_init 99 = .ok (.dup, 1) := by decide +kernel
theorem d_Lift_init_100 : decode c_Lift_init 100 = .ok (.invokespecial 34, 3) := by decide +kernel
theorem d_Lift_init_103 : decode c_Lift_init 103 = .ok (.putfield 39, 3) := by decide +kernel
theorem d_Lift_init_106 : decode c_Lift_init 106 = .ok (.aload_n 0, 1) := by decide +kernel
theorem d_Lift_init_107 : decode c_Lift_init 107 = .ok (.new 25, 3) := by decide +kernel
theorem d_Lift_init_110 : decode c_Lift_init 110 = .ok (.dup, 1) := by decide +kernel
theorem d_Lift_init_111 : decode c_Lift_init 111 = .ok (.invokespecial 34, 3) := by decide +kernel
theorem d_Lift_init_114 : decode c_Lift_init 114 = .ok (.putfield 42, 3) := by decide +kernel
theorem d_Lift_init_117 : decode c_Lift_init 117 = .ok (.aload_n 0, 1) := by decide +kernel
theorem d_Lift_init_118 : decode c_Lift_init 118 = .ok (.new 25, 3) := by decide +kernel
theorem d_Lift_init_121 : decode c_Lift_init 121 = .ok (.dup, 1) := by decide +kernel
theorem d_Lift_init_122 : decode c_Lift_init 122 = .ok (.invokespecial 34, 3) := by decide +kernel
theorem d_Lift_init_125 : decode c_Lift_init 125 = .ok (.putfield 45, 3) := by decide +kernel
theorem d_Lift_init_128 : decode c_Lift_init 128 = .ok (.aload_n 0, 1) := by decide +kernel
theorem d_Lift_init_129 : decode c_Lift_init 129 = .ok (.new 25, 3) := by decide +kernel
theorem d_Lift_init_132 : decode c_Lift_init 132 = .ok (.dup, 1) := by decide +kernel
theorem d_Lift_init_133 : decode c_Lift_init 133 = .ok (.invokespecial 34, 3) := by decide +kernel
theorem d_Lift_init_136 : decode c_Lift_init 136 = .ok (.putfield 48, 3) := by decide +kernel
theorem d_Lift_init_139 : decode c_Lift_init 139 = .ok (.aload_n 0, 1) := by decide +kernel
theorem d_Lift_init_140 : decode c_Lift_init 140 = .ok (.new 25, 3) := by decide +kernel
theorem d_Lift_init_143 : decode c_Lift_init 143 = .ok (.dup, 1) := by decide +kernel
theorem d_Lift_init_144 : decode c_Lift_init 144 = .ok (.invokespecial 34, 3) := by decide +kernel
theorem d_Lift_init_147 : decode c_Lift_init 147 = .ok (.putfield 51, 3) := by decide +kernel
theorem d_Lift_init_150 : decode c_Lift_init 150 = .ok (.aload_n 0, 1) := by decide +kernel
theorem d_Lift_init_151 : decode c_Lift_init 151 = .ok (.new 25, 3) := by decide +kernel
theorem d_Lift_init_154 : decode c_Lift_init 154 = .ok (.dup, 1) := by decide +kernel
theorem d_Lift_init_155 : decode c_Lift_init 155 = .ok (.invokespecial 34, 3) := by decide +kernel
theorem d_Lift_init_158 : decode c_Lift_init 158 = .ok (.putfield 54, 3) := by decide +kernel
theorem d_Lift_init_161 : decode c_Lift_init 161 = .ok (.return_, 1) := by decide +kernel
abbrev c_Splt_init : ByteArray := prog_9_method_1_code
abbrev y_Splt_init : MethodName := ⟨"FactorDesk$Splitter", "<init>", "()V"⟩
theorem d_Splt_init_0 : decode c_Splt_init 0 = .ok (.aload_n 0, 1) := by decide +kernel
theorem d_Splt_init_1 : decode c_Splt_init 1 = .ok (.invokespecial 3, 3) := by decide +kernel
theorem d_Splt_init_4 : decode c_Splt_init 4 = .ok (.aload_n 0, 1) := by decide +kernel
theorem d_Splt_init_5 : decode c_Splt_init 5 = .ok (.new 9, 3) := by decide +kernel
theorem d_Splt_init_8 : decode c_Splt_init 8 = .ok (.dup, 1) := by decide +kernel
theorem d_Splt_init_9 : decode c_Splt_init 9 = .ok (.invokespecial 11, 3) := by decide +kernel
theorem d_Splt_init_12 : decode c_Splt_init 12 = .ok (.putfield 12, 3) := by decide +kernel
theorem d_Splt_init_15 : decode c_Splt_init 15 = .ok (.aload_n 0, 1) := by decide +kernel
theorem d_Splt_init_16 : decode c_Splt_init 16 = .ok (.new 18, 3) := by decide +kernel
theorem d_Splt_init_19 : decode c_Splt_init 19 = .ok (.dup, 1) := by decide +kernel
theorem d_Splt_init_20 : decode c_Splt_init 20 = .ok (.invokespecial 20, 3) := by decide +kernel
theorem d_Splt_init_23 : decode c_Splt_init 23 = .ok (.putfield 21, 3) := by decide +kernel
theorem d_Splt_init_26 : decode c_Splt_init 26 = .ok (.aload_n 0, 1) := by decide +kernel
theorem d_Splt_init_27 : decode c_Splt_init 27 = .ok (.aload_n 0, 1) := by decide +kernel
theorem d_Splt_init_28 : decode c_Splt_init 28 = .ok (.getfield 21, 3) := by decide +kernel
theorem d_Splt_init_31 : decode c_Splt_init 31 = .ok (.getfield 25, 3) := by decide +kernel
theorem d_Splt_init_34 : decode c_Splt_init 34 = .ok (.putfield 29, 3) := by decide +kernel
theorem d_Splt_init_37 : decode c_Splt_init 37 = .ok (.aload_n 0, 1) := by decide +kernel
theorem d_Splt_init_38 : decode c_Splt_init 38 = .ok (.iconst 0, 1) := by decide +kernel
theorem d_Splt_init_39 : decode c_Splt_init 39 = .ok (.putfield 30, 3) := by decide +kernel
theorem d_Splt_init_42 : decode c_Splt_init 42 = .ok (.aload_n 0, 1) := by decide +kernel
theorem d_Splt_init_43 : decode c_Splt_init 43 = .ok (.new 34, 3) := by decide +kernel
theorem d_Splt_init_46 : decode c_Splt_init 46 = .ok (.dup, 1) := by decide +kernel
theorem d_Splt_init_47 : decode c_Splt_init 47 = .ok (.invokespecial 36, 3) := by decide +kernel
theorem d_Splt_init_50 : decode c_Splt_init 50 = .ok (.putfield 37, 3) := by decide +kernel
theorem d_Splt_init_53 : decode c_Splt_init 53 = .ok (.aload_n 0, 1) := by decide +kernel
theorem d_Splt_init_54 : decode c_Splt_init 54 = .ok (.aload_n 0, 1) := by decide +kernel
theorem d_Splt_init_55 : decode c_Splt_init 55 = .ok (.getfield 37, 3) := by decide +kernel
theorem d_Splt_init_58 : decode c_Splt_init 58 = .ok (.getfield 41, 3) := by decide +kernel
theorem d_Splt_init_61 : decode c_Splt_init 61 = .ok (.putfield 45, 3) := by decide +kernel
theorem d_Splt_init_64 : decode c_Splt_init 64 = .ok (.aload_n 0, 1) := by decide +kernel
theorem d_Splt_init_65 : decode c_Splt_init 65 = .ok (.new 48, 3) := by decide +kernel
theorem d_Splt_init_68 : decode c_Splt_init 68 = .ok (.dup, 1) := by decide +kernel
theorem d_Splt_init_69 : decode c_Splt_init 69 = .ok (.invokespecial 50, 3) := by decide +kernel
theorem d_Splt_init_72 : decode c_Splt_init 72 = .ok (.putfield 51, 3) := by decide +kernel
theorem d_Splt_init_75 : decode c_Splt_init 75 = .ok (.aload_n 0, 1) := by decide +kernel
theorem d_Splt_init_76 : decode c_Splt_init 76 = .ok (.new 48, 3) := by decide +kernel
theorem d_Splt_init_79 : decode c_Splt_init 79 = .ok (.dup, 1) := by decide +kernel
theorem d_Splt_init_80 : decode c_Splt_init 80 = .ok (.invokespecial 50, 3) := by decide +kernel
theorem d_Splt_init_83 : decode c_Splt_init 83 = .ok (.putfield 55, 3) := by decide +kernel
theorem d_Splt_init_86 : decode c_Splt_init 86 = .ok (.aload_n 0, 1) := by decide +kernel
theorem d_Splt_init_87 : decode c_Splt_init 87 = .ok (.new 48, 3) := by decide +kernel
theorem d_Splt_init_90 : decode c_Splt_init 90 = .ok (.dup, 1) := by decide +kernel
theorem d_Splt_init_91 : decode c_Splt_init 91 = .ok (.invokespecial 50, 3) := by decide +kernel
theorem d_Splt_init_94 : decode c_Splt_init 94 = .ok (.putfield 58, 3) := by decide +kernel
theorem d_Splt_init_97 : decode c_Splt_init 97 = .ok (.return_, 1) := by decide +kernel
abbrev c_Poly_setNumber : ByteArray := prog_7_method_3_code
abbrev y_Poly_setNumber : MethodName := ⟨"FactorDesk$Poly", "setNumber", "(J)V"⟩
theorem d_Poly_setNumber_0 : decode c_Poly_setNumber 0 = .ok (.iconst 0, 1) := by decide +kernel
theorem d_Poly_setNumber_1 : decode c_Poly_setNumber 1 = .ok (.istore_n 3, 1) := by decide +kernel
theorem d_Poly_setNumber_2 : decode c_Poly_setNumber 2 = .ok (.iload_n 3, 1) := by decide +kernel
theorem d_Poly_setNumber_3 : decode c_Poly_setNumber 3 = .ok (.bipush 12, 2) := by decide +kernel
theorem d_Poly_setNumber_5 : decode c_Poly_setNumber 5 = .ok (.if_icmp .gt 16, 3) := by decide +kernel
theorem d_Poly_setNumber_8 : decode c_Poly_setNumber 8 = .ok (.aload_n 0, 1) := by decide +kernel
theorem d_Poly_setNumber_9 : decode c_Poly_setNumber 9 = .ok (.getfield 9, 3) := by decide +kernel
theorem d_Poly_setNumber_12 : decode c_Poly_setNumber 12 = .ok (.iload_n 3, 1) := by decide +kernel
theorem d_Poly_setNumber_13 : decode c_Poly_setNumber 13 = .ok (.lconst 0, 1) := by decide +kernel
theorem d_Poly_setNumber_14 : decode c_Poly_setNumber 14 = .ok (.lastore, 1) := by decide +kernel
theorem d_Poly_setNumber_15 : decode c_Poly_setNumber 15 = .ok (.iinc 3 1, 3) := by decide +kernel
theorem d_Poly_setNumber_18 : decode c_Poly_setNumber 18 = .ok (.goto (-16), 3) := by decide +kernel
theorem d_Poly_setNumber_21 : decode c_Poly_setNumber 21 = .ok (.aload_n 0, 1) := by decide +kernel
theorem d_Poly_setNumber_22 : decode c_Poly_setNumber 22 = .ok (.getfield 9, 3) := by decide +kernel
theorem d_Poly_setNumber_25 : decode c_Poly_setNumber 25 = .ok (.iconst 0, 1) := by decide +kernel
theorem d_Poly_setNumber_26 : decode c_Poly_setNumber 26 = .ok (.lload_n 1, 1) := by decide +kernel
theorem d_Poly_setNumber_27 : decode c_Poly_setNumber 27 = .ok (.lastore, 1) := by decide +kernel
theorem d_Poly_setNumber_28 : decode c_Poly_setNumber 28 = .ok (.aload_n 0, 1) := by decide +kernel
theorem d_Poly_setNumber_29 : decode c_Poly_setNumber 29 = .ok (.lload_n 1, 1) := by decide +kernel
theorem d_Poly_setNumber_30 : decode c_Poly_setNumber 30 = .ok (.lconst 0, 1) := by decide +kernel
theorem d_Poly_setNumber_31 : decode c_Poly_setNumber 31 = .ok (.lcmp, 1) := by decide +kernel
theorem d_Poly_setNumber_32 : decode c_Poly_setNumber 32 = .ok (.ifCond .ne 7, 3) := by decide +kernel
theorem d_Poly_setNumber_35 : decode c_Poly_setNumber 35 = .ok (.iconst (-1), 1) := by decide +kernel
theorem d_Poly_setNumber_36 : decode c_Poly_setNumber 36 = .ok (.goto 4, 3) := by decide +kernel
theorem d_Poly_setNumber_39 : decode c_Poly_setNumber 39 = .ok (.iconst 0, 1) := by decide +kernel
theorem d_Poly_setNumber_40 : decode c_Poly_setNumber 40 = .ok (.putfield 15, 3) := by decide +kernel
theorem d_Poly_setNumber_43 : decode c_Poly_setNumber 43 = .ok (.return_, 1) := by decide +kernel
abbrev c_Desk_init : ByteArray := prog_1_method_1_code
abbrev y_Desk_init : MethodName := ⟨"FactorDesk", "<init>", "()V"⟩
theorem d_Desk_init_0 : decode c_Desk_init 0 = .ok (.aload_n 0, 1) := by decide +kernel
theorem d_Desk_init_1 : decode c_Desk_init 1 = .ok (.invokespecial 3, 3) := by decide +kernel
theorem d_Desk_init_4 : decode c_Desk_init 4 = .ok (.aload_n 0, 1) := by decide +kernel
theorem d_Desk_init_5 : decode c_Desk_init 5 = .ok (.bipush 13, 2) := by decide +kernel
theorem d_Desk_init_7 : decode c_Desk_init 7 = .ok (.newarray .int, 2) := by decide +kernel
theorem d_Desk_init_9 : decode c_Desk_init 9 = .ok (.putfield 9, 3) := by decide +kernel
theorem d_Desk_init_12 : decode c_Desk_init 12 = .ok (.aload_n 0, 1) := by decide +kernel
theorem d_Desk_init_13 : decode c_Desk_init 13 = .ok (.iconst 0, 1) := by decide +kernel
theorem d_Desk_init_14 : decode c_Desk_init 14 = .ok (.putfield 13, 3) := by decide +kernel
theorem d_Desk_init_17 : decode c_Desk_init 17 = .ok (.aload_n 0, 1) := by decide +kernel
theorem d_Desk_init_18 : decode c_Desk_init 18 = .ok (.new 17, 3) := by decide +kernel
theorem d_Desk_init_21 : decode c_Desk_init 21 = .ok (.dup, 1) := by decide +kernel
theorem d_Desk_init_22 : decode c_Desk_init 22 = .ok (.invokespecial 19, 3) := by decide +kernel
theorem d_Desk_init_25 : decode c_Desk_init 25 = .ok (.putfield 20, 3) := by decide +kernel
theorem d_Desk_init_28 : decode c_Desk_init 28 = .ok (.aload_n 0, 1) := by decide +kernel
theorem d_Desk_init_29 : decode c_Desk_init 29 = .ok (.getfield 20, 3) := by decide +kernel
theorem d_Desk_init_32 : decode c_Desk_init 32 = .ok (.lconst 1, 1) := by decide +kernel
theorem d_Desk_init_33 : decode c_Desk_init 33 = .ok (.invokevirtual 24, 3) := by decide +kernel
theorem d_Desk_init_36 : decode c_Desk_init 36 = .ok (.aload_n 0, 1) := by decide +kernel
theorem d_Desk_init_37 : decode c_Desk_init 37 = .ok (.new 17, 3) := by decide +kernel
theorem d_Desk_init_40 : decode c_Desk_init 40 = .ok (.dup, 1) := by decide +kernel
theorem d_Desk_init_41 : decode c_Desk_init 41 = .ok (.invokespecial 19, 3) := by decide +kernel
theorem d_Desk_init_44 : decode c_Desk_init 44 = .ok (.putfield 28, 3) := by decide +kernel
theorem d_Desk_init_47 : decode c_Desk_init 47 = .ok (.aload_n 0, 1) := by decide +kernel
theorem d_Desk_init_48 : decode c_Desk_init 48 = .ok (.new 17, 3) := by decide +kernel
theorem d_Desk_init_51 : decode c_Desk_init 51 = .ok (.dup, 1) := by decide +kernel
theorem d_Desk_init_52 : decode c_Desk_init 52 = .ok (.invokespecial 19, 3) := by decide +kernel
theorem d_Desk_init_55 : decode c_Desk_init 55 = .ok (.putfield 31, 3) := by decide +kernel
theorem d_Desk_init_58 : decode c_Desk_init 58 = .ok (.aload_n 0, 1) := by decide +kernel
theorem d_Desk_init_59 : decode c_Desk_init 59 = .ok (.new 17, 3) := by decide +kernel
theorem d_Desk_init_62 : decode c_Desk_init 62 = .ok (.dup, 1) := by decide +kernel
theorem d_Desk_init_63 : decode c_Desk_init 63 = .ok (.invokespecial 19, 3) := by decide +kernel
theorem d_Desk_init_66 : decode c_Desk_init 66 = .ok (.putfield 34, 3) := by decide +kernel
theorem d_Desk_init_69 : decode c_Desk_init 69 = .ok (.aload_n 0, 1) := by decide +kernel
theorem d_Desk_init_70 : decode c_Desk_init 70 = .ok (.getfield 34, 3) := by decide +kernel
theorem d_Desk_init_73 : decode c_Desk_init 73 = .ok (.lconst 1, 1) := by decide +kernel
theorem d_Desk_init_74 : decode c_Desk_init 74 = .ok (.invokevirtual 24, 3) := by decide +kernel
theorem d_Desk_init_77 : decode c_Desk_init 77 = .ok (.aload_n 0, 1) := by decide +kernel
theorem d_Desk_init_78 : decode c_Desk_init 78 = .ok (.new 37, 3) := by decide +kernel
theorem d_Desk_init_81 : decode c_Desk_init 81 = .ok (.dup, 1) := by decide +kernel
theorem d_Desk_init_82 : decode c_Desk_init 82 = .ok (.invokespecial 39, 3) := by decide +kernel
theorem d_Desk_init_85 : decode c_Desk_init 85 = .ok (.putfield 40, 3) := by decide +kernel
theorem d_Desk_init_88 : decode c_Desk_init 88 = .ok (.aload_n 0, 1) := by decide +kernel
theorem d_Desk_init_89 : decode c_Desk_init 89 = .ok (.new 44, 3) := by decide +kernel
theorem d_Desk_init_92 : decode c_Desk_init 92 = .ok (.dup, 1) := by decide +kernel
theorem d_Desk_init_93 : decode c_Desk_init 93 = .ok (.invokespecial 46, 3) := by decide +kernel
theorem d_Desk_init_96 : decode c_Desk_init 96 = .ok (.putfield 47, 3) := by decide +kernel
theorem d_Desk_init_99 : decode c_Desk_init 99 = .ok (.aload_n 0, 1) := by decide +kernel
theorem d_Desk_init_100 : decode c_Desk_init 100 = .ok (.aload_n 0, 1) := by decide +kernel
theorem d_Desk_init_101 : decode c_Desk_init 101 = .ok (.getfield 47, 3) := by decide +kernel
theorem d_Desk_init_104 : decode c_Desk_init 104 = .ok (.getfield 51, 3) := by decide +kernel
theorem d_Desk_init_107 : decode c_Desk_init 107 = .ok (.putfield 55, 3) := by decide +kernel
theorem d_Desk_init_110 : decode c_Desk_init 110 = .ok (.aload_n 0, 1) := by decide +kernel
theorem d_Desk_init_111 : decode c_Desk_init 111 = .ok (.aload_n 0, 1) := by decide +kernel
theorem d_Desk_init_112 : decode c_Desk_init 112 = .ok (.getfield 47, 3) := by decide +kernel
theorem d_Desk_init_115 : decode c_Desk_init 115 = .ok (.getfield 56, 3) := by decide +kernel
theorem d_Desk_init_118 : decode c_Desk_init 118 = .ok (.putfield 60, 3) := by decide +kernel
theorem d_Desk_init_121 : decode c_Desk_init 121 = .ok (.return_, 1) := by decide +kernel
abbrev c_Modl_init : ByteArray := prog_11_method_1_code
abbrev y_Modl_init : MethodName := ⟨"FactorDeskModel", "<init>", "()V"⟩
theorem d_Modl_init_0 : decode c_Modl_init 0 = .ok (.aload_n 0, 1) := by decide +kernel
theorem d_Modl_init_1 : decode c_Modl_init 1 = .ok (.invokespecial 3, 3) := by decide +kernel
theorem d_Modl_init_4 : decode c_Modl_init 4 = .ok (.aload_n 0, 1) := by decide +kernel
theorem d_Modl_init_5 : decode c_Modl_init 5 = .ok (.bipush 13, 2) := by decide +kernel
theorem d_Modl_init_7 : decode c_Modl_init 7 = .ok (.newarray .long, 2) := by decide +kernel
theorem d_Modl_init_9 : decode c_Modl_init 9 = .ok (.putfield 9, 3) := by decide +kernel
theorem d_Modl_init_12 : decode c_Modl_init 12 = .ok (.aload_n 0, 1) := by decide +kernel
theorem d_Modl_init_13 : decode c_Modl_init 13 = .ok (.bipush 13, 2) := by decide +kernel
theorem d_Modl_init_15 : decode c_Modl_init 15 = .ok (.newarray .long, 2) := by decide +kernel
theorem d_Modl_init_17 : decode c_Modl_init 17 = .ok (.putfield 13, 3) := by decide +kernel
theorem d_Modl_init_20 : decode c_Modl_init 20 = .ok (.aload_n 0, 1) := by decide +kernel
theorem d_Modl_init_21 : decode c_Modl_init 21 = .ok (.bipush 13, 2) := by decide +kernel
theorem d_Modl_init_23 : decode c_Modl_init 23 = .ok (.newarray .long, 2) := by decide +kernel
theorem d_Modl_init_25 : decode c_Modl_init 25 = .ok (.putfield 16, 3) := by decide +kernel
theorem d_Modl_init_28 : decode c_Modl_init 28 = .ok (.aload_n 0, 1) := by decide +kernel
theorem d_Modl_init_29 : decode c_Modl_init 29 = .ok (.sipush 156, 3) := by decide +kernel
theorem d_Modl_init_32 : decode c_Modl_init 32 = .ok (.newarray .long, 2) := by decide +kernel
theorem d_Modl_init_34 : decode c_Modl_init 34 = .ok (.putfield 19, 3) := by decide +kernel
theorem d_Modl_init_37 : decode c_Modl_init 37 = .ok (.aload_n 0, 1) := by decide +kernel
theorem d_Modl_init_38 : decode c_Modl_init 38 = .ok (.bipush 12, 2) := by decide +kernel
theorem d_Modl_init_40 : decode c_Modl_init 40 = .ok (.newarray .int, 2) := by decide +kernel
theorem d_Modl_init_42 : decode c_Modl_init 42 = .ok (.putfield 22, 3) := by decide +kernel
theorem d_Modl_init_45 : decode c_Modl_init 45 = .ok (.aload_n 0, 1) := by decide +kernel
theorem d_Modl_init_46 : decode c_Modl_init 46 = .ok (.bipush 12, 2) := by decide +kernel
theorem d_Modl_init_48 : decode c_Modl_init 48 = .ok (.newarray .int, 2) := by decide +kernel
theorem d_Modl_init_50 : decode c_Modl_init 50 = .ok (.putfield 26, 3) := by decide +kernel
theorem d_Modl_init_53 : decode c_Modl_init 53 = .ok (.aload_n 0, 1) := by decide +kernel
theorem d_Modl_init_54 : decode c_Modl_init 54 = .ok (.sipush 156, 3) := by decide +kernel
theorem d_Modl_init_57 : decode c_Modl_init 57 = .ok (.newarray .long, 2) := by decide +kernel
theorem d_Modl_init_59 : decode c_Modl_init 59 = .ok (.putfield 29, 3) := by decide +kernel
theorem d_Modl_init_62 : decode c_Modl_init 62 = .ok (.aload_n 0, 1) := by decide +kernel
theorem d_Modl_init_63 : decode c_Modl_init 63 = .ok (.bipush 12, 2) := by decide +kernel
theorem d_Modl_init_65 : decode c_Modl_init 65 = .ok (.newarray .int, 2) := by decide +kernel
theorem d_Modl_init_67 : decode c_Modl_init 67 = .ok (.putfield 32, 3) := by decide +kernel
theorem d_Modl_init_70 : decode c_Modl_init 70 = .ok (.aload_n 0, 1) := by decide +kernel
theorem d_Modl_init_71 : decode c_Modl_init 71 = .ok (.bipush 12, 2) := by decide +kernel
theorem d_Modl_init_73 : decode c_Modl_init 73 = .ok (.newarray .int, 2) := by decide +kernel
theorem d_Modl_init_75 : decode c_Modl_init 75 = .ok (.putfield 35, 3) := by decide +kernel
theorem d_Modl_init_78 : decode c_Modl_init 78 = .ok (.aload_n 0, 1) := by decide +kernel
theorem d_Modl_init_79 : decode c_Modl_init 79 = .ok (.sipush 12350, 3) := by decide +kernel
theorem d_Modl_init_82 : decode c_Modl_init 82 = .ok (.newarray .long, 2) := by decide +kernel
theorem d_Modl_init_84 : decode c_Modl_init 84 = .ok (.putfield 38, 3) := by decide +kernel
theorem d_Modl_init_87 : decode c_Modl_init 87 = .ok (.aload_n 0, 1) := by decide +kernel
theorem d_Modl_init_88 : decode c_Modl_init 88 = .ok (.bipush 26, 2) := by decide +kernel
theorem d_Modl_init_90 : decode c_Modl_init 90 = .ok (.newarray .int, 2) := by decide +kernel
theorem d_Modl_init_92 : decode c_Modl_init 92 = .ok (.putfield 41, 3) := by decide +kernel
theorem d_Modl_init_95 : decode c_Modl_init 95 = .ok (.aload_n 0, 1) := by decide +kernel
theorem d_Modl_init_96 : decode c_Modl_init 96 = .ok (.bipush 64, 2) := by decide +kernel
theorem d_Modl_init_98 : decode c_Modl_init 98 = .ok (.newarray .long, 2) := by decide +kernel
theorem d_Modl_init_100 : decode c_Modl_init 100 = .ok (.putfield 44, 3) := by decide +kernel
theorem d_Modl_init_103 : decode c_Modl_init 103 = .ok (.aload_n 0, 1) := by decide +kernel
theorem d_Modl_init_104 : decode c_Modl_init 104 = .ok (.bipush 64, 2) := by decide +kernel
theorem d_Modl_init_106 : decode c_Modl_init 106 = .ok (.newarray .long, 2) := by decide +kernel
theorem d_Modl_init_108 : decode c_Modl_init 108 = .ok (.putfield 47, 3) := by decide +kernel
theorem d_Modl_init_111 : decode c_Modl_init 111 = .ok (.aload_n 0, 1) := by decide +kernel
theorem d_Modl_init_112 : decode c_Modl_init 112 = .ok (.bipush 64, 2) := by decide +kernel
theorem d_Modl_init_114 : decode c_Modl_init 114 = .ok (.newarray .long, 2) := by decide +kernel
theorem d_Modl_init_116 : decode c_Modl_init 116 = .ok (.putfield 50, 3) := by decide +kernel
theorem d_Modl_init_119 : decode c_Modl_init 119 = .ok (.aload_n 0, 1) := by decide +kernel
theorem d_Modl_init_120 : decode c_Modl_init 120 = .ok (.bipush 64, 2) := by decide +kernel
theorem d_Modl_init_122 : decode c_Modl_init 122 = .ok (.newarray .long, 2) := by decide +kernel
theorem d_Modl_init_124 : decode c_Modl_init 124 = .ok (.putfield 53, 3) := by decide +kernel
theorem d_Modl_init_127 : decode c_Modl_init 127 = .ok (.aload_n 0, 1) := by decide +kernel
theorem d_Modl_init_128 : decode c_Modl_init 128 = .ok (.lconst 1, 1) := by decide +kernel
theorem d_Modl_init_129 : decode c_Modl_init 129 = .ok (.putfield 56, 3) := by decide +kernel
theorem d_Modl_init_132 : decode c_Modl_init 132 = .ok (.aload_n 0, 1) := by decide +kernel
theorem d_Modl_init_133 : decode c_Modl_init 133 = .ok (.bipush 12, 2) := by decide +kernel
theorem d_Modl_init_135 : decode c_Modl_init 135 = .ok (.newarray .int, 2) := by decide +kernel
theorem d_Modl_init_137 : decode c_Modl_init 137 = .ok (.putfield 60, 3) := by decide +kernel
theorem d_Modl_init_140 : decode c_Modl_init 140 = .ok (.aload_n 0, 1) := by decide +kernel
theorem d_Modl_init_141 : decode c_Modl_init 141 = .ok (.bipush 12, 2) := by decide +kernel
theorem d_Modl_init_143 : decode c_Modl_init 143 = .ok (.newarray .boolean, 2) := by decide +kernel
theorem d_Modl_init_145 : decode c_Modl_init 145 = .ok (.putfield 63, 3) := by decide +kernel
theorem d_Modl_init_148 : decode c_Modl_init 148 = .ok (.aload_n 0, 1) := by decide +kernel
theorem d_Modl_init_149 : decode c_Modl_init 149 = .ok (.bipush 13, 2) := by decide +kernel
theorem d_Modl_init_151 : decode c_Modl_init 151 = .ok (.newarray .long, 2) := by decide +kernel
theorem d_Modl_init_153 : decode c_Modl_init 153 = .ok (.putfield 67, 3) := by decide +kernel
theorem d_Modl_init_156 : decode c_Modl_init 156 = .ok (.aload_n 0, 1) := by decide +kernel
theorem d_Modl_init_157 : decode c_Modl_init 157 = .ok (.bipush 13, 2) := by decide +kernel
theorem d_Modl_init_159 : decode c_Modl_init 159 = .ok (.newarray .long, 2) := by decide +kernel
theorem d_Modl_init_161 : decode c_Modl_init 161 = .ok (.putfield 70, 3) := by decide +kernel
theorem d_Modl_init_164 : decode c_Modl_init 164 = .ok (.aload_n 0, 1) := by decide +kernel
theorem d_Modl_init_165 : decode c_Modl_init 165 = .ok (.bipush 64, 2) := by decide +kernel
theorem d_Modl_init_167 : decode c_Modl_init 167 = .ok (.newarray .long, 2) := by decide +kernel
theorem d_Modl_init_169 : decode c_Modl_init 169 = .ok (.putfield 73, 3) := by decide +kernel
theorem d_Modl_init_172 : decode c_Modl_init 172 = .ok (.aload_n 0, 1) := by decide +kernel
theorem d_Modl_init_173 : decode c_Modl_init 173 = .ok (.bipush 13, 2) := by decide +kernel
theorem d_Modl_init_175 : decode c_Modl_init 175 = .ok (.newarray .boolean, 2) := by decide +kernel
theorem d_Modl_init_177 : decode c_Modl_init 177 = .ok (.putfield 76, 3) := by decide +kernel
theorem d_Modl_init_180 : decode c_Modl_init 180 = .ok (.aload_n 0, 1) := by decide +kernel
theorem d_Modl_init_181 : decode c_Modl_init 181 = .ok (.bipush 13, 2) := by decide +kernel
theorem d_Modl_init_183 : decode c_Modl_init 183 = .ok (.newarray .long, 2) := by decide +kernel
theorem d_Modl_init_185 : decode c_Modl_init 185 = .ok (.putfield 79, 3) := by decide +kernel
theorem d_Modl_init_188 : decode c_Modl_init 188 = .ok (.aload_n 0, 1) := by decide +kernel
theorem d_Modl_init_189 : decode c_Modl_init 189 = .ok (.getfield 13, 3) := by decide +kernel
theorem d_Modl_init_192 : decode c_Modl_init 192 = .ok (.iconst 0, 1) := by decide +kernel
theorem d_Modl_init_193 : decode c_Modl_init 193 = .ok (.lconst 1, 1) := by decide +kernel
theorem d_Modl_init_194 : decode c_Modl_init 194 = .ok (.lastore, 1) := by decide +kernel
theorem d_Modl_init_195 : decode c_Modl_init 195 = .ok (.aload_n 0, 1) := by decide +kernel
theorem d_Modl_init_196 : decode c_Modl_init 196 = .ok (.getfield 16, 3) := by decide +kernel
theorem d_Modl_init_199 : decode c_Modl_init 199 = .ok (.iconst 0, 1) := by decide +kernel
theorem d_Modl_init_200 : decode c_Modl_init 200 = .ok (.lconst 1, 1) := by decide +kernel
theorem d_Modl_init_201 : decode c_Modl_init 201 = .ok (.lastore, 1) := by decide +kernel
theorem d_Modl_init_202 : decode c_Modl_init 202 = .ok (.return_, 1) := by decide +kernel
theorem g_32 : jG (Jvm.Cond.methodLink "FactorDesk$Poly" (3 : Nat) ({ cls := "java/lang/Object", name := "<init>", desc := "()V" } : Jvm.MethodName)) := jG_of 97 (by decide +kernel) (by decide +kernel)
theorem g_25 : jG (Jvm.Cond.instanceMethod ({ cls := "java/lang/Object", name := "<init>", desc := "()V" } : Jvm.MethodName)) := jG_of 90 (by decide +kernel) (by decide +kernel)
theorem g_26 : jG (Jvm.Cond.code ({ cls := "java/lang/Object", name := "<init>", desc := "()V" } : Jvm.MethodName) object_method_1_code (1 : Nat) (Option.none : Option Jvm.ClassFile.FieldType)) := jG_of 91 (by decide +kernel) (by decide +kernel)
theorem g_56 : jG (Jvm.Cond.arrayClass Jvm.ClassFile.FieldType.long) := jG_of 121 (by decide +kernel) (by decide +kernel)
theorem g_33 : jG (Jvm.Cond.fieldLink "FactorDesk$Poly" (9 : Nat) "FactorDesk$Poly" "c" "[J") := jG_of 98 (by decide +kernel) (by decide +kernel)
theorem g_41 : jG (Jvm.Cond.fieldLink "FactorDesk$Poly" (15 : Nat) "FactorDesk$Poly" "degree" "I") := jG_of 106 (by decide +kernel) (by decide +kernel)
theorem g_105 : jG (Jvm.Cond.methodLink "FactorDesk$Division" (3 : Nat) ({ cls := "java/lang/Object", name := "<init>", desc := "()V" } : Jvm.MethodName)) := jG_of 170 (by decide +kernel) (by decide +kernel)
theorem g_106 : jG (Jvm.Cond.classLink "FactorDesk$Division" (9 : Nat) "FactorDesk$Poly") := jG_of 171 (by decide +kernel) (by decide +kernel)
theorem g_28 : jG (Jvm.Cond.instantiable "FactorDesk$Poly" (2 : Nat)) := jG_of 93 (by decide +kernel) (by decide +kernel)
theorem g_2 : jG (Jvm.Cond.initialized "FactorDesk$Poly") := jG_of 67 (by decide +kernel) (by decide +kernel)
theorem g_107 : jG (Jvm.Cond.methodLink "FactorDesk$Division" (11 : Nat) ({ cls := "FactorDesk$Poly", name := "<init>", desc := "()V" } : Jvm.MethodName)) := jG_of 172 (by decide +kernel) (by decide +kernel)
theorem g_31 : jG (Jvm.Cond.code ({ cls := "FactorDesk$Poly", name := "<init>", desc := "()V" } : Jvm.MethodName) prog_7_method_1_code (1 : Nat) (Option.none : Option Jvm.ClassFile.FieldType)) := jG_of 96 (by decide +kernel) (by decide +kernel)
theorem g_30 : jG (Jvm.Cond.instanceMethod ({ cls := "FactorDesk$Poly", name := "<init>", desc := "()V" } : Jvm.MethodName)) := jG_of 95 (by decide +kernel) (by decide +kernel)
theorem g_108 : jG (Jvm.Cond.fieldLink "FactorDesk$Division" (12 : Nat) "FactorDesk$Division" "quotient" "LFactorDesk$Poly;") := jG_of 173 (by decide +kernel) (by decide +kernel)
theorem g_110 : jG (Jvm.Cond.fieldLink "FactorDesk$Division" (18 : Nat) "FactorDesk$Division" "left" "[J") := jG_of 175 (by decide +kernel) (by decide +kernel)
theorem g_121 : jG (Jvm.Cond.methodLink "FactorDesk$Residues" (3 : Nat) ({ cls := "java/lang/Object", name := "<init>", desc := "()V" } : Jvm.MethodName)) := jG_of 186 (by decide +kernel) (by decide +kernel)
theorem g_122 : jG (Jvm.Cond.classLink "FactorDesk$Residues" (9 : Nat) "FactorDesk$Poly") := jG_of 187 (by decide +kernel) (by decide +kernel)
theorem g_123 : jG (Jvm.Cond.methodLink "FactorDesk$Residues" (11 : Nat) ({ cls := "FactorDesk$Poly", name := "<init>", desc := "()V" } : Jvm.MethodName)) := jG_of 188 (by decide +kernel) (by decide +kernel)
theorem g_126 : jG (Jvm.Cond.fieldLink "FactorDesk$Residues" (12 : Nat) "FactorDesk$Residues" "quotient" "LFactorDesk$Poly;") := jG_of 191 (by decide +kernel) (by decide +kernel)
theorem g_124 : jG (Jvm.Cond.constantLong "FactorDesk$Residues" (18 : Nat) (2 : Int64)) := jG_of 189 (by decide +kernel) (by decide +kernel)
theorem g_129 : jG (Jvm.Cond.fieldLink "FactorDesk$Residues" (20 : Nat) "FactorDesk$Residues" "modulus" "J") := jG_of 194 (by decide +kernel) (by decide +kernel)
theorem g_130 : jG (Jvm.Cond.fieldLink "FactorDesk$Residues" (24 : Nat) "FactorDesk$Residues" "chunk" "I") := jG_of 195 (by decide +kernel) (by decide +kernel)
theorem g_125 : jG (Jvm.Cond.constantLong "FactorDesk$Residues" (28 : Nat) (2147483647 : Int64)) := jG_of 190 (by decide +kernel) (by decide +kernel)
theorem g_131 : jG (Jvm.Cond.fieldLink "FactorDesk$Residues" (30 : Nat) "FactorDesk$Residues" "chunkMask" "J") := jG_of 196 (by decide +kernel) (by decide +kernel)
theorem g_132 : jG (Jvm.Cond.fieldLink "FactorDesk$Residues" (33 : Nat) "FactorDesk$Residues" "chunks" "I") := jG_of 197 (by decide +kernel) (by decide +kernel)
theorem g_99 : jG (Jvm.Cond.methodLink "FactorDesk$CommonDivisor" (1 : Nat) ({ cls := "java/lang/Object", name := "<init>", desc := "()V" } : Jvm.MethodName)) := jG_of 164 (by decide +kernel) (by decide +kernel)
theorem g_100 : jG (Jvm.Cond.classLink "FactorDesk$CommonDivisor" (7 : Nat) "FactorDesk$Division") := jG_of 165 (by decide +kernel) (by decide +kernel)
theorem g_101 : jG (Jvm.Cond.instantiable "FactorDesk$Division" (2 : Nat)) := jG_of 166 (by decide +kernel) (by decide +kernel)
theorem g_6 : jG (Jvm.Cond.initialized "FactorDesk$Division") := jG_of 71 (by decide +kernel) (by decide +kernel)
theorem g_102 : jG (Jvm.Cond.methodLink "FactorDesk$CommonDivisor" (9 : Nat) ({ cls := "FactorDesk$Division", name := "<init>", desc := "()V" } : Jvm.MethodName)) := jG_of 167 (by decide +kernel) (by decide +kernel)
theorem g_104 : jG (Jvm.Cond.code ({ cls := "FactorDesk$Division", name := "<init>", desc := "()V" } : Jvm.MethodName) prog_3_method_1_code (1 : Nat) (Option.none : Option Jvm.ClassFile.FieldType)) := jG_of 169 (by decide +kernel) (by decide +kernel)
theorem g_103 : jG (Jvm.Cond.instanceMethod ({ cls := "FactorDesk$Division", name := "<init>", desc := "()V" } : Jvm.MethodName)) := jG_of 168 (by decide +kernel) (by decide +kernel)
theorem g_149 : jG (Jvm.Cond.fieldLink "FactorDesk$CommonDivisor" (10 : Nat) "FactorDesk$CommonDivisor" "division" "LFactorDesk$Division;") := jG_of 214 (by decide +kernel) (by decide +kernel)
theorem g_116 : jG (Jvm.Cond.classLink "FactorDesk$CommonDivisor" (16 : Nat) "FactorDesk$Residues") := jG_of 181 (by decide +kernel) (by decide +kernel)
theorem g_117 : jG (Jvm.Cond.instantiable "FactorDesk$Residues" (5 : Nat)) := jG_of 182 (by decide +kernel) (by decide +kernel)
theorem g_7 : jG (Jvm.Cond.initialized "FactorDesk$Residues") := jG_of 72 (by decide +kernel) (by decide +kernel)
theorem g_118 : jG (Jvm.Cond.methodLink "FactorDesk$CommonDivisor" (18 : Nat) ({ cls := "FactorDesk$Residues", name := "<init>", desc := "()V" } : Jvm.MethodName)) := jG_of 183 (by decide +kernel) (by decide +kernel)
theorem g_120 : jG (Jvm.Cond.code ({ cls := "FactorDesk$Residues", name := "<init>", desc := "()V" } : Jvm.MethodName) prog_8_method_1_code (1 : Nat) (Option.none : Option Jvm.ClassFile.FieldType)) := jG_of 185 (by decide +kernel) (by decide +kernel)
theorem g_119 : jG (Jvm.Cond.instanceMethod ({ cls := "FactorDesk$Residues", name := "<init>", desc := "()V" } : Jvm.MethodName)) := jG_of 184 (by decide +kernel) (by decide +kernel)
theorem g_151 : jG (Jvm.Cond.fieldLink "FactorDesk$CommonDivisor" (19 : Nat) "FactorDesk$CommonDivisor" "residues" "LFactorDesk$Residues;") := jG_of 216 (by decide +kernel) (by decide +kernel)
theorem g_144 : jG (Jvm.Cond.classLink "FactorDesk$CommonDivisor" (23 : Nat) "FactorDesk$Poly") := jG_of 209 (by decide +kernel) (by decide +kernel)
theorem g_145 : jG (Jvm.Cond.methodLink "FactorDesk$CommonDivisor" (25 : Nat) ({ cls := "FactorDesk$Poly", name := "<init>", desc := "()V" } : Jvm.MethodName)) := jG_of 210 (by decide +kernel) (by decide +kernel)
theorem g_146 : jG (Jvm.Cond.fieldLink "FactorDesk$CommonDivisor" (26 : Nat) "FactorDesk$CommonDivisor" "answer" "LFactorDesk$Poly;") := jG_of 211 (by decide +kernel) (by decide +kernel)
theorem g_152 : jG (Jvm.Cond.fieldLink "FactorDesk$CommonDivisor" (30 : Nat) "FactorDesk$CommonDivisor" "one" "LFactorDesk$Poly;") := jG_of 217 (by decide +kernel) (by decide +kernel)
theorem g_153 : jG (Jvm.Cond.fieldLink "FactorDesk$CommonDivisor" (33 : Nat) "FactorDesk$CommonDivisor" "two" "LFactorDesk$Poly;") := jG_of 218 (by decide +kernel) (by decide +kernel)
theorem g_154 : jG (Jvm.Cond.fieldLink "FactorDesk$CommonDivisor" (36 : Nat) "FactorDesk$CommonDivisor" "a" "LFactorDesk$Poly;") := jG_of 219 (by decide +kernel) (by decide +kernel)
theorem g_155 : jG (Jvm.Cond.fieldLink "FactorDesk$CommonDivisor" (39 : Nat) "FactorDesk$CommonDivisor" "b" "LFactorDesk$Poly;") := jG_of 220 (by decide +kernel) (by decide +kernel)
theorem g_70 : jG (Jvm.Cond.fieldLink "FactorDesk$FactorList" (11 : Nat) "FactorDesk$FactorList" "parts" "[LFactorDesk$Poly;") := jG_of 135 (by decide +kernel) (by decide +kernel)
theorem g_67 : jG (Jvm.Cond.classLink "FactorDesk$FactorList" (9 : Nat) "FactorDesk$Poly") := jG_of 132 (by decide +kernel) (by decide +kernel)
theorem g_69 : jG (Jvm.Cond.methodLink "FactorDesk$FactorList" (17 : Nat) ({ cls := "FactorDesk$Poly", name := "<init>", desc := "()V" } : Jvm.MethodName)) := jG_of 134 (by decide +kernel) (by decide +kernel)
theorem g_66 : jG (Jvm.Cond.methodLink "FactorDesk$FactorList" (3 : Nat) ({ cls := "java/lang/Object", name := "<init>", desc := "()V" } : Jvm.MethodName)) := jG_of 131 (by decide +kernel) (by decide +kernel)
theorem g_55 : jG (Jvm.Cond.arrayClass Jvm.ClassFile.FieldType.int) := jG_of 120 (by decide +kernel) (by decide +kernel)
theorem g_73 : jG (Jvm.Cond.fieldLink "FactorDesk$FactorList" (18 : Nat) "FactorDesk$FactorList" "multiplicities" "[I") := jG_of 138 (by decide +kernel) (by decide +kernel)
theorem g_76 : jG (Jvm.Cond.fieldLink "FactorDesk$FactorList" (22 : Nat) "FactorDesk$FactorList" "count" "I") := jG_of 141 (by decide +kernel) (by decide +kernel)
theorem g_191 : jG (Jvm.Cond.fieldLink "FactorDesk$ModularSplit" (20 : Nat) "FactorDesk$ModularSplit" "pieces" "[LFactorDesk$Poly;") := jG_of 256 (by decide +kernel) (by decide +kernel)
theorem g_185 : jG (Jvm.Cond.classLink "FactorDesk$ModularSplit" (18 : Nat) "FactorDesk$Poly") := jG_of 250 (by decide +kernel) (by decide +kernel)
theorem g_186 : jG (Jvm.Cond.methodLink "FactorDesk$ModularSplit" (24 : Nat) ({ cls := "FactorDesk$Poly", name := "<init>", desc := "()V" } : Jvm.MethodName)) := jG_of 251 (by decide +kernel) (by decide +kernel)
theorem g_182 : jG (Jvm.Cond.methodLink "FactorDesk$ModularSplit" (3 : Nat) ({ cls := "java/lang/Object", name := "<init>", desc := "()V" } : Jvm.MethodName)) := jG_of 247 (by decide +kernel) (by decide +kernel)
theorem g_183 : jG (Jvm.Cond.classLink "FactorDesk$ModularSplit" (9 : Nat) "FactorDesk$Residues") := jG_of 248 (by decide +kernel) (by decide +kernel)
theorem g_184 : jG (Jvm.Cond.methodLink "FactorDesk$ModularSplit" (11 : Nat) ({ cls := "FactorDesk$Residues", name := "<init>", desc := "()V" } : Jvm.MethodName)) := jG_of 249 (by decide +kernel) (by decide +kernel)
theorem g_189 : jG (Jvm.Cond.fieldLink "FactorDesk$ModularSplit" (12 : Nat) "FactorDesk$ModularSplit" "residues" "LFactorDesk$Residues;") := jG_of 254 (by decide +kernel) (by decide +kernel)
theorem g_194 : jG (Jvm.Cond.fieldLink "FactorDesk$ModularSplit" (25 : Nat) "FactorDesk$ModularSplit" "monic" "LFactorDesk$Poly;") := jG_of 259 (by decide +kernel) (by decide +kernel)
theorem g_187 : jG (Jvm.Cond.classLink "FactorDesk$ModularSplit" (29 : Nat) "[[J") := jG_of 252 (by decide +kernel) (by decide +kernel)
theorem g_202 : jG (Jvm.Cond.fieldLink "FactorDesk$ModularSplit" (31 : Nat) "FactorDesk$ModularSplit" "matrix" "[[J") := jG_of 267 (by decide +kernel) (by decide +kernel)
theorem g_203 : jG (Jvm.Cond.fieldLink "FactorDesk$ModularSplit" (34 : Nat) "FactorDesk$ModularSplit" "pivotRow" "[I") := jG_of 268 (by decide +kernel) (by decide +kernel)
theorem g_204 : jG (Jvm.Cond.fieldLink "FactorDesk$ModularSplit" (38 : Nat) "FactorDesk$ModularSplit" "kernel" "LFactorDesk$Poly;") := jG_of 269 (by decide +kernel) (by decide +kernel)
theorem g_205 : jG (Jvm.Cond.fieldLink "FactorDesk$ModularSplit" (41 : Nat) "FactorDesk$ModularSplit" "a" "LFactorDesk$Poly;") := jG_of 270 (by decide +kernel) (by decide +kernel)
theorem g_206 : jG (Jvm.Cond.fieldLink "FactorDesk$ModularSplit" (44 : Nat) "FactorDesk$ModularSplit" "b" "LFactorDesk$Poly;") := jG_of 271 (by decide +kernel) (by decide +kernel)
theorem g_238 : jG (Jvm.Cond.fieldLink "FactorDesk$Lift" (27 : Nat) "FactorDesk$Lift" "pieces" "[LFactorDesk$Poly;") := jG_of 303 (by decide +kernel) (by decide +kernel)
theorem g_232 : jG (Jvm.Cond.classLink "FactorDesk$Lift" (25 : Nat) "FactorDesk$Poly") := jG_of 297 (by decide +kernel) (by decide +kernel)
theorem g_233 : jG (Jvm.Cond.methodLink "FactorDesk$Lift" (34 : Nat) ({ cls := "FactorDesk$Poly", name := "<init>", desc := "()V" } : Jvm.MethodName)) := jG_of 298 (by decide +kernel) (by decide +kernel)
theorem g_240 : jG (Jvm.Cond.fieldLink "FactorDesk$Lift" (31 : Nat) "FactorDesk$Lift" "inverses" "[LFactorDesk$Poly;") := jG_of 305 (by decide +kernel) (by decide +kernel)
theorem g_176 : jG (Jvm.Cond.methodLink "FactorDesk$Lift" (3 : Nat) ({ cls := "java/lang/Object", name := "<init>", desc := "()V" } : Jvm.MethodName)) := jG_of 241 (by decide +kernel) (by decide +kernel)
theorem g_177 : jG (Jvm.Cond.classLink "FactorDesk$Lift" (9 : Nat) "FactorDesk$ModularSplit") := jG_of 242 (by decide +kernel) (by decide +kernel)
theorem g_178 : jG (Jvm.Cond.instantiable "FactorDesk$ModularSplit" (11 : Nat)) := jG_of 243 (by decide +kernel) (by decide +kernel)
theorem g_9 : jG (Jvm.Cond.initialized "FactorDesk$ModularSplit") := jG_of 74 (by decide +kernel) (by decide +kernel)
theorem g_179 : jG (Jvm.Cond.methodLink "FactorDesk$Lift" (11 : Nat) ({ cls := "FactorDesk$ModularSplit", name := "<init>", desc := "()V" } : Jvm.MethodName)) := jG_of 244 (by decide +kernel) (by decide +kernel)
theorem g_181 : jG (Jvm.Cond.code ({ cls := "FactorDesk$ModularSplit", name := "<init>", desc := "()V" } : Jvm.MethodName) prog_6_method_1_code (2 : Nat) (Option.none : Option Jvm.ClassFile.FieldType)) := jG_of 246 (by decide +kernel) (by decide +kernel)
theorem g_180 : jG (Jvm.Cond.instanceMethod ({ cls := "FactorDesk$ModularSplit", name := "<init>", desc := "()V" } : Jvm.MethodName)) := jG_of 245 (by decide +kernel) (by decide +kernel)
theorem g_234 : jG (Jvm.Cond.fieldLink "FactorDesk$Lift" (12 : Nat) "FactorDesk$Lift" "split" "LFactorDesk$ModularSplit;") := jG_of 299 (by decide +kernel) (by decide +kernel)
theorem g_230 : jG (Jvm.Cond.classLink "FactorDesk$Lift" (18 : Nat) "FactorDesk$Residues") := jG_of 295 (by decide +kernel) (by decide +kernel)
theorem g_231 : jG (Jvm.Cond.methodLink "FactorDesk$Lift" (20 : Nat) ({ cls := "FactorDesk$Residues", name := "<init>", desc := "()V" } : Jvm.MethodName)) := jG_of 296 (by decide +kernel) (by decide +kernel)
theorem g_236 : jG (Jvm.Cond.fieldLink "FactorDesk$Lift" (21 : Nat) "FactorDesk$Lift" "residues" "LFactorDesk$Residues;") := jG_of 301 (by decide +kernel) (by decide +kernel)
theorem g_241 : jG (Jvm.Cond.fieldLink "FactorDesk$Lift" (35 : Nat) "FactorDesk$Lift" "target" "LFactorDesk$Poly;") := jG_of 306 (by decide +kernel) (by decide +kernel)
theorem g_242 : jG (Jvm.Cond.fieldLink "FactorDesk$Lift" (39 : Nat) "FactorDesk$Lift" "error" "LFactorDesk$Poly;") := jG_of 307 (by decide +kernel) (by decide +kernel)
theorem g_243 : jG (Jvm.Cond.fieldLink "FactorDesk$Lift" (42 : Nat) "FactorDesk$Lift" "work" "LFactorDesk$Poly;") := jG_of 308 (by decide +kernel) (by decide +kernel)
theorem g_244 : jG (Jvm.Cond.fieldLink "FactorDesk$Lift" (45 : Nat) "FactorDesk$Lift" "one" "LFactorDesk$Poly;") := jG_of 309 (by decide +kernel) (by decide +kernel)
theorem g_245 : jG (Jvm.Cond.fieldLink "FactorDesk$Lift" (48 : Nat) "FactorDesk$Lift" "two" "LFactorDesk$Poly;") := jG_of 310 (by decide +kernel) (by decide +kernel)
theorem g_246 : jG (Jvm.Cond.fieldLink "FactorDesk$Lift" (51 : Nat) "FactorDesk$Lift" "oneTimes" "LFactorDesk$Poly;") := jG_of 311 (by decide +kernel) (by decide +kernel)
theorem g_247 : jG (Jvm.Cond.fieldLink "FactorDesk$Lift" (54 : Nat) "FactorDesk$Lift" "twoTimes" "LFactorDesk$Poly;") := jG_of 312 (by decide +kernel) (by decide +kernel)
theorem g_91 : jG (Jvm.Cond.methodLink "FactorDesk$Splitter" (3 : Nat) ({ cls := "java/lang/Object", name := "<init>", desc := "()V" } : Jvm.MethodName)) := jG_of 156 (by decide +kernel) (by decide +kernel)
theorem g_92 : jG (Jvm.Cond.classLink "FactorDesk$Splitter" (9 : Nat) "FactorDesk$FactorList") := jG_of 157 (by decide +kernel) (by decide +kernel)
theorem g_62 : jG (Jvm.Cond.instantiable "FactorDesk$FactorList" (3 : Nat)) := jG_of 127 (by decide +kernel) (by decide +kernel)
theorem g_3 : jG (Jvm.Cond.initialized "FactorDesk$FactorList") := jG_of 68 (by decide +kernel) (by decide +kernel)
theorem g_93 : jG (Jvm.Cond.methodLink "FactorDesk$Splitter" (11 : Nat) ({ cls := "FactorDesk$FactorList", name := "<init>", desc := "()V" } : Jvm.MethodName)) := jG_of 158 (by decide +kernel) (by decide +kernel)
theorem g_65 : jG (Jvm.Cond.code ({ cls := "FactorDesk$FactorList", name := "<init>", desc := "()V" } : Jvm.MethodName) prog_4_method_1_code (2 : Nat) (Option.none : Option Jvm.ClassFile.FieldType)) := jG_of 130 (by decide +kernel) (by decide +kernel)
theorem g_64 : jG (Jvm.Cond.instanceMethod ({ cls := "FactorDesk$FactorList", name := "<init>", desc := "()V" } : Jvm.MethodName)) := jG_of 129 (by decide +kernel) (by decide +kernel)
theorem g_273 : jG (Jvm.Cond.fieldLink "FactorDesk$Splitter" (12 : Nat) "FactorDesk$Splitter" "found" "LFactorDesk$FactorList;") := jG_of 338 (by decide +kernel) (by decide +kernel)
theorem g_94 : jG (Jvm.Cond.classLink "FactorDesk$Splitter" (18 : Nat) "FactorDesk$CommonDivisor") := jG_of 159 (by decide +kernel) (by decide +kernel)
theorem g_95 : jG (Jvm.Cond.instantiable "FactorDesk$CommonDivisor" (7 : Nat)) := jG_of 160 (by decide +kernel) (by decide +kernel)
theorem g_5 : jG (Jvm.Cond.initialized "FactorDesk$CommonDivisor") := jG_of 70 (by decide +kernel) (by decide +kernel)
theorem g_96 : jG (Jvm.Cond.methodLink "FactorDesk$Splitter" (20 : Nat) ({ cls := "FactorDesk$CommonDivisor", name := "<init>", desc := "()V" } : Jvm.MethodName)) := jG_of 161 (by decide +kernel) (by decide +kernel)
theorem g_98 : jG (Jvm.Cond.code ({ cls := "FactorDesk$CommonDivisor", name := "<init>", desc := "()V" } : Jvm.MethodName) prog_2_method_1_code (1 : Nat) (Option.none : Option Jvm.ClassFile.FieldType)) := jG_of 163 (by decide +kernel) (by decide +kernel)
theorem g_97 : jG (Jvm.Cond.instanceMethod ({ cls := "FactorDesk$CommonDivisor", name := "<init>", desc := "()V" } : Jvm.MethodName)) := jG_of 162 (by decide +kernel) (by decide +kernel)
theorem g_275 : jG (Jvm.Cond.fieldLink "FactorDesk$Splitter" (21 : Nat) "FactorDesk$Splitter" "commonDivisor" "LFactorDesk$CommonDivisor;") := jG_of 340 (by decide +kernel) (by decide +kernel)
theorem g_150 : jG (Jvm.Cond.fieldLink "FactorDesk$Splitter" (25 : Nat) "FactorDesk$CommonDivisor" "division" "LFactorDesk$Division;") := jG_of 215 (by decide +kernel) (by decide +kernel)
theorem g_277 : jG (Jvm.Cond.fieldLink "FactorDesk$Splitter" (29 : Nat) "FactorDesk$Splitter" "division" "LFactorDesk$Division;") := jG_of 342 (by decide +kernel) (by decide +kernel)
theorem g_279 : jG (Jvm.Cond.fieldLink "FactorDesk$Splitter" (30 : Nat) "FactorDesk$Splitter" "known" "Z") := jG_of 344 (by decide +kernel) (by decide +kernel)
theorem g_171 : jG (Jvm.Cond.classLink "FactorDesk$Splitter" (34 : Nat) "FactorDesk$Lift") := jG_of 236 (by decide +kernel) (by decide +kernel)
theorem g_172 : jG (Jvm.Cond.instantiable "FactorDesk$Lift" (11 : Nat)) := jG_of 237 (by decide +kernel) (by decide +kernel)
theorem g_8 : jG (Jvm.Cond.initialized "FactorDesk$Lift") := jG_of 73 (by decide +kernel) (by decide +kernel)
theorem g_173 : jG (Jvm.Cond.methodLink "FactorDesk$Splitter" (36 : Nat) ({ cls := "FactorDesk$Lift", name := "<init>", desc := "()V" } : Jvm.MethodName)) := jG_of 238 (by decide +kernel) (by decide +kernel)
theorem g_175 : jG (Jvm.Cond.code ({ cls := "FactorDesk$Lift", name := "<init>", desc := "()V" } : Jvm.MethodName) prog_5_method_1_code (2 : Nat) (Option.none : Option Jvm.ClassFile.FieldType)) := jG_of 240 (by decide +kernel) (by decide +kernel)
theorem g_174 : jG (Jvm.Cond.instanceMethod ({ cls := "FactorDesk$Lift", name := "<init>", desc := "()V" } : Jvm.MethodName)) := jG_of 239 (by decide +kernel) (by decide +kernel)
theorem g_280 : jG (Jvm.Cond.fieldLink "FactorDesk$Splitter" (37 : Nat) "FactorDesk$Splitter" "lift" "LFactorDesk$Lift;") := jG_of 345 (by decide +kernel) (by decide +kernel)
theorem g_235 : jG (Jvm.Cond.fieldLink "FactorDesk$Splitter" (41 : Nat) "FactorDesk$Lift" "split" "LFactorDesk$ModularSplit;") := jG_of 300 (by decide +kernel) (by decide +kernel)
theorem g_281 : jG (Jvm.Cond.fieldLink "FactorDesk$Splitter" (45 : Nat) "FactorDesk$Splitter" "modular" "LFactorDesk$ModularSplit;") := jG_of 346 (by decide +kernel) (by decide +kernel)
theorem g_271 : jG (Jvm.Cond.classLink "FactorDesk$Splitter" (48 : Nat) "FactorDesk$Poly") := jG_of 336 (by decide +kernel) (by decide +kernel)
theorem g_272 : jG (Jvm.Cond.methodLink "FactorDesk$Splitter" (50 : Nat) ({ cls := "FactorDesk$Poly", name := "<init>", desc := "()V" } : Jvm.MethodName)) := jG_of 337 (by decide +kernel) (by decide +kernel)
theorem g_282 : jG (Jvm.Cond.fieldLink "FactorDesk$Splitter" (51 : Nat) "FactorDesk$Splitter" "whole" "LFactorDesk$Poly;") := jG_of 347 (by decide +kernel) (by decide +kernel)
theorem g_283 : jG (Jvm.Cond.fieldLink "FactorDesk$Splitter" (55 : Nat) "FactorDesk$Splitter" "rest" "LFactorDesk$Poly;") := jG_of 348 (by decide +kernel) (by decide +kernel)
theorem g_284 : jG (Jvm.Cond.fieldLink "FactorDesk$Splitter" (58 : Nat) "FactorDesk$Splitter" "candidate" "LFactorDesk$Poly;") := jG_of 349 (by decide +kernel) (by decide +kernel)
theorem g_24 : jG (Jvm.Cond.methodLink "FactorDesk" (3 : Nat) ({ cls := "java/lang/Object", name := "<init>", desc := "()V" } : Jvm.MethodName)) := jG_of 89 (by decide +kernel) (by decide +kernel)
theorem g_304 : jG (Jvm.Cond.fieldLink "FactorDesk" (9 : Nat) "FactorDesk" "tape" "[I") := jG_of 369 (by decide +kernel) (by decide +kernel)
theorem g_305 : jG (Jvm.Cond.fieldLink "FactorDesk" (13 : Nat) "FactorDesk" "taped" "I") := jG_of 370 (by decide +kernel) (by decide +kernel)
theorem g_27 : jG (Jvm.Cond.classLink "FactorDesk" (17 : Nat) "FactorDesk$Poly") := jG_of 92 (by decide +kernel) (by decide +kernel)
theorem g_29 : jG (Jvm.Cond.methodLink "FactorDesk" (19 : Nat) ({ cls := "FactorDesk$Poly", name := "<init>", desc := "()V" } : Jvm.MethodName)) := jG_of 94 (by decide +kernel) (by decide +kernel)
theorem g_306 : jG (Jvm.Cond.fieldLink "FactorDesk" (20 : Nat) "FactorDesk" "polynomial" "LFactorDesk$Poly;") := jG_of 371 (by decide +kernel) (by decide +kernel)
theorem g_57 : jG (Jvm.Cond.methodLink "FactorDesk" (24 : Nat) ({ cls := "FactorDesk$Poly", name := "setNumber", desc := "(J)V" } : Jvm.MethodName)) := jG_of 122 (by decide +kernel) (by decide +kernel)
theorem g_60 : jG (Jvm.Cond.code ({ cls := "FactorDesk$Poly", name := "setNumber", desc := "(J)V" } : Jvm.MethodName) prog_7_method_3_code (4 : Nat) (Option.none : Option Jvm.ClassFile.FieldType)) := jG_of 125 (by decide +kernel) (by decide +kernel)
theorem g_58 : jG (Jvm.Cond.instanceMethod ({ cls := "FactorDesk$Poly", name := "setNumber", desc := "(J)V" } : Jvm.MethodName)) := jG_of 123 (by decide +kernel) (by decide +kernel)
theorem g_59 : jG (Jvm.Cond.selects "FactorDesk$Poly" ({ cls := "FactorDesk$Poly", name := "setNumber", desc := "(J)V" } : Jvm.MethodName) ({ cls := "FactorDesk$Poly", name := "setNumber", desc := "(J)V" } : Jvm.MethodName)) := jG_of 124 (by decide +kernel) (by decide +kernel)
theorem g_307 : jG (Jvm.Cond.fieldLink "FactorDesk" (28 : Nat) "FactorDesk" "result" "LFactorDesk$Poly;") := jG_of 372 (by decide +kernel) (by decide +kernel)
theorem g_308 : jG (Jvm.Cond.fieldLink "FactorDesk" (31 : Nat) "FactorDesk" "operand" "LFactorDesk$Poly;") := jG_of 373 (by decide +kernel) (by decide +kernel)
theorem g_309 : jG (Jvm.Cond.fieldLink "FactorDesk" (34 : Nat) "FactorDesk" "latestDivisor" "LFactorDesk$Poly;") := jG_of 374 (by decide +kernel) (by decide +kernel)
theorem g_61 : jG (Jvm.Cond.classLink "FactorDesk" (37 : Nat) "FactorDesk$FactorList") := jG_of 126 (by decide +kernel) (by decide +kernel)
theorem g_63 : jG (Jvm.Cond.methodLink "FactorDesk" (39 : Nat) ({ cls := "FactorDesk$FactorList", name := "<init>", desc := "()V" } : Jvm.MethodName)) := jG_of 128 (by decide +kernel) (by decide +kernel)
theorem g_310 : jG (Jvm.Cond.fieldLink "FactorDesk" (40 : Nat) "FactorDesk" "told" "LFactorDesk$FactorList;") := jG_of 375 (by decide +kernel) (by decide +kernel)
theorem g_86 : jG (Jvm.Cond.classLink "FactorDesk" (44 : Nat) "FactorDesk$Splitter") := jG_of 151 (by decide +kernel) (by decide +kernel)
theorem g_87 : jG (Jvm.Cond.instantiable "FactorDesk$Splitter" (9 : Nat)) := jG_of 152 (by decide +kernel) (by decide +kernel)
theorem g_4 : jG (Jvm.Cond.initialized "FactorDesk$Splitter") := jG_of 69 (by decide +kernel) (by decide +kernel)
theorem g_88 : jG (Jvm.Cond.methodLink "FactorDesk" (46 : Nat) ({ cls := "FactorDesk$Splitter", name := "<init>", desc := "()V" } : Jvm.MethodName)) := jG_of 153 (by decide +kernel) (by decide +kernel)
theorem g_90 : jG (Jvm.Cond.code ({ cls := "FactorDesk$Splitter", name := "<init>", desc := "()V" } : Jvm.MethodName) prog_9_method_1_code (1 : Nat) (Option.none : Option Jvm.ClassFile.FieldType)) := jG_of 155 (by decide +kernel) (by decide +kernel)
theorem g_89 : jG (Jvm.Cond.instanceMethod ({ cls := "FactorDesk$Splitter", name := "<init>", desc := "()V" } : Jvm.MethodName)) := jG_of 154 (by decide +kernel) (by decide +kernel)
theorem g_311 : jG (Jvm.Cond.fieldLink "FactorDesk" (47 : Nat) "FactorDesk" "splitter" "LFactorDesk$Splitter;") := jG_of 376 (by decide +kernel) (by decide +kernel)
theorem g_276 : jG (Jvm.Cond.fieldLink "FactorDesk" (51 : Nat) "FactorDesk$Splitter" "commonDivisor" "LFactorDesk$CommonDivisor;") := jG_of 341 (by decide +kernel) (by decide +kernel)
theorem g_312 : jG (Jvm.Cond.fieldLink "FactorDesk" (55 : Nat) "FactorDesk" "commonDivisor" "LFactorDesk$CommonDivisor;") := jG_of 377 (by decide +kernel) (by decide +kernel)
theorem g_278 : jG (Jvm.Cond.fieldLink "FactorDesk" (56 : Nat) "FactorDesk$Splitter" "division" "LFactorDesk$Division;") := jG_of 343 (by decide +kernel) (by decide +kernel)
theorem g_313 : jG (Jvm.Cond.fieldLink "FactorDesk" (60 : Nat) "FactorDesk" "division" "LFactorDesk$Division;") := jG_of 378 (by decide +kernel) (by decide +kernel)
theorem g_854 : jG (Jvm.Cond.methodLink "FactorDeskModel" (3 : Nat) ({ cls := "java/lang/Object", name := "<init>", desc := "()V" } : Jvm.MethodName)) := jG_of 919 (by decide +kernel) (by decide +kernel)
theorem g_856 : jG (Jvm.Cond.fieldLink "FactorDeskModel" (9 : Nat) "FactorDeskModel" "tape" "[J") := jG_of 921 (by decide +kernel) (by decide +kernel)
theorem g_858 : jG (Jvm.Cond.fieldLink "FactorDeskModel" (13 : Nat) "FactorDeskModel" "one" "[J") := jG_of 923 (by decide +kernel) (by decide +kernel)
theorem g_860 : jG (Jvm.Cond.fieldLink "FactorDeskModel" (16 : Nat) "FactorDeskModel" "divisor" "[J") := jG_of 925 (by decide +kernel) (by decide +kernel)
theorem g_863 : jG (Jvm.Cond.fieldLink "FactorDeskModel" (19 : Nat) "FactorDeskModel" "shownPart" "[J") := jG_of 928 (by decide +kernel) (by decide +kernel)
theorem g_864 : jG (Jvm.Cond.fieldLink "FactorDeskModel" (22 : Nat) "FactorDeskModel" "shownDegree" "[I") := jG_of 929 (by decide +kernel) (by decide +kernel)
theorem g_865 : jG (Jvm.Cond.fieldLink "FactorDeskModel" (26 : Nat) "FactorDeskModel" "shownTimes" "[I") := jG_of 930 (by decide +kernel) (by decide +kernel)
theorem g_867 : jG (Jvm.Cond.fieldLink "FactorDeskModel" (29 : Nat) "FactorDeskModel" "part" "[J") := jG_of 932 (by decide +kernel) (by decide +kernel)
theorem g_868 : jG (Jvm.Cond.fieldLink "FactorDeskModel" (32 : Nat) "FactorDeskModel" "partDegree" "[I") := jG_of 933 (by decide +kernel) (by decide +kernel)
theorem g_869 : jG (Jvm.Cond.fieldLink "FactorDeskModel" (35 : Nat) "FactorDeskModel" "partTimes" "[I") := jG_of 934 (by decide +kernel) (by decide +kernel)
theorem g_872 : jG (Jvm.Cond.fieldLink "FactorDeskModel" (38 : Nat) "FactorDeskModel" "cells" "[J") := jG_of 937 (by decide +kernel) (by decide +kernel)
theorem g_873 : jG (Jvm.Cond.fieldLink "FactorDeskModel" (41 : Nat) "FactorDeskModel" "deg" "[I") := jG_of 938 (by decide +kernel) (by decide +kernel)
theorem g_874 : jG (Jvm.Cond.fieldLink "FactorDeskModel" (44 : Nat) "FactorDeskModel" "w" "[J") := jG_of 939 (by decide +kernel) (by decide +kernel)
theorem g_875 : jG (Jvm.Cond.fieldLink "FactorDeskModel" (47 : Nat) "FactorDeskModel" "t" "[J") := jG_of 940 (by decide +kernel) (by decide +kernel)
theorem g_876 : jG (Jvm.Cond.fieldLink "FactorDeskModel" (50 : Nat) "FactorDeskModel" "u" "[J") := jG_of 941 (by decide +kernel) (by decide +kernel)
theorem g_877 : jG (Jvm.Cond.fieldLink "FactorDeskModel" (53 : Nat) "FactorDeskModel" "zero" "[J") := jG_of 942 (by decide +kernel) (by decide +kernel)
theorem g_878 : jG (Jvm.Cond.fieldLink "FactorDeskModel" (56 : Nat) "FactorDeskModel" "chance" "J") := jG_of 943 (by decide +kernel) (by decide +kernel)
theorem g_880 : jG (Jvm.Cond.fieldLink "FactorDeskModel" (60 : Nat) "FactorDeskModel" "times" "[I") := jG_of 945 (by decide +kernel) (by decide +kernel)
theorem g_961 : jG (Jvm.Cond.arrayClass Jvm.ClassFile.FieldType.boolean) := jG_of 1026 (by decide +kernel) (by decide +kernel)
theorem g_881 : jG (Jvm.Cond.fieldLink "FactorDeskModel" (63 : Nat) "FactorDeskModel" "used" "[Z") := jG_of 946 (by decide +kernel) (by decide +kernel)
theorem g_882 : jG (Jvm.Cond.fieldLink "FactorDeskModel" (67 : Nat) "FactorDeskModel" "candidate" "[J") := jG_of 947 (by decide +kernel) (by decide +kernel)
theorem g_885 : jG (Jvm.Cond.fieldLink "FactorDeskModel" (70 : Nat) "FactorDeskModel" "left" "[J") := jG_of 950 (by decide +kernel) (by decide +kernel)
theorem g_886 : jG (Jvm.Cond.fieldLink "FactorDeskModel" (73 : Nat) "FactorDeskModel" "unit" "[J") := jG_of 951 (by decide +kernel) (by decide +kernel)
theorem g_887 : jG (Jvm.Cond.fieldLink "FactorDeskModel" (76 : Nat) "FactorDeskModel" "minus" "[Z") := jG_of 952 (by decide +kernel) (by decide +kernel)
theorem g_888 : jG (Jvm.Cond.fieldLink "FactorDeskModel" (79 : Nat) "FactorDeskModel" "other" "[J") := jG_of 953 (by decide +kernel) (by decide +kernel)
