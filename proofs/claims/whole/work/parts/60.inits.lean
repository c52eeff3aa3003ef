def MI (M : Mt) : Prop := Cond.code M.1 M.2.1 M.2.2.1 M.2.2.2.1 ∈ gtbl ∧ Cond.initialized M.1.cls ∈ gtbl ∧ Cond.instanceMethod M.1 ∈ gtbl ∧ (M.1.cls ≠ "java/lang/invoke/MethodHandle" ∧ M.1.cls ≠ "java/lang/invoke/VarHandle" ∧ (parseMethodDescriptor M.1.desc).map (fun d => d.parameters.length) = some 0) ∧ plainName M.1.cls = true ∧ M.1.name = "<init>" ∧ M.2.2.2.1 = none
theorem oI_inst : Cond.instanceMethod objectInit ∈ gtbl := tb 18 (by decide +kernel) rfl
theorem oI_code : Cond.code objectInit ⟨#[0xb1]⟩ 1 none ∈ gtbl := tb 19 (by decide +kernel) rfl
theorem ac_I : Cond.arrayClass .int ∈ gtbl := tb 31 (by decide +kernel) rfl
theorem ac_Z : Cond.arrayClass .boolean ∈ gtbl := tb 763 (by decide +kernel) rfl
def M_t_init : Mt := (⟨"QuantisedLists$Turn", "<init>", "()V"⟩, prog_9_method_1_code, 1, none, 1, 20)
theorem MI_t_init : MI M_t_init := ⟨tb 24 (by decide +kernel) rfl, tb 2 (by decide +kernel) rfl, tb 23 (by decide +kernel) rfl, ⟨by decide +kernel, by decide +kernel, by decide +kernel⟩, by decide +kernel, rfl, rfl⟩
theorem d_t_init_0 : decode M_t_init.2.1 0 = .ok (.aload_n 0, 1) := by decide +kernel
theorem d_t_init_1 : decode M_t_init.2.1 1 = .ok (.invokespecial 3, 3) := by decide +kernel
theorem d_t_init_4 : decode M_t_init.2.1 4 = .ok (.aload_n 0, 1) := by decide +kernel
theorem d_t_init_5 : decode M_t_init.2.1 5 = .ok (.iconst 4, 1) := by decide +kernel
theorem d_t_init_6 : decode M_t_init.2.1 6 = .ok (.newarray .int, 2) := by decide +kernel
theorem d_t_init_8 : decode M_t_init.2.1 8 = .ok (.dup, 1) := by decide +kernel
theorem d_t_init_9 : decode M_t_init.2.1 9 = .ok (.iconst 0, 1) := by decide +kernel
theorem d_t_init_10 : decode M_t_init.2.1 10 = .ok (.iconst 1, 1) := by decide +kernel
theorem d_t_init_11 : decode M_t_init.2.1 11 = .ok (.iastore, 1) := by decide +kernel
theorem d_t_init_12 : decode M_t_init.2.1 12 = .ok (.dup, 1) := by decide +kernel
theorem d_t_init_13 : decode M_t_init.2.1 13 = .ok (.iconst 1, 1) := by decide +kernel
theorem d_t_init_14 : decode M_t_init.2.1 14 = .ok (.iconst 2, 1) := by decide +kernel
theorem d_t_init_15 : decode M_t_init.2.1 15 = .ok (.iastore, 1) := by decide +kernel
theorem d_t_init_16 : decode M_t_init.2.1 16 = .ok (.dup, 1) := by decide +kernel
theorem d_t_init_17 : decode M_t_init.2.1 17 = .ok (.iconst 2, 1) := by decide +kernel
theorem d_t_init_18 : decode M_t_init.2.1 18 = .ok (.iconst 3, 1) := by decide +kernel
theorem d_t_init_19 : decode M_t_init.2.1 19 = .ok (.iastore, 1) := by decide +kernel
theorem d_t_init_20 : decode M_t_init.2.1 20 = .ok (.dup, 1) := by decide +kernel
theorem d_t_init_21 : decode M_t_init.2.1 21 = .ok (.iconst 3, 1) := by decide +kernel
theorem d_t_init_22 : decode M_t_init.2.1 22 = .ok (.iconst 4, 1) := by decide +kernel
theorem d_t_init_23 : decode M_t_init.2.1 23 = .ok (.iastore, 1) := by decide +kernel
theorem d_t_init_24 : decode M_t_init.2.1 24 = .ok (.putfield 9, 3) := by decide +kernel
theorem d_t_init_27 : decode M_t_init.2.1 27 = .ok (.return_, 1) := by decide +kernel
def M_s_init : Mt := (⟨"QuantisedLists$Samples", "<init>", "()V"⟩, prog_8_method_1_code, 1, none, 1, 20)
theorem MI_s_init : MI M_s_init := ⟨tb 36 (by decide +kernel) rfl, tb 3 (by decide +kernel) rfl, tb 35 (by decide +kernel) rfl, ⟨by decide +kernel, by decide +kernel, by decide +kernel⟩, by decide +kernel, rfl, rfl⟩
theorem d_s_init_0 : decode M_s_init.2.1 0 = .ok (.aload_n 0, 1) := by decide +kernel
theorem d_s_init_1 : decode M_s_init.2.1 1 = .ok (.invokespecial 3, 3) := by decide +kernel
theorem d_s_init_4 : decode M_s_init.2.1 4 = .ok (.aload_n 0, 1) := by decide +kernel
theorem d_s_init_5 : decode M_s_init.2.1 5 = .ok (.bipush 24, 2) := by decide +kernel
theorem d_s_init_7 : decode M_s_init.2.1 7 = .ok (.iconst 4, 1) := by decide +kernel
theorem d_s_init_8 : decode M_s_init.2.1 8 = .ok (.multianewarray 9 2, 4) := by decide +kernel
theorem d_s_init_12 : decode M_s_init.2.1 12 = .ok (.putfield 11, 3) := by decide +kernel
theorem d_s_init_15 : decode M_s_init.2.1 15 = .ok (.return_, 1) := by decide +kernel
def M_c_init : Mt := (⟨"QuantisedLists$Clustering", "<init>", "()V"⟩, prog_3_method_1_code, 1, none, 1, 20)
theorem MI_c_init : MI M_c_init := ⟨tb 52 (by decide +kernel) rfl, tb 4 (by decide +kernel) rfl, tb 51 (by decide +kernel) rfl, ⟨by decide +kernel, by decide +kernel, by decide +kernel⟩, by decide +kernel, rfl, rfl⟩
theorem d_c_init_0 : decode M_c_init.2.1 0 = .ok (.aload_n 0, 1) := by decide +kernel
theorem d_c_init_1 : decode M_c_init.2.1 1 = .ok (.invokespecial 3, 3) := by decide +kernel
theorem d_c_init_4 : decode M_c_init.2.1 4 = .ok (.aload_n 0, 1) := by decide +kernel
theorem d_c_init_5 : decode M_c_init.2.1 5 = .ok (.bipush 24, 2) := by decide +kernel
theorem d_c_init_7 : decode M_c_init.2.1 7 = .ok (.iconst 4, 1) := by decide +kernel
theorem d_c_init_8 : decode M_c_init.2.1 8 = .ok (.multianewarray 9 2, 4) := by decide +kernel
theorem d_c_init_12 : decode M_c_init.2.1 12 = .ok (.putfield 11, 3) := by decide +kernel
theorem d_c_init_15 : decode M_c_init.2.1 15 = .ok (.aload_n 0, 1) := by decide +kernel
theorem d_c_init_16 : decode M_c_init.2.1 16 = .ok (.iconst 4, 1) := by decide +kernel
theorem d_c_init_17 : decode M_c_init.2.1 17 = .ok (.iconst 4, 1) := by decide +kernel
theorem d_c_init_18 : decode M_c_init.2.1 18 = .ok (.multianewarray 9 2, 4) := by decide +kernel
theorem d_c_init_22 : decode M_c_init.2.1 22 = .ok (.putfield 16, 3) := by decide +kernel
theorem d_c_init_25 : decode M_c_init.2.1 25 = .ok (.aload_n 0, 1) := by decide +kernel
theorem d_c_init_26 : decode M_c_init.2.1 26 = .ok (.iconst 4, 1) := by decide +kernel
theorem d_c_init_27 : decode M_c_init.2.1 27 = .ok (.iconst 4, 1) := by decide +kernel
theorem d_c_init_28 : decode M_c_init.2.1 28 = .ok (.multianewarray 9 2, 4) := by decide +kernel
theorem d_c_init_32 : decode M_c_init.2.1 32 = .ok (.putfield 19, 3) := by decide +kernel
theorem d_c_init_35 : decode M_c_init.2.1 35 = .ok (.aload_n 0, 1) := by decide +kernel
theorem d_c_init_36 : decode M_c_init.2.1 36 = .ok (.iconst 4, 1) := by decide +kernel
theorem d_c_init_37 : decode M_c_init.2.1 37 = .ok (.newarray .int, 2) := by decide +kernel
theorem d_c_init_39 : decode M_c_init.2.1 39 = .ok (.putfield 22, 3) := by decide +kernel
theorem d_c_init_42 : decode M_c_init.2.1 42 = .ok (.aload_n 0, 1) := by decide +kernel
theorem d_c_init_43 : decode M_c_init.2.1 43 = .ok (.iconst 4, 1) := by decide +kernel
theorem d_c_init_44 : decode M_c_init.2.1 44 = .ok (.newarray .int, 2) := by decide +kernel
theorem d_c_init_46 : decode M_c_init.2.1 46 = .ok (.putfield 26, 3) := by decide +kernel
theorem d_c_init_49 : decode M_c_init.2.1 49 = .ok (.return_, 1) := by decide +kernel
def M_z_init : Mt := (⟨"QuantisedLists$Quantiser", "<init>", "()V"⟩, prog_7_method_1_code, 1, none, 1, 20)
theorem MI_z_init : MI M_z_init := ⟨tb 89 (by decide +kernel) rfl, tb 5 (by decide +kernel) rfl, tb 88 (by decide +kernel) rfl, ⟨by decide +kernel, by decide +kernel, by decide +kernel⟩, by decide +kernel, rfl, rfl⟩
theorem d_z_init_0 : decode M_z_init.2.1 0 = .ok (.aload_n 0, 1) := by decide +kernel
theorem d_z_init_1 : decode M_z_init.2.1 1 = .ok (.invokespecial 3, 3) := by decide +kernel
theorem d_z_init_4 : decode M_z_init.2.1 4 = .ok (.aload_n 0, 1) := by decide +kernel
theorem d_z_init_5 : decode M_z_init.2.1 5 = .ok (.iconst 4, 1) := by decide +kernel
theorem d_z_init_6 : decode M_z_init.2.1 6 = .ok (.iconst 4, 1) := by decide +kernel
theorem d_z_init_7 : decode M_z_init.2.1 7 = .ok (.multianewarray 9 2, 4) := by decide +kernel
theorem d_z_init_11 : decode M_z_init.2.1 11 = .ok (.putfield 11, 3) := by decide +kernel
theorem d_z_init_14 : decode M_z_init.2.1 14 = .ok (.aload_n 0, 1) := by decide +kernel
theorem d_z_init_15 : decode M_z_init.2.1 15 = .ok (.bipush 16, 2) := by decide +kernel
theorem d_z_init_17 : decode M_z_init.2.1 17 = .ok (.iconst 2, 1) := by decide +kernel
theorem d_z_init_18 : decode M_z_init.2.1 18 = .ok (.multianewarray 9 2, 4) := by decide +kernel
theorem d_z_init_22 : decode M_z_init.2.1 22 = .ok (.putfield 16, 3) := by decide +kernel
theorem d_z_init_25 : decode M_z_init.2.1 25 = .ok (.aload_n 0, 1) := by decide +kernel
theorem d_z_init_26 : decode M_z_init.2.1 26 = .ok (.iconst 4, 1) := by decide +kernel
theorem d_z_init_27 : decode M_z_init.2.1 27 = .ok (.newarray .int, 2) := by decide +kernel
theorem d_z_init_29 : decode M_z_init.2.1 29 = .ok (.putfield 19, 3) := by decide +kernel
theorem d_z_init_32 : decode M_z_init.2.1 32 = .ok (.return_, 1) := by decide +kernel
def M_e_init : Mt := (⟨"QuantisedLists$Entry", "<init>", "()V"⟩, prog_4_method_1_code, 1, none, 1, 20)
theorem MI_e_init : MI M_e_init := ⟨tb 131 (by decide +kernel) rfl, tb 7 (by decide +kernel) rfl, tb 130 (by decide +kernel) rfl, ⟨by decide +kernel, by decide +kernel, by decide +kernel⟩, by decide +kernel, rfl, rfl⟩
theorem d_e_init_0 : decode M_e_init.2.1 0 = .ok (.aload_n 0, 1) := by decide +kernel
theorem d_e_init_1 : decode M_e_init.2.1 1 = .ok (.invokespecial 3, 3) := by decide +kernel
theorem d_e_init_4 : decode M_e_init.2.1 4 = .ok (.aload_n 0, 1) := by decide +kernel
theorem d_e_init_5 : decode M_e_init.2.1 5 = .ok (.iconst 4, 1) := by decide +kernel
theorem d_e_init_6 : decode M_e_init.2.1 6 = .ok (.newarray .int, 2) := by decide +kernel
theorem d_e_init_8 : decode M_e_init.2.1 8 = .ok (.putfield 9, 3) := by decide +kernel
theorem d_e_init_11 : decode M_e_init.2.1 11 = .ok (.aload_n 0, 1) := by decide +kernel
theorem d_e_init_12 : decode M_e_init.2.1 12 = .ok (.iconst 4, 1) := by decide +kernel
theorem d_e_init_13 : decode M_e_init.2.1 13 = .ok (.newarray .int, 2) := by decide +kernel
theorem d_e_init_15 : decode M_e_init.2.1 15 = .ok (.putfield 15, 3) := by decide +kernel
theorem d_e_init_18 : decode M_e_init.2.1 18 = .ok (.aload_n 0, 1) := by decide +kernel
theorem d_e_init_19 : decode M_e_init.2.1 19 = .ok (.iconst 4, 1) := by decide +kernel
theorem d_e_init_20 : decode M_e_init.2.1 20 = .ok (.newarray .int, 2) := by decide +kernel
theorem d_e_init_22 : decode M_e_init.2.1 22 = .ok (.putfield 18, 3) := by decide +kernel
theorem d_e_init_25 : decode M_e_init.2.1 25 = .ok (.return_, 1) := by decide +kernel
def M_b_init : Mt := (⟨"QuantisedLists$EntryTable", "<init>", "()V"⟩, prog_5_method_1_code, 2, none, 2, 40)
theorem MI_b_init : MI M_b_init := ⟨tb 124 (by decide +kernel) rfl, tb 6 (by decide +kernel) rfl, tb 123 (by decide +kernel) rfl, ⟨by decide +kernel, by decide +kernel, by decide +kernel⟩, by decide +kernel, rfl, rfl⟩
theorem d_b_init_0 : decode M_b_init.2.1 0 = .ok (.aload_n 0, 1) := by decide +kernel
theorem d_b_init_1 : decode M_b_init.2.1 1 = .ok (.invokespecial 3, 3) := by decide +kernel
theorem d_b_init_4 : decode M_b_init.2.1 4 = .ok (.aload_n 0, 1) := by decide +kernel
theorem d_b_init_5 : decode M_b_init.2.1 5 = .ok (.bipush 20, 2) := by decide +kernel
theorem d_b_init_7 : decode M_b_init.2.1 7 = .ok (.anewarray 9, 3) := by decide +kernel
theorem d_b_init_10 : decode M_b_init.2.1 10 = .ok (.putfield 11, 3) := by decide +kernel
theorem d_b_init_13 : decode M_b_init.2.1 13 = .ok (.iconst 0, 1) := by decide +kernel
theorem d_b_init_14 : decode M_b_init.2.1 14 = .ok (.istore_n 1, 1) := by decide +kernel
theorem d_b_init_15 : decode M_b_init.2.1 15 = .ok (.iload_n 1, 1) := by decide +kernel
theorem d_b_init_16 : decode M_b_init.2.1 16 = .ok (.bipush 20, 2) := by decide +kernel
theorem d_b_init_18 : decode M_b_init.2.1 18 = .ok (.if_icmp .ge 22, 3) := by decide +kernel
theorem d_b_init_21 : decode M_b_init.2.1 21 = .ok (.aload_n 0, 1) := by decide +kernel
theorem d_b_init_22 : decode M_b_init.2.1 22 = .ok (.getfield 11, 3) := by decide +kernel
theorem d_b_init_25 : decode M_b_init.2.1 25 = .ok (.iload_n 1, 1) := by decide +kernel
theorem d_b_init_26 : decode M_b_init.2.1 26 = .ok (.new 9, 3) := by decide +kernel
theorem d_b_init_29 : decode M_b_init.2.1 29 = .ok (.dup, 1) := by decide +kernel
theorem d_b_init_30 : decode M_b_init.2.1 30 = .ok (.invokespecial 17, 3) := by decide +kernel
theorem d_b_init_33 : decode M_b_init.2.1 33 = .ok (.aastore, 1) := by decide +kernel
theorem d_b_init_34 : decode M_b_init.2.1 34 = .ok (.iinc 1 1, 3) := by decide +kernel
theorem d_b_init_37 : decode M_b_init.2.1 37 = .ok (.goto (-22), 3) := by decide +kernel
theorem d_b_init_40 : decode M_b_init.2.1 40 = .ok (.return_, 1) := by decide +kernel
def M_f_init : Mt := (⟨"QuantisedLists$Finder", "<init>", "()V"⟩, prog_6_method_1_code, 1, none, 1, 20)
theorem MI_f_init : MI M_f_init := ⟨tb 174 (by decide +kernel) rfl, tb 8 (by decide +kernel) rfl, tb 173 (by decide +kernel) rfl, ⟨by decide +kernel, by decide +kernel, by decide +kernel⟩, by decide +kernel, rfl, rfl⟩
theorem d_f_init_0 : decode M_f_init.2.1 0 = .ok (.aload_n 0, 1) := by decide +kernel
theorem d_f_init_1 : decode M_f_init.2.1 1 = .ok (.invokespecial 3, 3) := by decide +kernel
theorem d_f_init_4 : decode M_f_init.2.1 4 = .ok (.aload_n 0, 1) := by decide +kernel
theorem d_f_init_5 : decode M_f_init.2.1 5 = .ok (.iconst 4, 1) := by decide +kernel
theorem d_f_init_6 : decode M_f_init.2.1 6 = .ok (.newarray .int, 2) := by decide +kernel
theorem d_f_init_8 : decode M_f_init.2.1 8 = .ok (.putfield 9, 3) := by decide +kernel
theorem d_f_init_11 : decode M_f_init.2.1 11 = .ok (.aload_n 0, 1) := by decide +kernel
theorem d_f_init_12 : decode M_f_init.2.1 12 = .ok (.iconst 4, 1) := by decide +kernel
theorem d_f_init_13 : decode M_f_init.2.1 13 = .ok (.newarray .int, 2) := by decide +kernel
theorem d_f_init_15 : decode M_f_init.2.1 15 = .ok (.putfield 15, 3) := by decide +kernel
theorem d_f_init_18 : decode M_f_init.2.1 18 = .ok (.aload_n 0, 1) := by decide +kernel
theorem d_f_init_19 : decode M_f_init.2.1 19 = .ok (.bipush 20, 2) := by decide +kernel
theorem d_f_init_21 : decode M_f_init.2.1 21 = .ok (.newarray .int, 2) := by decide +kernel
theorem d_f_init_23 : decode M_f_init.2.1 23 = .ok (.putfield 18, 3) := by decide +kernel
theorem d_f_init_26 : decode M_f_init.2.1 26 = .ok (.aload_n 0, 1) := by decide +kernel
theorem d_f_init_27 : decode M_f_init.2.1 27 = .ok (.bipush 20, 2) := by decide +kernel
theorem d_f_init_29 : decode M_f_init.2.1 29 = .ok (.newarray .int, 2) := by decide +kernel
theorem d_f_init_31 : decode M_f_init.2.1 31 = .ok (.putfield 21, 3) := by decide +kernel
theorem d_f_init_34 : decode M_f_init.2.1 34 = .ok (.aload_n 0, 1) := by decide +kernel
theorem d_f_init_35 : decode M_f_init.2.1 35 = .ok (.bipush 20, 2) := by decide +kernel
theorem d_f_init_37 : decode M_f_init.2.1 37 = .ok (.newarray .int, 2) := by decide +kernel
theorem d_f_init_39 : decode M_f_init.2.1 39 = .ok (.putfield 24, 3) := by decide +kernel
theorem d_f_init_42 : decode M_f_init.2.1 42 = .ok (.aload_n 0, 1) := by decide +kernel
theorem d_f_init_43 : decode M_f_init.2.1 43 = .ok (.iconst 1, 1) := by decide +kernel
theorem d_f_init_44 : decode M_f_init.2.1 44 = .ok (.putfield 27, 3) := by decide +kernel
theorem d_f_init_47 : decode M_f_init.2.1 47 = .ok (.aload_n 0, 1) := by decide +kernel
theorem d_f_init_48 : decode M_f_init.2.1 48 = .ok (.iconst 0, 1) := by decide +kernel
theorem d_f_init_49 : decode M_f_init.2.1 49 = .ok (.putfield 31, 3) := by decide +kernel
theorem d_f_init_52 : decode M_f_init.2.1 52 = .ok (.return_, 1) := by decide +kernel
def M_y_init : Mt := (⟨"QuantisedLists$ByteFile", "<init>", "()V"⟩, prog_2_method_1_code, 1, none, 1, 20)
theorem MI_y_init : MI M_y_init := ⟨tb 216 (by decide +kernel) rfl, tb 9 (by decide +kernel) rfl, tb 215 (by decide +kernel) rfl, ⟨by decide +kernel, by decide +kernel, by decide +kernel⟩, by decide +kernel, rfl, rfl⟩
theorem d_y_init_0 : decode M_y_init.2.1 0 = .ok (.aload_n 0, 1) := by decide +kernel
theorem d_y_init_1 : decode M_y_init.2.1 1 = .ok (.invokespecial 3, 3) := by decide +kernel
theorem d_y_init_4 : decode M_y_init.2.1 4 = .ok (.aload_n 0, 1) := by decide +kernel
theorem d_y_init_5 : decode M_y_init.2.1 5 = .ok (.sipush 250, 3) := by decide +kernel
theorem d_y_init_8 : decode M_y_init.2.1 8 = .ok (.newarray .int, 2) := by decide +kernel
theorem d_y_init_10 : decode M_y_init.2.1 10 = .ok (.putfield 11, 3) := by decide +kernel
theorem d_y_init_13 : decode M_y_init.2.1 13 = .ok (.return_, 1) := by decide +kernel
def M_q_init : Mt := (⟨"QuantisedLists", "<init>", "()V"⟩, prog_1_method_1_code, 1, none, 3, 61)
theorem MI_q_init : MI M_q_init := ⟨tb 16 (by decide +kernel) rfl, tb 1 (by decide +kernel) rfl, tb 15 (by decide +kernel) rfl, ⟨by decide +kernel, by decide +kernel, by decide +kernel⟩, by decide +kernel, rfl, rfl⟩
theorem d_q_init_0 : decode M_q_init.2.1 0 = .ok (.aload_n 0, 1) := by decide +kernel
theorem d_q_init_1 : decode M_q_init.2.1 1 = .ok (.invokespecial 1, 3) := by decide +kernel
theorem d_q_init_4 : decode M_q_init.2.1 4 = .ok (.aload_n 0, 1) := by decide +kernel
theorem d_q_init_5 : decode M_q_init.2.1 5 = .ok (.new 7, 3) := by decide +kernel
theorem d_q_init_8 : decode M_q_init.2.1 8 = .ok (.dup, 1) := by decide +kernel
theorem d_q_init_9 : decode M_q_init.2.1 9 = .ok (.invokespecial 9, 3) := by decide +kernel
theorem d_q_init_12 : decode M_q_init.2.1 12 = .ok (.putfield 10, 3) := by decide +kernel
theorem d_q_init_15 : decode M_q_init.2.1 15 = .ok (.aload_n 0, 1) := by decide +kernel
theorem d_q_init_16 : decode M_q_init.2.1 16 = .ok (.new 16, 3) := by decide +kernel
theorem d_q_init_19 : decode M_q_init.2.1 19 = .ok (.dup, 1) := by decide +kernel
theorem d_q_init_20 : decode M_q_init.2.1 20 = .ok (.invokespecial 18, 3) := by decide +kernel
theorem d_q_init_23 : decode M_q_init.2.1 23 = .ok (.putfield 19, 3) := by decide +kernel
theorem d_q_init_26 : decode M_q_init.2.1 26 = .ok (.aload_n 0, 1) := by decide +kernel
theorem d_q_init_27 : decode M_q_init.2.1 27 = .ok (.new 23, 3) := by decide +kernel
theorem d_q_init_30 : decode M_q_init.2.1 30 = .ok (.dup, 1) := by decide +kernel
theorem d_q_init_31 : decode M_q_init.2.1 31 = .ok (.invokespecial 25, 3) := by decide +kernel
theorem d_q_init_34 : decode M_q_init.2.1 34 = .ok (.putfield 26, 3) := by decide +kernel
theorem d_q_init_37 : decode M_q_init.2.1 37 = .ok (.aload_n 0, 1) := by decide +kernel
theorem d_q_init_38 : decode M_q_init.2.1 38 = .ok (.new 30, 3) := by decide +kernel
theorem d_q_init_41 : decode M_q_init.2.1 41 = .ok (.dup, 1) := by decide +kernel
theorem d_q_init_42 : decode M_q_init.2.1 42 = .ok (.invokespecial 32, 3) := by decide +kernel
theorem d_q_init_45 : decode M_q_init.2.1 45 = .ok (.putfield 33, 3) := by decide +kernel
theorem d_q_init_48 : decode M_q_init.2.1 48 = .ok (.aload_n 0, 1) := by decide +kernel
theorem d_q_init_49 : decode M_q_init.2.1 49 = .ok (.new 37, 3) := by decide +kernel
theorem d_q_init_52 : decode M_q_init.2.1 52 = .ok (.dup, 1) := by decide +kernel
theorem d_q_init_53 : decode M_q_init.2.1 53 = .ok (.invokespecial 39, 3) := by decide +kernel
theorem d_q_init_56 : decode M_q_init.2.1 56 = .ok (.putfield 40, 3) := by decide +kernel
theorem d_q_init_59 : decode M_q_init.2.1 59 = .ok (.aload_n 0, 1) := by decide +kernel
theorem d_q_init_60 : decode M_q_init.2.1 60 = .ok (.new 44, 3) := by decide +kernel
theorem d_q_init_63 : decode M_q_init.2.1 63 = .ok (.dup, 1) := by decide +kernel
theorem d_q_init_64 : decode M_q_init.2.1 64 = .ok (.invokespecial 46, 3) := by decide +kernel
theorem d_q_init_67 : decode M_q_init.2.1 67 = .ok (.putfield 47, 3) := by decide +kernel
theorem d_q_init_70 : decode M_q_init.2.1 70 = .ok (.aload_n 0, 1) := by decide +kernel
theorem d_q_init_71 : decode M_q_init.2.1 71 = .ok (.new 51, 3) := by decide +kernel
theorem d_q_init_74 : decode M_q_init.2.1 74 = .ok (.dup, 1) := by decide +kernel
theorem d_q_init_75 : decode M_q_init.2.1 75 = .ok (.invokespecial 53, 3) := by decide +kernel
theorem d_q_init_78 : decode M_q_init.2.1 78 = .ok (.putfield 54, 3) := by decide +kernel
theorem d_q_init_81 : decode M_q_init.2.1 81 = .ok (.return_, 1) := by decide +kernel
def M_m_init : Mt := (⟨"QuantisedListsModel", "<init>", "()V"⟩, prog_11_method_1_code, 2, none, 1, 20)
theorem MI_m_init : MI M_m_init := ⟨tb 661 (by decide +kernel) rfl, tb 10 (by decide +kernel) rfl, tb 660 (by decide +kernel) rfl, ⟨by decide +kernel, by decide +kernel, by decide +kernel⟩, by decide +kernel, rfl, rfl⟩
theorem d_m_init_0 : decode M_m_init.2.1 0 = .ok (.aload_n 0, 1) := by decide +kernel
theorem d_m_init_1 : decode M_m_init.2.1 1 = .ok (.invokespecial 1, 3) := by decide +kernel
theorem d_m_init_4 : decode M_m_init.2.1 4 = .ok (.aload_n 0, 1) := by decide +kernel
theorem d_m_init_5 : decode M_m_init.2.1 5 = .ok (.iconst 4, 1) := by decide +kernel
theorem d_m_init_6 : decode M_m_init.2.1 6 = .ok (.newarray .int, 2) := by decide +kernel
theorem d_m_init_8 : decode M_m_init.2.1 8 = .ok (.putfield 7, 3) := by decide +kernel
theorem d_m_init_11 : decode M_m_init.2.1 11 = .ok (.aload_n 0, 1) := by decide +kernel
theorem d_m_init_12 : decode M_m_init.2.1 12 = .ok (.bipush 96, 2) := by decide +kernel
theorem d_m_init_14 : decode M_m_init.2.1 14 = .ok (.newarray .int, 2) := by decide +kernel
theorem d_m_init_16 : decode M_m_init.2.1 16 = .ok (.putfield 13, 3) := by decide +kernel
theorem d_m_init_19 : decode M_m_init.2.1 19 = .ok (.aload_n 0, 1) := by decide +kernel
theorem d_m_init_20 : decode M_m_init.2.1 20 = .ok (.bipush 16, 2) := by decide +kernel
theorem d_m_init_22 : decode M_m_init.2.1 22 = .ok (.newarray .int, 2) := by decide +kernel
theorem d_m_init_24 : decode M_m_init.2.1 24 = .ok (.putfield 16, 3) := by decide +kernel
theorem d_m_init_27 : decode M_m_init.2.1 27 = .ok (.aload_n 0, 1) := by decide +kernel
theorem d_m_init_28 : decode M_m_init.2.1 28 = .ok (.bipush 32, 2) := by decide +kernel
theorem d_m_init_30 : decode M_m_init.2.1 30 = .ok (.newarray .int, 2) := by decide +kernel
theorem d_m_init_32 : decode M_m_init.2.1 32 = .ok (.putfield 19, 3) := by decide +kernel
theorem d_m_init_35 : decode M_m_init.2.1 35 = .ok (.aload_n 0, 1) := by decide +kernel
theorem d_m_init_36 : decode M_m_init.2.1 36 = .ok (.sipush 1000, 3) := by decide +kernel
theorem d_m_init_39 : decode M_m_init.2.1 39 = .ok (.newarray .boolean, 2) := by decide +kernel
theorem d_m_init_41 : decode M_m_init.2.1 41 = .ok (.putfield 22, 3) := by decide +kernel
theorem d_m_init_44 : decode M_m_init.2.1 44 = .ok (.aload_n 0, 1) := by decide +kernel
theorem d_m_init_45 : decode M_m_init.2.1 45 = .ok (.sipush 4000, 3) := by decide +kernel
theorem d_m_init_48 : decode M_m_init.2.1 48 = .ok (.newarray .int, 2) := by decide +kernel
theorem d_m_init_50 : decode M_m_init.2.1 50 = .ok (.putfield 26, 3) := by decide +kernel
theorem d_m_init_53 : decode M_m_init.2.1 53 = .ok (.aload_n 0, 1) := by decide +kernel
theorem d_m_init_54 : decode M_m_init.2.1 54 = .ok (.bipush 8, 2) := by decide +kernel
theorem d_m_init_56 : decode M_m_init.2.1 56 = .ok (.newarray .int, 2) := by decide +kernel
theorem d_m_init_58 : decode M_m_init.2.1 58 = .ok (.putfield 29, 3) := by decide +kernel
theorem d_m_init_61 : decode M_m_init.2.1 61 = .ok (.aload_n 0, 1) := by decide +kernel
theorem d_m_init_62 : decode M_m_init.2.1 62 = .ok (.bipush 8, 2) := by decide +kernel
theorem d_m_init_64 : decode M_m_init.2.1 64 = .ok (.newarray .int, 2) := by decide +kernel
theorem d_m_init_66 : decode M_m_init.2.1 66 = .ok (.putfield 32, 3) := by decide +kernel
theorem d_m_init_69 : decode M_m_init.2.1 69 = .ok (.aload_n 0, 1) := by decide +kernel
theorem d_m_init_70 : decode M_m_init.2.1 70 = .ok (.sipush 250, 3) := by decide +kernel
theorem d_m_init_73 : decode M_m_init.2.1 73 = .ok (.newarray .int, 2) := by decide +kernel
theorem d_m_init_75 : decode M_m_init.2.1 75 = .ok (.putfield 35, 3) := by decide +kernel
theorem d_m_init_78 : decode M_m_init.2.1 78 = .ok (.aload_n 0, 1) := by decide +kernel
theorem d_m_init_79 : decode M_m_init.2.1 79 = .ok (.iconst 4, 1) := by decide +kernel
theorem d_m_init_80 : decode M_m_init.2.1 80 = .ok (.newarray .int, 2) := by decide +kernel
theorem d_m_init_82 : decode M_m_init.2.1 82 = .ok (.putfield 38, 3) := by decide +kernel
theorem d_m_init_85 : decode M_m_init.2.1 85 = .ok (.aload_n 0, 1) := by decide +kernel
theorem d_m_init_86 : decode M_m_init.2.1 86 = .ok (.iconst 4, 1) := by decide +kernel
theorem d_m_init_87 : decode M_m_init.2.1 87 = .ok (.newarray .int, 2) := by decide +kernel
theorem d_m_init_89 : decode M_m_init.2.1 89 = .ok (.putfield 41, 3) := by decide +kernel
theorem d_m_init_92 : decode M_m_init.2.1 92 = .ok (.aload_n 0, 1) := by decide +kernel
theorem d_m_init_93 : decode M_m_init.2.1 93 = .ok (.iconst 4, 1) := by decide +kernel
theorem d_m_init_94 : decode M_m_init.2.1 94 = .ok (.newarray .int, 2) := by decide +kernel
theorem d_m_init_96 : decode M_m_init.2.1 96 = .ok (.putfield 44, 3) := by decide +kernel
theorem d_m_init_99 : decode M_m_init.2.1 99 = .ok (.aload_n 0, 1) := by decide +kernel
theorem d_m_init_100 : decode M_m_init.2.1 100 = .ok (.iconst 4, 1) := by decide +kernel
theorem d_m_init_101 : decode M_m_init.2.1 101 = .ok (.newarray .int, 2) := by decide +kernel
theorem d_m_init_103 : decode M_m_init.2.1 103 = .ok (.putfield 47, 3) := by decide +kernel
theorem d_m_init_106 : decode M_m_init.2.1 106 = .ok (.aload_n 0, 1) := by decide +kernel
theorem d_m_init_107 : decode M_m_init.2.1 107 = .ok (.bipush 96, 2) := by decide +kernel
theorem d_m_init_109 : decode M_m_init.2.1 109 = .ok (.newarray .int, 2) := by decide +kernel
theorem d_m_init_111 : decode M_m_init.2.1 111 = .ok (.putfield 50, 3) := by decide +kernel
theorem d_m_init_114 : decode M_m_init.2.1 114 = .ok (.aload_n 0, 1) := by decide +kernel
theorem d_m_init_115 : decode M_m_init.2.1 115 = .ok (.bipush 96, 2) := by decide +kernel
theorem d_m_init_117 : decode M_m_init.2.1 117 = .ok (.newarray .int, 2) := by decide +kernel
theorem d_m_init_119 : decode M_m_init.2.1 119 = .ok (.putfield 53, 3) := by decide +kernel
theorem d_m_init_122 : decode M_m_init.2.1 122 = .ok (.aload_n 0, 1) := by decide +kernel
theorem d_m_init_123 : decode M_m_init.2.1 123 = .ok (.bipush 16, 2) := by decide +kernel
theorem d_m_init_125 : decode M_m_init.2.1 125 = .ok (.newarray .int, 2) := by decide +kernel
theorem d_m_init_127 : decode M_m_init.2.1 127 = .ok (.putfield 56, 3) := by decide +kernel
theorem d_m_init_130 : decode M_m_init.2.1 130 = .ok (.aload_n 0, 1) := by decide +kernel
theorem d_m_init_131 : decode M_m_init.2.1 131 = .ok (.bipush 24, 2) := by decide +kernel
theorem d_m_init_133 : decode M_m_init.2.1 133 = .ok (.newarray .int, 2) := by decide +kernel
theorem d_m_init_135 : decode M_m_init.2.1 135 = .ok (.putfield 59, 3) := by decide +kernel
theorem d_m_init_138 : decode M_m_init.2.1 138 = .ok (.aload_n 0, 1) := by decide +kernel
theorem d_m_init_139 : decode M_m_init.2.1 139 = .ok (.iconst 4, 1) := by decide +kernel
theorem d_m_init_140 : decode M_m_init.2.1 140 = .ok (.newarray .int, 2) := by decide +kernel
theorem d_m_init_142 : decode M_m_init.2.1 142 = .ok (.putfield 62, 3) := by decide +kernel
theorem d_m_init_145 : decode M_m_init.2.1 145 = .ok (.aload_n 0, 1) := by decide +kernel
theorem d_m_init_146 : decode M_m_init.2.1 146 = .ok (.bipush 20, 2) := by decide +kernel
theorem d_m_init_148 : decode M_m_init.2.1 148 = .ok (.newarray .int, 2) := by decide +kernel
theorem d_m_init_150 : decode M_m_init.2.1 150 = .ok (.putfield 65, 3) := by decide +kernel
theorem d_m_init_153 : decode M_m_init.2.1 153 = .ok (.aload_n 0, 1) := by decide +kernel
theorem d_m_init_154 : decode M_m_init.2.1 154 = .ok (.bipush 20, 2) := by decide +kernel
theorem d_m_init_156 : decode M_m_init.2.1 156 = .ok (.newarray .int, 2) := by decide +kernel
theorem d_m_init_158 : decode M_m_init.2.1 158 = .ok (.putfield 68, 3) := by decide +kernel
theorem d_m_init_161 : decode M_m_init.2.1 161 = .ok (.aload_n 0, 1) := by decide +kernel
theorem d_m_init_162 : decode M_m_init.2.1 162 = .ok (.bipush 20, 2) := by decide +kernel
theorem d_m_init_164 : decode M_m_init.2.1 164 = .ok (.newarray .int, 2) := by decide +kernel
theorem d_m_init_166 : decode M_m_init.2.1 166 = .ok (.putfield 71, 3) := by decide +kernel
theorem d_m_init_169 : decode M_m_init.2.1 169 = .ok (.aload_n 0, 1) := by decide +kernel
theorem d_m_init_170 : decode M_m_init.2.1 170 = .ok (.bipush 20, 2) := by decide +kernel
theorem d_m_init_172 : decode M_m_init.2.1 172 = .ok (.newarray .boolean, 2) := by decide +kernel
theorem d_m_init_174 : decode M_m_init.2.1 174 = .ok (.putfield 74, 3) := by decide +kernel
theorem d_m_init_177 : decode M_m_init.2.1 177 = .ok (.iconst 0, 1) := by decide +kernel
theorem d_m_init_178 : decode M_m_init.2.1 178 = .ok (.istore_n 1, 1) := by decide +kernel
theorem d_m_init_179 : decode M_m_init.2.1 179 = .ok (.iload_n 1, 1) := by decide +kernel
theorem d_m_init_180 : decode M_m_init.2.1 180 = .ok (.iconst 4, 1) := by decide +kernel
theorem d_m_init_181 : decode M_m_init.2.1 181 = .ok (.if_icmp .ge 18, 3) := by decide +kernel
theorem d_m_init_184 : decode M_m_init.2.1 184 = .ok (.aload_n 0, 1) := by decide +kernel
theorem d_m_init_185 : decode M_m_init.2.1 185 = .ok (.getfield 7, 3) := by decide +kernel
theorem d_m_init_188 : decode M_m_init.2.1 188 = .ok (.iload_n 1, 1) := by decide +kernel
theorem d_m_init_189 : decode M_m_init.2.1 189 = .ok (.iload_n 1, 1) := by decide +kernel
theorem d_m_init_190 : decode M_m_init.2.1 190 = .ok (.iconst 1, 1) := by decide +kernel
theorem d_m_init_191 : decode M_m_init.2.1 191 = .ok (.iadd, 1) := by decide +kernel
theorem d_m_init_192 : decode M_m_init.2.1 192 = .ok (.iastore, 1) := by decide +kernel
theorem d_m_init_193 : decode M_m_init.2.1 193 = .ok (.iinc 1 1, 3) := by decide +kernel
theorem d_m_init_196 : decode M_m_init.2.1 196 = .ok (.goto (-17), 3) := by decide +kernel
theorem d_m_init_199 : decode M_m_init.2.1 199 = .ok (.aload_n 0, 1) := by decide +kernel
theorem d_m_init_200 : decode M_m_init.2.1 200 = .ok (.iconst 1, 1) := by decide +kernel
theorem d_m_init_201 : decode M_m_init.2.1 201 = .ok (.putfield 77, 3) := by decide +kernel
theorem d_m_init_204 : decode M_m_init.2.1 204 = .ok (.return_, 1) := by decide +kernel
theorem LK_l_9 : LK "QuantisedListsLaw" 9 ⟨"QuantisedLists", "<init>", "()V"⟩ := Or.inl (tb 14 (by decide +kernel) rfl)
theorem LO_q : Cond.methodLink "QuantisedLists" 1 objectInit ∈ gtbl := tb 17 (by decide +kernel) rfl
theorem LK_q_9 : LK "QuantisedLists" 9 ⟨"QuantisedLists$Turn", "<init>", "()V"⟩ := Or.inr ⟨"QuantisedLists", tbn 22 (by decide +kernel) rfl⟩
theorem LO_t : Cond.methodLink "QuantisedLists$Turn" 3 objectInit ∈ gtbl := tb 25 (by decide +kernel) rfl
theorem LK_q_18 : LK "QuantisedLists" 18 ⟨"QuantisedLists$Samples", "<init>", "()V"⟩ := Or.inr ⟨"QuantisedLists", tbn 34 (by decide +kernel) rfl⟩
theorem LO_s : Cond.methodLink "QuantisedLists$Samples" 3 objectInit ∈ gtbl := tb 37 (by decide +kernel) rfl
theorem LK_q_25 : LK "QuantisedLists" 25 ⟨"QuantisedLists$Clustering", "<init>", "()V"⟩ := Or.inr ⟨"QuantisedLists", tbn 50 (by decide +kernel) rfl⟩
theorem LO_c : Cond.methodLink "QuantisedLists$Clustering" 3 objectInit ∈ gtbl := tb 53 (by decide +kernel) rfl
theorem LK_q_32 : LK "QuantisedLists" 32 ⟨"QuantisedLists$Quantiser", "<init>", "()V"⟩ := Or.inr ⟨"QuantisedLists", tbn 87 (by decide +kernel) rfl⟩
theorem LO_z : Cond.methodLink "QuantisedLists$Quantiser" 3 objectInit ∈ gtbl := tb 90 (by decide +kernel) rfl
theorem LK_q_39 : LK "QuantisedLists" 39 ⟨"QuantisedLists$EntryTable", "<init>", "()V"⟩ := Or.inl (tb 122 (by decide +kernel) rfl)
theorem LO_b : Cond.methodLink "QuantisedLists$EntryTable" 3 objectInit ∈ gtbl := tb 125 (by decide +kernel) rfl
theorem LK_b_17 : LK "QuantisedLists$EntryTable" 17 ⟨"QuantisedLists$Entry", "<init>", "()V"⟩ := Or.inr ⟨"QuantisedLists", tbn 129 (by decide +kernel) rfl⟩
theorem LO_e : Cond.methodLink "QuantisedLists$Entry" 3 objectInit ∈ gtbl := tb 132 (by decide +kernel) rfl
theorem LK_q_46 : LK "QuantisedLists" 46 ⟨"QuantisedLists$Finder", "<init>", "()V"⟩ := Or.inr ⟨"QuantisedLists", tbn 172 (by decide +kernel) rfl⟩
theorem LO_f : Cond.methodLink "QuantisedLists$Finder" 3 objectInit ∈ gtbl := tb 175 (by decide +kernel) rfl
theorem LK_q_53 : LK "QuantisedLists" 53 ⟨"QuantisedLists$ByteFile", "<init>", "()V"⟩ := Or.inr ⟨"QuantisedLists", tbn 214 (by decide +kernel) rfl⟩
theorem LO_y : Cond.methodLink "QuantisedLists$ByteFile" 3 objectInit ∈ gtbl := tb 217 (by decide +kernel) rfl
theorem LK_l_12 : LK "QuantisedListsLaw" 12 ⟨"QuantisedListsModel", "<init>", "()V"⟩ := Or.inl (tb 659 (by decide +kernel) rfl)
theorem LO_m : Cond.methodLink "QuantisedListsModel" 1 objectInit ∈ gtbl := tb 662 (by decide +kernel) rfl
theorem CK_l_7 : Cond.classLink "QuantisedListsLaw" 7 "QuantisedLists" ∈ gtbl := tb 12 (by decide +kernel) rfl
theorem IN_0 : Cond.instantiable "QuantisedLists" 7 ∈ gtbl := tb 13 (by decide +kernel) rfl
theorem CK_q_7 : Cond.classLink "QuantisedLists" 7 "QuantisedLists$Turn" ∈ gtbl := tb 20 (by decide +kernel) rfl
theorem IN_1 : Cond.instantiable "QuantisedLists$Turn" 1 ∈ gtbl := tb 21 (by decide +kernel) rfl
theorem CK_q_16 : Cond.classLink "QuantisedLists" 16 "QuantisedLists$Samples" ∈ gtbl := tb 32 (by decide +kernel) rfl
theorem IN_2 : Cond.instantiable "QuantisedLists$Samples" 2 ∈ gtbl := tb 33 (by decide +kernel) rfl
theorem CK_s_9 : Cond.classLink "QuantisedLists$Samples" 9 "[[I" ∈ gtbl := tb 38 (by decide +kernel) rfl
theorem CK_q_23 : Cond.classLink "QuantisedLists" 23 "QuantisedLists$Clustering" ∈ gtbl := tb 48 (by decide +kernel) rfl
theorem IN_3 : Cond.instantiable "QuantisedLists$Clustering" 9 ∈ gtbl := tb 49 (by decide +kernel) rfl
theorem CK_c_9 : Cond.classLink "QuantisedLists$Clustering" 9 "[[I" ∈ gtbl := tb 54 (by decide +kernel) rfl
theorem CK_q_30 : Cond.classLink "QuantisedLists" 30 "QuantisedLists$Quantiser" ∈ gtbl := tb 85 (by decide +kernel) rfl
theorem IN_4 : Cond.instantiable "QuantisedLists$Quantiser" 7 ∈ gtbl := tb 86 (by decide +kernel) rfl
theorem CK_z_9 : Cond.classLink "QuantisedLists$Quantiser" 9 "[[I" ∈ gtbl := tb 91 (by decide +kernel) rfl
theorem CK_q_37 : Cond.classLink "QuantisedLists" 37 "QuantisedLists$EntryTable" ∈ gtbl := tb 120 (by decide +kernel) rfl
theorem IN_5 : Cond.instantiable "QuantisedLists$EntryTable" 2 ∈ gtbl := tb 121 (by decide +kernel) rfl
theorem CK_b_9 : Cond.classLink "QuantisedLists$EntryTable" 9 "QuantisedLists$Entry" ∈ gtbl := tb 126 (by decide +kernel) rfl
theorem IN_9 : Cond.instantiable "QuantisedLists$Entry" 5 ∈ gtbl := tb 128 (by decide +kernel) rfl
theorem CK_q_44 : Cond.classLink "QuantisedLists" 44 "QuantisedLists$Finder" ∈ gtbl := tb 170 (by decide +kernel) rfl
theorem IN_6 : Cond.instantiable "QuantisedLists$Finder" 9 ∈ gtbl := tb 171 (by decide +kernel) rfl
theorem CK_q_51 : Cond.classLink "QuantisedLists" 51 "QuantisedLists$ByteFile" ∈ gtbl := tb 212 (by decide +kernel) rfl
theorem IN_7 : Cond.instantiable "QuantisedLists$ByteFile" 2 ∈ gtbl := tb 213 (by decide +kernel) rfl
theorem CK_l_10 : Cond.classLink "QuantisedListsLaw" 10 "QuantisedListsModel" ∈ gtbl := tb 657 (by decide +kernel) rfl
theorem IN_8 : Cond.instantiable "QuantisedListsModel" 33 ∈ gtbl := tb 658 (by decide +kernel) rfl
theorem II_0 : Cond.initialized "QuantisedLists" ∈ gtbl := tb 1 (by decide +kernel) rfl
theorem II_1 : Cond.initialized "QuantisedLists$Turn" ∈ gtbl := tb 2 (by decide +kernel) rfl
theorem II_2 : Cond.initialized "QuantisedLists$Samples" ∈ gtbl := tb 3 (by decide +kernel) rfl
theorem II_3 : Cond.initialized "QuantisedLists$Clustering" ∈ gtbl := tb 4 (by decide +kernel) rfl
theorem II_4 : Cond.initialized "QuantisedLists$Quantiser" ∈ gtbl := tb 5 (by decide +kernel) rfl
theorem II_5 : Cond.initialized "QuantisedLists$EntryTable" ∈ gtbl := tb 6 (by decide +kernel) rfl
theorem II_6 : Cond.initialized "QuantisedLists$Finder" ∈ gtbl := tb 8 (by decide +kernel) rfl
theorem II_7 : Cond.initialized "QuantisedLists$ByteFile" ∈ gtbl := tb 9 (by decide +kernel) rfl
theorem II_8 : Cond.initialized "QuantisedListsModel" ∈ gtbl := tb 10 (by decide +kernel) rfl
theorem II_9 : Cond.initialized "QuantisedLists$Entry" ∈ gtbl := tb 7 (by decide +kernel) rfl
