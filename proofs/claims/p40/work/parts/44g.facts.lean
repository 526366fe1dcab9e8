theorem oi_i : Cond.instanceMethod Lib.objectInit ∈ ch_good := ch_wg 40 (by decide +kernel) (by decide +kernel)
theorem oi_c : Cond.code Lib.objectInit ⟨#[0xb1]⟩ 1 none ∈ ch_good := ch_wg 41 (by decide +kernel) (by decide +kernel)
theorem ac_int : Cond.arrayClass (newarray.typeOf .int) ∈ ch_good := ch_wg 123 (by decide +kernel) (by decide +kernel)
theorem ac_char : Cond.arrayClass (newarray.typeOf .char) ∈ ch_good := ch_wg 237 (by decide +kernel) (by decide +kernel)
theorem ac_long : Cond.arrayClass (newarray.typeOf .long) ∈ ch_good := ch_wg 1343 (by decide +kernel) (by decide +kernel)
def n_d_init : ch_MI := (⟨"ChalkWarrants$Reader", "<init>", "()V"⟩, prog_4_method_1_code, 1, none, 1, 0, [])
theorem nf_d_init : ch_MF n_d_init := ⟨ch_wg 242 (by decide +kernel) (by decide +kernel), ch_wg 8 (by decide +kernel) (by decide +kernel), ⟨by decide, by decide⟩, plainFor_of_name (by decide +kernel), by decide⟩
theorem ni_d_init : Cond.instanceMethod (ch_nm n_d_init) ∈ ch_good := ch_wg 241 (by decide +kernel) (by decide +kernel)
def n_r_init : ch_MI := (⟨"ChalkWarrants$Reasons", "<init>", "()V"⟩, prog_5_method_1_code, 1, none, 1, 0, [])
theorem nf_r_init : ch_MF n_r_init := ⟨ch_wg 148 (by decide +kernel) (by decide +kernel), ch_wg 4 (by decide +kernel) (by decide +kernel), ⟨by decide, by decide⟩, plainFor_of_name (by decide +kernel), by decide⟩
theorem ni_r_init : Cond.instanceMethod (ch_nm n_r_init) ∈ ch_good := ch_wg 147 (by decide +kernel) (by decide +kernel)
def n_s_init : ch_MI := (⟨"ChalkWarrants$Steps", "<init>", "()V"⟩, prog_7_method_1_code, 1, none, 1, 2, [])
theorem nf_s_init : ch_MF n_s_init := ⟨ch_wg 173 (by decide +kernel) (by decide +kernel), ch_wg 6 (by decide +kernel) (by decide +kernel), ⟨by decide, by decide⟩, plainFor_of_name (by decide +kernel), by decide⟩
theorem ni_s_init : Cond.instanceMethod (ch_nm n_s_init) ∈ ch_good := ch_wg 172 (by decide +kernel) (by decide +kernel)
def n_t_init : ch_MI := (⟨"ChalkWarrants$Signs", "<init>", "()V"⟩, prog_6_method_1_code, 1, none, 1, 10, [])
theorem nf_t_init : ch_MF n_t_init := ⟨ch_wg 224 (by decide +kernel) (by decide +kernel), ch_wg 7 (by decide +kernel) (by decide +kernel), ⟨by decide, by decide⟩, plainFor_of_name (by decide +kernel), by decide⟩
theorem ni_t_init : Cond.instanceMethod (ch_nm n_t_init) ∈ ch_good := ch_wg 223 (by decide +kernel) (by decide +kernel)
def n_w_init : ch_MI := (⟨"ChalkWarrants$Ways", "<init>", "()V"⟩, prog_8_method_1_code, 1, none, 1, 9, [])
theorem nf_w_init : ch_MF n_w_init := ⟨ch_wg 253 (by decide +kernel) (by decide +kernel), ch_wg 9 (by decide +kernel) (by decide +kernel), ⟨by decide, by decide⟩, plainFor_of_name (by decide +kernel), by decide⟩
theorem ni_w_init : Cond.instanceMethod (ch_nm n_w_init) ∈ ch_good := ch_wg 252 (by decide +kernel) (by decide +kernel)
def n_y_init : ch_MI := (⟨"ChalkWarrants$Yard", "<init>", "()V"⟩, prog_9_method_1_code, 2, none, 1, 10, [])
theorem nf_y_init : ch_MF n_y_init := ⟨ch_wg 46 (by decide +kernel) (by decide +kernel), ch_wg 2 (by decide +kernel) (by decide +kernel), ⟨by decide, by decide⟩, plainFor_of_name (by decide +kernel), by decide⟩
theorem ni_y_init : Cond.instanceMethod (ch_nm n_y_init) ∈ ch_good := ch_wg 45 (by decide +kernel) (by decide +kernel)
def n_c_init : ch_MI := (⟨"ChalkWarrants$Command", "<init>", "()V"⟩, prog_2_method_1_code, 1, none, 2, 3, [])
theorem nf_c_init : ch_MF n_c_init := ⟨ch_wg 167 (by decide +kernel) (by decide +kernel), ch_wg 5 (by decide +kernel) (by decide +kernel), ⟨by decide, by decide⟩, plainFor_of_name (by decide +kernel), by decide⟩
theorem ni_c_init : Cond.instanceMethod (ch_nm n_c_init) ∈ ch_good := ch_wg 166 (by decide +kernel) (by decide +kernel)
def n_p_init : ch_MI := (⟨"ChalkWarrants$Past", "<init>", "()V"⟩, prog_3_method_1_code, 2, none, 2, 106, [])
theorem nf_p_init : ch_MF n_p_init := ⟨ch_wg 128 (by decide +kernel) (by decide +kernel), ch_wg 3 (by decide +kernel) (by decide +kernel), ⟨by decide, by decide⟩, plainFor_of_name (by decide +kernel), by decide⟩
theorem ni_p_init : Cond.instanceMethod (ch_nm n_p_init) ∈ ch_good := ch_wg 127 (by decide +kernel) (by decide +kernel)
def n_x_init : ch_MI := (⟨"ChalkWarrants", "<init>", "()V"⟩, prog_1_method_1_code, 1, none, 3, 201, [])
theorem nf_x_init : ch_MF n_x_init := ⟨ch_wg 38 (by decide +kernel) (by decide +kernel), ch_wg 1 (by decide +kernel) (by decide +kernel), ⟨by decide, by decide⟩, plainFor_of_name (by decide +kernel), by decide⟩
theorem ni_x_init : Cond.instanceMethod (ch_nm n_x_init) ∈ ch_good := ch_wg 37 (by decide +kernel) (by decide +kernel)
theorem d_d_init_0 : decode (ch_bc n_d_init) 0 = .ok (.aload_n 0, 1) := by decide +kernel
theorem d_d_init_1 : decode (ch_bc n_d_init) 1 = .ok (.invokespecial 3, 3) := by decide +kernel
theorem ol_d_init_3 : Cond.methodLink "ChalkWarrants$Reader" 3 Lib.objectInit ∈ ch_good := ch_wg 243 (by decide +kernel) (by decide +kernel)
theorem d_d_init_4 : decode (ch_bc n_d_init) 4 = .ok (.return_, 1) := by decide +kernel
theorem d_r_init_0 : decode (ch_bc n_r_init) 0 = .ok (.aload_n 0, 1) := by decide +kernel
theorem d_r_init_1 : decode (ch_bc n_r_init) 1 = .ok (.invokespecial 3, 3) := by decide +kernel
theorem ol_r_init_3 : Cond.methodLink "ChalkWarrants$Reasons" 3 Lib.objectInit ∈ ch_good := ch_wg 149 (by decide +kernel) (by decide +kernel)
theorem d_r_init_4 : decode (ch_bc n_r_init) 4 = .ok (.return_, 1) := by decide +kernel
theorem d_s_init_0 : decode (ch_bc n_s_init) 0 = .ok (.aload_n 0, 1) := by decide +kernel
theorem d_s_init_1 : decode (ch_bc n_s_init) 1 = .ok (.invokespecial 3, 3) := by decide +kernel
theorem ol_s_init_3 : Cond.methodLink "ChalkWarrants$Steps" 3 Lib.objectInit ∈ ch_good := ch_wg 174 (by decide +kernel) (by decide +kernel)
theorem d_s_init_4 : decode (ch_bc n_s_init) 4 = .ok (.aload_n 0, 1) := by decide +kernel
theorem d_s_init_5 : decode (ch_bc n_s_init) 5 = .ok (.bipush 12, 2) := by decide +kernel
theorem d_s_init_7 : decode (ch_bc n_s_init) 7 = .ok (.newarray .int, 2) := by decide +kernel
theorem d_s_init_9 : decode (ch_bc n_s_init) 9 = .ok (.putfield 9, 3) := by decide +kernel
theorem pl_s_init_9 : Cond.fieldLink "ChalkWarrants$Steps" 9 (ch_F5 0).1 (ch_F5 0).2.1 (ch_F5 0).2.2.1 ∈ ch_good := ch_wg 175 (by decide +kernel) (by decide +kernel)
theorem d_s_init_12 : decode (ch_bc n_s_init) 12 = .ok (.return_, 1) := by decide +kernel
theorem d_t_init_0 : decode (ch_bc n_t_init) 0 = .ok (.aload_n 0, 1) := by decide +kernel
theorem d_t_init_1 : decode (ch_bc n_t_init) 1 = .ok (.invokespecial 3, 3) := by decide +kernel
theorem ol_t_init_3 : Cond.methodLink "ChalkWarrants$Signs" 3 Lib.objectInit ∈ ch_good := ch_wg 225 (by decide +kernel) (by decide +kernel)
theorem d_t_init_4 : decode (ch_bc n_t_init) 4 = .ok (.aload_n 0, 1) := by decide +kernel
theorem d_t_init_5 : decode (ch_bc n_t_init) 5 = .ok (.bipush 60, 2) := by decide +kernel
theorem d_t_init_7 : decode (ch_bc n_t_init) 7 = .ok (.newarray .char, 2) := by decide +kernel
theorem d_t_init_9 : decode (ch_bc n_t_init) 9 = .ok (.putfield 9, 3) := by decide +kernel
theorem pl_t_init_9 : Cond.fieldLink "ChalkWarrants$Signs" 9 (ch_F6 0).1 (ch_F6 0).2.1 (ch_F6 0).2.2.1 ∈ ch_good := ch_wg 226 (by decide +kernel) (by decide +kernel)
theorem d_t_init_12 : decode (ch_bc n_t_init) 12 = .ok (.return_, 1) := by decide +kernel
theorem d_w_init_0 : decode (ch_bc n_w_init) 0 = .ok (.aload_n 0, 1) := by decide +kernel
theorem d_w_init_1 : decode (ch_bc n_w_init) 1 = .ok (.invokespecial 5, 3) := by decide +kernel
theorem ol_w_init_5 : Cond.methodLink "ChalkWarrants$Ways" 5 Lib.objectInit ∈ ch_good := ch_wg 254 (by decide +kernel) (by decide +kernel)
theorem d_w_init_4 : decode (ch_bc n_w_init) 4 = .ok (.aload_n 0, 1) := by decide +kernel
theorem d_w_init_5 : decode (ch_bc n_w_init) 5 = .ok (.bipush 15, 2) := by decide +kernel
theorem d_w_init_7 : decode (ch_bc n_w_init) 7 = .ok (.newarray .int, 2) := by decide +kernel
theorem d_w_init_9 : decode (ch_bc n_w_init) 9 = .ok (.putfield 11, 3) := by decide +kernel
theorem pl_w_init_11 : Cond.fieldLink "ChalkWarrants$Ways" 11 (ch_F8 0).1 (ch_F8 0).2.1 (ch_F8 0).2.2.1 ∈ ch_good := ch_wg 255 (by decide +kernel) (by decide +kernel)
theorem d_w_init_12 : decode (ch_bc n_w_init) 12 = .ok (.aload_n 0, 1) := by decide +kernel
theorem d_w_init_13 : decode (ch_bc n_w_init) 13 = .ok (.bipush 15, 2) := by decide +kernel
theorem d_w_init_15 : decode (ch_bc n_w_init) 15 = .ok (.newarray .int, 2) := by decide +kernel
theorem d_w_init_17 : decode (ch_bc n_w_init) 17 = .ok (.putfield 15, 3) := by decide +kernel
theorem pl_w_init_15 : Cond.fieldLink "ChalkWarrants$Ways" 15 (ch_F8 1).1 (ch_F8 1).2.1 (ch_F8 1).2.2.1 ∈ ch_good := ch_wg 256 (by decide +kernel) (by decide +kernel)
theorem d_w_init_20 : decode (ch_bc n_w_init) 20 = .ok (.aload_n 0, 1) := by decide +kernel
theorem d_w_init_21 : decode (ch_bc n_w_init) 21 = .ok (.bipush 15, 2) := by decide +kernel
theorem d_w_init_23 : decode (ch_bc n_w_init) 23 = .ok (.newarray .int, 2) := by decide +kernel
theorem d_w_init_25 : decode (ch_bc n_w_init) 25 = .ok (.putfield 18, 3) := by decide +kernel
theorem pl_w_init_18 : Cond.fieldLink "ChalkWarrants$Ways" 18 (ch_F8 2).1 (ch_F8 2).2.1 (ch_F8 2).2.2.1 ∈ ch_good := ch_wg 257 (by decide +kernel) (by decide +kernel)
theorem d_w_init_28 : decode (ch_bc n_w_init) 28 = .ok (.return_, 1) := by decide +kernel
theorem d_y_init_0 : decode (ch_bc n_y_init) 0 = .ok (.aload_n 0, 1) := by decide +kernel
theorem d_y_init_1 : decode (ch_bc n_y_init) 1 = .ok (.invokespecial 3, 3) := by decide +kernel
theorem ol_y_init_3 : Cond.methodLink "ChalkWarrants$Yard" 3 Lib.objectInit ∈ ch_good := ch_wg 47 (by decide +kernel) (by decide +kernel)
theorem d_y_init_4 : decode (ch_bc n_y_init) 4 = .ok (.aload_n 0, 1) := by decide +kernel
theorem d_y_init_5 : decode (ch_bc n_y_init) 5 = .ok (.bipush 12, 2) := by decide +kernel
theorem d_y_init_7 : decode (ch_bc n_y_init) 7 = .ok (.newarray .int, 2) := by decide +kernel
theorem d_y_init_9 : decode (ch_bc n_y_init) 9 = .ok (.putfield 9, 3) := by decide +kernel
theorem pl_y_init_9 : Cond.fieldLink "ChalkWarrants$Yard" 9 (ch_F1 0).1 (ch_F1 0).2.1 (ch_F1 0).2.2.1 ∈ ch_good := ch_wg 48 (by decide +kernel) (by decide +kernel)
theorem d_y_init_12 : decode (ch_bc n_y_init) 12 = .ok (.aload_n 0, 1) := by decide +kernel
theorem d_y_init_13 : decode (ch_bc n_y_init) 13 = .ok (.bipush 12, 2) := by decide +kernel
theorem d_y_init_15 : decode (ch_bc n_y_init) 15 = .ok (.newarray .int, 2) := by decide +kernel
theorem d_y_init_17 : decode (ch_bc n_y_init) 17 = .ok (.putfield 15, 3) := by decide +kernel
theorem pl_y_init_15 : Cond.fieldLink "ChalkWarrants$Yard" 15 (ch_F1 1).1 (ch_F1 1).2.1 (ch_F1 1).2.2.1 ∈ ch_good := ch_wg 51 (by decide +kernel) (by decide +kernel)
theorem d_y_init_20 : decode (ch_bc n_y_init) 20 = .ok (.aload_n 0, 1) := by decide +kernel
theorem d_y_init_21 : decode (ch_bc n_y_init) 21 = .ok (.iconst 5, 1) := by decide +kernel
theorem d_y_init_22 : decode (ch_bc n_y_init) 22 = .ok (.newarray .int, 2) := by decide +kernel
theorem d_y_init_24 : decode (ch_bc n_y_init) 24 = .ok (.putfield 18, 3) := by decide +kernel
theorem pl_y_init_18 : Cond.fieldLink "ChalkWarrants$Yard" 18 (ch_F1 2).1 (ch_F1 2).2.1 (ch_F1 2).2.2.1 ∈ ch_good := ch_wg 54 (by decide +kernel) (by decide +kernel)
theorem d_y_init_27 : decode (ch_bc n_y_init) 27 = .ok (.aload_n 0, 1) := by decide +kernel
theorem d_y_init_28 : decode (ch_bc n_y_init) 28 = .ok (.iconst 5, 1) := by decide +kernel
theorem d_y_init_29 : decode (ch_bc n_y_init) 29 = .ok (.newarray .int, 2) := by decide +kernel
theorem d_y_init_31 : decode (ch_bc n_y_init) 31 = .ok (.putfield 21, 3) := by decide +kernel
theorem pl_y_init_21 : Cond.fieldLink "ChalkWarrants$Yard" 21 (ch_F1 3).1 (ch_F1 3).2.1 (ch_F1 3).2.2.1 ∈ ch_good := ch_wg 57 (by decide +kernel) (by decide +kernel)
theorem d_y_init_34 : decode (ch_bc n_y_init) 34 = .ok (.aload_n 0, 1) := by decide +kernel
theorem d_y_init_35 : decode (ch_bc n_y_init) 35 = .ok (.iconst 5, 1) := by decide +kernel
theorem d_y_init_36 : decode (ch_bc n_y_init) 36 = .ok (.newarray .int, 2) := by decide +kernel
theorem d_y_init_38 : decode (ch_bc n_y_init) 38 = .ok (.putfield 24, 3) := by decide +kernel
theorem pl_y_init_24 : Cond.fieldLink "ChalkWarrants$Yard" 24 (ch_F1 4).1 (ch_F1 4).2.1 (ch_F1 4).2.2.1 ∈ ch_good := ch_wg 60 (by decide +kernel) (by decide +kernel)
theorem d_y_init_41 : decode (ch_bc n_y_init) 41 = .ok (.aload_n 0, 1) := by decide +kernel
theorem d_y_init_42 : decode (ch_bc n_y_init) 42 = .ok (.iconst 5, 1) := by decide +kernel
theorem d_y_init_43 : decode (ch_bc n_y_init) 43 = .ok (.newarray .int, 2) := by decide +kernel
theorem d_y_init_45 : decode (ch_bc n_y_init) 45 = .ok (.putfield 27, 3) := by decide +kernel
theorem pl_y_init_27 : Cond.fieldLink "ChalkWarrants$Yard" 27 (ch_F1 5).1 (ch_F1 5).2.1 (ch_F1 5).2.2.1 ∈ ch_good := ch_wg 63 (by decide +kernel) (by decide +kernel)
theorem d_y_init_48 : decode (ch_bc n_y_init) 48 = .ok (.aload_n 0, 1) := by decide +kernel
theorem d_y_init_49 : decode (ch_bc n_y_init) 49 = .ok (.iconst 5, 1) := by decide +kernel
theorem d_y_init_50 : decode (ch_bc n_y_init) 50 = .ok (.newarray .int, 2) := by decide +kernel
theorem d_y_init_52 : decode (ch_bc n_y_init) 52 = .ok (.putfield 30, 3) := by decide +kernel
theorem pl_y_init_30 : Cond.fieldLink "ChalkWarrants$Yard" 30 (ch_F1 6).1 (ch_F1 6).2.1 (ch_F1 6).2.2.1 ∈ ch_good := ch_wg 65 (by decide +kernel) (by decide +kernel)
theorem d_y_init_55 : decode (ch_bc n_y_init) 55 = .ok (.aload_n 0, 1) := by decide +kernel
theorem d_y_init_56 : decode (ch_bc n_y_init) 56 = .ok (.iconst 5, 1) := by decide +kernel
theorem d_y_init_57 : decode (ch_bc n_y_init) 57 = .ok (.newarray .int, 2) := by decide +kernel
theorem d_y_init_59 : decode (ch_bc n_y_init) 59 = .ok (.putfield 33, 3) := by decide +kernel
theorem pl_y_init_33 : Cond.fieldLink "ChalkWarrants$Yard" 33 (ch_F1 7).1 (ch_F1 7).2.1 (ch_F1 7).2.2.1 ∈ ch_good := ch_wg 67 (by decide +kernel) (by decide +kernel)
theorem d_y_init_62 : decode (ch_bc n_y_init) 62 = .ok (.iconst 0, 1) := by decide +kernel
theorem d_y_init_63 : decode (ch_bc n_y_init) 63 = .ok (.istore_n 1, 1) := by decide +kernel
theorem d_y_init_64 : decode (ch_bc n_y_init) 64 = .ok (.iload_n 1, 1) := by decide +kernel
theorem d_y_init_65 : decode (ch_bc n_y_init) 65 = .ok (.bipush 12, 2) := by decide +kernel
theorem d_y_init_67 : decode (ch_bc n_y_init) 67 = .ok (.if_icmp .ge 16, 3) := by decide +kernel
theorem d_y_init_70 : decode (ch_bc n_y_init) 70 = .ok (.aload_n 0, 1) := by decide +kernel
theorem d_y_init_71 : decode (ch_bc n_y_init) 71 = .ok (.getfield 9, 3) := by decide +kernel
theorem gl_y_init_9 : ch_FL "ChalkWarrants$Yard" 9 1 0 := ⟨_, _, _, ch_Cl1, by decide, Or.inl (ch_wg 48 (by decide +kernel) (by decide +kernel))⟩
theorem d_y_init_74 : decode (ch_bc n_y_init) 74 = .ok (.iload_n 1, 1) := by decide +kernel
theorem d_y_init_75 : decode (ch_bc n_y_init) 75 = .ok (.iconst (-1), 1) := by decide +kernel
theorem d_y_init_76 : decode (ch_bc n_y_init) 76 = .ok (.iastore, 1) := by decide +kernel
theorem d_y_init_77 : decode (ch_bc n_y_init) 77 = .ok (.iinc 1 1, 3) := by decide +kernel
theorem d_y_init_80 : decode (ch_bc n_y_init) 80 = .ok (.goto (-16), 3) := by decide +kernel
theorem d_y_init_83 : decode (ch_bc n_y_init) 83 = .ok (.return_, 1) := by decide +kernel
theorem d_c_init_0 : decode (ch_bc n_c_init) 0 = .ok (.aload_n 0, 1) := by decide +kernel
theorem d_c_init_1 : decode (ch_bc n_c_init) 1 = .ok (.invokespecial 1, 3) := by decide +kernel
theorem ol_c_init_1 : Cond.methodLink "ChalkWarrants$Command" 1 Lib.objectInit ∈ ch_good := ch_wg 168 (by decide +kernel) (by decide +kernel)
theorem d_c_init_4 : decode (ch_bc n_c_init) 4 = .ok (.aload_n 0, 1) := by decide +kernel
theorem d_c_init_5 : decode (ch_bc n_c_init) 5 = .ok (.new 7, 3) := by decide +kernel
theorem cl_c_init_7 : Cond.classLink "ChalkWarrants$Command" 7 "ChalkWarrants$Steps" ∈ ch_good := ch_wg 169 (by decide +kernel) (by decide +kernel)
theorem d_c_init_8 : decode (ch_bc n_c_init) 8 = .ok (.dup, 1) := by decide +kernel
theorem d_c_init_9 : decode (ch_bc n_c_init) 9 = .ok (.invokespecial 9, 3) := by decide +kernel
theorem nl_c_init_9 : cb_SN n_s_init "ChalkWarrants$Command" 9 := ⟨nf_s_init, ch_ow 171 (by decide +kernel) (by decide +kernel), by decide +kernel⟩
theorem d_c_init_12 : decode (ch_bc n_c_init) 12 = .ok (.putfield 10, 3) := by decide +kernel
theorem pl_c_init_10 : Cond.fieldLink "ChalkWarrants$Command" 10 (ch_F4 0).1 (ch_F4 0).2.1 (ch_F4 0).2.2.1 ∈ ch_good := ch_wg 189 (by decide +kernel) (by decide +kernel)
theorem d_c_init_15 : decode (ch_bc n_c_init) 15 = .ok (.return_, 1) := by decide +kernel
theorem d_p_init_0 : decode (ch_bc n_p_init) 0 = .ok (.aload_n 0, 1) := by decide +kernel
theorem d_p_init_1 : decode (ch_bc n_p_init) 1 = .ok (.invokespecial 3, 3) := by decide +kernel
theorem ol_p_init_3 : Cond.methodLink "ChalkWarrants$Past" 3 Lib.objectInit ∈ ch_good := ch_wg 129 (by decide +kernel) (by decide +kernel)
theorem d_p_init_4 : decode (ch_bc n_p_init) 4 = .ok (.aload_n 0, 1) := by decide +kernel
theorem d_p_init_5 : decode (ch_bc n_p_init) 5 = .ok (.bipush 8, 2) := by decide +kernel
theorem d_p_init_7 : decode (ch_bc n_p_init) 7 = .ok (.anewarray 9, 3) := by decide +kernel
theorem cl_p_init_9 : Cond.classLink "ChalkWarrants$Past" 9 "ChalkWarrants$Yard" ∈ ch_good := ch_wg 130 (by decide +kernel) (by decide +kernel)
theorem d_p_init_10 : decode (ch_bc n_p_init) 10 = .ok (.putfield 11, 3) := by decide +kernel
theorem pl_p_init_11 : Cond.fieldLink "ChalkWarrants$Past" 11 (ch_F2 0).1 (ch_F2 0).2.1 (ch_F2 0).2.2.1 ∈ ch_good := ch_wg 133 (by decide +kernel) (by decide +kernel)
theorem d_p_init_13 : decode (ch_bc n_p_init) 13 = .ok (.iconst 0, 1) := by decide +kernel
theorem d_p_init_14 : decode (ch_bc n_p_init) 14 = .ok (.istore_n 1, 1) := by decide +kernel
theorem d_p_init_15 : decode (ch_bc n_p_init) 15 = .ok (.iload_n 1, 1) := by decide +kernel
theorem d_p_init_16 : decode (ch_bc n_p_init) 16 = .ok (.aload_n 0, 1) := by decide +kernel
theorem d_p_init_17 : decode (ch_bc n_p_init) 17 = .ok (.getfield 11, 3) := by decide +kernel
theorem gl_p_init_11 : ch_FL "ChalkWarrants$Past" 11 2 0 := ⟨_, _, _, ch_Cl2, by decide, Or.inl (ch_wg 133 (by decide +kernel) (by decide +kernel))⟩
theorem d_p_init_20 : decode (ch_bc n_p_init) 20 = .ok (.arraylength, 1) := by decide +kernel
theorem d_p_init_21 : decode (ch_bc n_p_init) 21 = .ok (.if_icmp .ge 22, 3) := by decide +kernel
theorem d_p_init_24 : decode (ch_bc n_p_init) 24 = .ok (.aload_n 0, 1) := by decide +kernel
theorem d_p_init_25 : decode (ch_bc n_p_init) 25 = .ok (.getfield 11, 3) := by decide +kernel
theorem d_p_init_28 : decode (ch_bc n_p_init) 28 = .ok (.iload_n 1, 1) := by decide +kernel
theorem d_p_init_29 : decode (ch_bc n_p_init) 29 = .ok (.new 9, 3) := by decide +kernel
theorem d_p_init_32 : decode (ch_bc n_p_init) 32 = .ok (.dup, 1) := by decide +kernel
theorem d_p_init_33 : decode (ch_bc n_p_init) 33 = .ok (.invokespecial 17, 3) := by decide +kernel
theorem nl_p_init_17 : ch_SV n_y_init "ChalkWarrants$Past" 17 0 := ⟨nf_y_init, ch_wg 132 (by decide +kernel) (by decide +kernel), by decide +kernel⟩
theorem d_p_init_36 : decode (ch_bc n_p_init) 36 = .ok (.aastore, 1) := by decide +kernel
theorem d_p_init_37 : decode (ch_bc n_p_init) 37 = .ok (.iinc 1 1, 3) := by decide +kernel
theorem d_p_init_40 : decode (ch_bc n_p_init) 40 = .ok (.goto (-25), 3) := by decide +kernel
theorem d_p_init_43 : decode (ch_bc n_p_init) 43 = .ok (.return_, 1) := by decide +kernel
theorem d_x_init_0 : decode (ch_bc n_x_init) 0 = .ok (.aload_n 0, 1) := by decide +kernel
theorem d_x_init_1 : decode (ch_bc n_x_init) 1 = .ok (.invokespecial 1, 3) := by decide +kernel
theorem ol_x_init_1 : Cond.methodLink "ChalkWarrants" 1 Lib.objectInit ∈ ch_good := ch_wg 39 (by decide +kernel) (by decide +kernel)
theorem d_x_init_4 : decode (ch_bc n_x_init) 4 = .ok (.aload_n 0, 1) := by decide +kernel
theorem d_x_init_5 : decode (ch_bc n_x_init) 5 = .ok (.new 7, 3) := by decide +kernel
theorem cl_x_init_7 : Cond.classLink "ChalkWarrants" 7 "ChalkWarrants$Yard" ∈ ch_good := ch_wg 42 (by decide +kernel) (by decide +kernel)
theorem d_x_init_8 : decode (ch_bc n_x_init) 8 = .ok (.dup, 1) := by decide +kernel
theorem d_x_init_9 : decode (ch_bc n_x_init) 9 = .ok (.invokespecial 9, 3) := by decide +kernel
theorem nl_x_init_9 : ch_SV n_y_init "ChalkWarrants" 9 0 := ⟨nf_y_init, ch_wg 44 (by decide +kernel) (by decide +kernel), by decide +kernel⟩
theorem d_x_init_12 : decode (ch_bc n_x_init) 12 = .ok (.putfield 10, 3) := by decide +kernel
theorem pl_x_init_10 : Cond.fieldLink "ChalkWarrants" 10 (ch_F0 0).1 (ch_F0 0).2.1 (ch_F0 0).2.2.1 ∈ ch_good := ch_wg 267 (by decide +kernel) (by decide +kernel)
theorem d_x_init_15 : decode (ch_bc n_x_init) 15 = .ok (.aload_n 0, 1) := by decide +kernel
theorem d_x_init_16 : decode (ch_bc n_x_init) 16 = .ok (.new 7, 3) := by decide +kernel
theorem d_x_init_19 : decode (ch_bc n_x_init) 19 = .ok (.dup, 1) := by decide +kernel
theorem d_x_init_20 : decode (ch_bc n_x_init) 20 = .ok (.invokespecial 9, 3) := by decide +kernel
theorem d_x_init_23 : decode (ch_bc n_x_init) 23 = .ok (.putfield 16, 3) := by decide +kernel
theorem pl_x_init_16 : Cond.fieldLink "ChalkWarrants" 16 (ch_F0 1).1 (ch_F0 1).2.1 (ch_F0 1).2.2.1 ∈ ch_good := ch_wg 268 (by decide +kernel) (by decide +kernel)
theorem d_x_init_26 : decode (ch_bc n_x_init) 26 = .ok (.aload_n 0, 1) := by decide +kernel
theorem d_x_init_27 : decode (ch_bc n_x_init) 27 = .ok (.new 7, 3) := by decide +kernel
theorem d_x_init_30 : decode (ch_bc n_x_init) 30 = .ok (.dup, 1) := by decide +kernel
theorem d_x_init_31 : decode (ch_bc n_x_init) 31 = .ok (.invokespecial 9, 3) := by decide +kernel
theorem d_x_init_34 : decode (ch_bc n_x_init) 34 = .ok (.putfield 19, 3) := by decide +kernel
theorem pl_x_init_19 : Cond.fieldLink "ChalkWarrants" 19 (ch_F0 2).1 (ch_F0 2).2.1 (ch_F0 2).2.2.1 ∈ ch_good := ch_wg 269 (by decide +kernel) (by decide +kernel)
theorem d_x_init_37 : decode (ch_bc n_x_init) 37 = .ok (.aload_n 0, 1) := by decide +kernel
theorem d_x_init_38 : decode (ch_bc n_x_init) 38 = .ok (.new 7, 3) := by decide +kernel
theorem d_x_init_41 : decode (ch_bc n_x_init) 41 = .ok (.dup, 1) := by decide +kernel
theorem d_x_init_42 : decode (ch_bc n_x_init) 42 = .ok (.invokespecial 9, 3) := by decide +kernel
theorem d_x_init_45 : decode (ch_bc n_x_init) 45 = .ok (.putfield 22, 3) := by decide +kernel
theorem pl_x_init_22 : Cond.fieldLink "ChalkWarrants" 22 (ch_F0 3).1 (ch_F0 3).2.1 (ch_F0 3).2.2.1 ∈ ch_good := ch_wg 270 (by decide +kernel) (by decide +kernel)
theorem d_x_init_48 : decode (ch_bc n_x_init) 48 = .ok (.aload_n 0, 1) := by decide +kernel
theorem d_x_init_49 : decode (ch_bc n_x_init) 49 = .ok (.new 25, 3) := by decide +kernel
theorem cl_x_init_25 : Cond.classLink "ChalkWarrants" 25 "ChalkWarrants$Past" ∈ ch_good := ch_wg 124 (by decide +kernel) (by decide +kernel)
theorem d_x_init_52 : decode (ch_bc n_x_init) 52 = .ok (.dup, 1) := by decide +kernel
theorem d_x_init_53 : decode (ch_bc n_x_init) 53 = .ok (.invokespecial 27, 3) := by decide +kernel
theorem nl_x_init_27 : ch_SV n_p_init "ChalkWarrants" 27 0 := ⟨nf_p_init, ch_wg 126 (by decide +kernel) (by decide +kernel), by decide +kernel⟩
theorem d_x_init_56 : decode (ch_bc n_x_init) 56 = .ok (.putfield 28, 3) := by decide +kernel
theorem pl_x_init_28 : Cond.fieldLink "ChalkWarrants" 28 (ch_F0 4).1 (ch_F0 4).2.1 (ch_F0 4).2.2.1 ∈ ch_good := ch_wg 271 (by decide +kernel) (by decide +kernel)
theorem d_x_init_59 : decode (ch_bc n_x_init) 59 = .ok (.aload_n 0, 1) := by decide +kernel
theorem d_x_init_60 : decode (ch_bc n_x_init) 60 = .ok (.new 32, 3) := by decide +kernel
theorem cl_x_init_32 : Cond.classLink "ChalkWarrants" 32 "ChalkWarrants$Reasons" ∈ ch_good := ch_wg 144 (by decide +kernel) (by decide +kernel)
theorem d_x_init_63 : decode (ch_bc n_x_init) 63 = .ok (.dup, 1) := by decide +kernel
theorem d_x_init_64 : decode (ch_bc n_x_init) 64 = .ok (.invokespecial 34, 3) := by decide +kernel
theorem nl_x_init_34 : cb_SN n_r_init "ChalkWarrants" 34 := ⟨nf_r_init, ch_ow 146 (by decide +kernel) (by decide +kernel), by decide +kernel⟩
theorem d_x_init_67 : decode (ch_bc n_x_init) 67 = .ok (.putfield 35, 3) := by decide +kernel
theorem pl_x_init_35 : Cond.fieldLink "ChalkWarrants" 35 (ch_F0 5).1 (ch_F0 5).2.1 (ch_F0 5).2.2.1 ∈ ch_good := ch_wg 272 (by decide +kernel) (by decide +kernel)
theorem d_x_init_70 : decode (ch_bc n_x_init) 70 = .ok (.aload_n 0, 1) := by decide +kernel
theorem d_x_init_71 : decode (ch_bc n_x_init) 71 = .ok (.new 39, 3) := by decide +kernel
theorem cl_x_init_39 : Cond.classLink "ChalkWarrants" 39 "ChalkWarrants$Command" ∈ ch_good := ch_wg 163 (by decide +kernel) (by decide +kernel)
theorem d_x_init_74 : decode (ch_bc n_x_init) 74 = .ok (.dup, 1) := by decide +kernel
theorem d_x_init_75 : decode (ch_bc n_x_init) 75 = .ok (.invokespecial 41, 3) := by decide +kernel
theorem nl_x_init_41 : cb_SN n_c_init "ChalkWarrants" 41 := ⟨nf_c_init, ch_ow 165 (by decide +kernel) (by decide +kernel), by decide +kernel⟩
theorem d_x_init_78 : decode (ch_bc n_x_init) 78 = .ok (.putfield 42, 3) := by decide +kernel
theorem pl_x_init_42 : Cond.fieldLink "ChalkWarrants" 42 (ch_F0 6).1 (ch_F0 6).2.1 (ch_F0 6).2.2.1 ∈ ch_good := ch_wg 273 (by decide +kernel) (by decide +kernel)
theorem d_x_init_81 : decode (ch_bc n_x_init) 81 = .ok (.aload_n 0, 1) := by decide +kernel
theorem d_x_init_82 : decode (ch_bc n_x_init) 82 = .ok (.new 46, 3) := by decide +kernel
theorem cl_x_init_46 : Cond.classLink "ChalkWarrants" 46 "ChalkWarrants$Signs" ∈ ch_good := ch_wg 220 (by decide +kernel) (by decide +kernel)
theorem d_x_init_85 : decode (ch_bc n_x_init) 85 = .ok (.dup, 1) := by decide +kernel
theorem d_x_init_86 : decode (ch_bc n_x_init) 86 = .ok (.invokespecial 48, 3) := by decide +kernel
theorem nl_x_init_48 : cb_SN n_t_init "ChalkWarrants" 48 := ⟨nf_t_init, ch_ow 222 (by decide +kernel) (by decide +kernel), by decide +kernel⟩
theorem d_x_init_89 : decode (ch_bc n_x_init) 89 = .ok (.putfield 49, 3) := by decide +kernel
theorem pl_x_init_49 : Cond.fieldLink "ChalkWarrants" 49 (ch_F0 7).1 (ch_F0 7).2.1 (ch_F0 7).2.2.1 ∈ ch_good := ch_wg 274 (by decide +kernel) (by decide +kernel)
theorem d_x_init_92 : decode (ch_bc n_x_init) 92 = .ok (.aload_n 0, 1) := by decide +kernel
theorem d_x_init_93 : decode (ch_bc n_x_init) 93 = .ok (.new 53, 3) := by decide +kernel
theorem cl_x_init_53 : Cond.classLink "ChalkWarrants" 53 "ChalkWarrants$Reader" ∈ ch_good := ch_wg 238 (by decide +kernel) (by decide +kernel)
theorem d_x_init_96 : decode (ch_bc n_x_init) 96 = .ok (.dup, 1) := by decide +kernel
theorem d_x_init_97 : decode (ch_bc n_x_init) 97 = .ok (.invokespecial 55, 3) := by decide +kernel
theorem nl_x_init_55 : cb_SN n_d_init "ChalkWarrants" 55 := ⟨nf_d_init, ch_ow 240 (by decide +kernel) (by decide +kernel), by decide +kernel⟩
theorem d_x_init_100 : decode (ch_bc n_x_init) 100 = .ok (.putfield 56, 3) := by decide +kernel
theorem pl_x_init_56 : Cond.fieldLink "ChalkWarrants" 56 (ch_F0 8).1 (ch_F0 8).2.1 (ch_F0 8).2.2.1 ∈ ch_good := ch_wg 275 (by decide +kernel) (by decide +kernel)
theorem d_x_init_103 : decode (ch_bc n_x_init) 103 = .ok (.aload_n 0, 1) := by decide +kernel
theorem d_x_init_104 : decode (ch_bc n_x_init) 104 = .ok (.new 46, 3) := by decide +kernel
theorem d_x_init_107 : decode (ch_bc n_x_init) 107 = .ok (.dup, 1) := by decide +kernel
theorem d_x_init_108 : decode (ch_bc n_x_init) 108 = .ok (.invokespecial 48, 3) := by decide +kernel
theorem d_x_init_111 : decode (ch_bc n_x_init) 111 = .ok (.putfield 60, 3) := by decide +kernel
theorem pl_x_init_60 : Cond.fieldLink "ChalkWarrants" 60 (ch_F0 9).1 (ch_F0 9).2.1 (ch_F0 9).2.2.1 ∈ ch_good := ch_wg 276 (by decide +kernel) (by decide +kernel)
theorem d_x_init_114 : decode (ch_bc n_x_init) 114 = .ok (.aload_n 0, 1) := by decide +kernel
theorem d_x_init_115 : decode (ch_bc n_x_init) 115 = .ok (.new 63, 3) := by decide +kernel
theorem cl_x_init_63 : Cond.classLink "ChalkWarrants" 63 "ChalkWarrants$Ways" ∈ ch_good := ch_wg 249 (by decide +kernel) (by decide +kernel)
theorem d_x_init_118 : decode (ch_bc n_x_init) 118 = .ok (.dup, 1) := by decide +kernel
theorem d_x_init_119 : decode (ch_bc n_x_init) 119 = .ok (.invokespecial 65, 3) := by decide +kernel
theorem nl_x_init_65 : cb_SN n_w_init "ChalkWarrants" 65 := ⟨nf_w_init, ch_ow 251 (by decide +kernel) (by decide +kernel), by decide +kernel⟩
theorem d_x_init_122 : decode (ch_bc n_x_init) 122 = .ok (.putfield 66, 3) := by decide +kernel
theorem pl_x_init_66 : Cond.fieldLink "ChalkWarrants" 66 (ch_F0 10).1 (ch_F0 10).2.1 (ch_F0 10).2.2.1 ∈ ch_good := ch_wg 277 (by decide +kernel) (by decide +kernel)
theorem d_x_init_125 : decode (ch_bc n_x_init) 125 = .ok (.aload_n 0, 1) := by decide +kernel
theorem d_x_init_126 : decode (ch_bc n_x_init) 126 = .ok (.new 70, 3) := by decide +kernel
theorem cl_x_init_70 : Cond.classLink "ChalkWarrants" 70 "ChalkWarrants$Steps" ∈ ch_good := ch_wg 265 (by decide +kernel) (by decide +kernel)
theorem d_x_init_129 : decode (ch_bc n_x_init) 129 = .ok (.dup, 1) := by decide +kernel
theorem d_x_init_130 : decode (ch_bc n_x_init) 130 = .ok (.invokespecial 72, 3) := by decide +kernel
theorem nl_x_init_72 : cb_SN n_s_init "ChalkWarrants" 72 := ⟨nf_s_init, ch_ow 266 (by decide +kernel) (by decide +kernel), by decide +kernel⟩
theorem d_x_init_133 : decode (ch_bc n_x_init) 133 = .ok (.putfield 73, 3) := by decide +kernel
theorem pl_x_init_73 : Cond.fieldLink "ChalkWarrants" 73 (ch_F0 11).1 (ch_F0 11).2.1 (ch_F0 11).2.2.1 ∈ ch_good := ch_wg 278 (by decide +kernel) (by decide +kernel)
theorem d_x_init_136 : decode (ch_bc n_x_init) 136 = .ok (.aload_n 0, 1) := by decide +kernel
theorem d_x_init_137 : decode (ch_bc n_x_init) 137 = .ok (.iconst (-1), 1) := by decide +kernel
theorem d_x_init_138 : decode (ch_bc n_x_init) 138 = .ok (.putfield 77, 3) := by decide +kernel
theorem pl_x_init_77 : ch_FP "ChalkWarrants" 77 0 13 .int := ⟨_, _, _, ch_Cl0, by decide, Or.inl (ch_wg 280 (by decide +kernel) (by decide +kernel)), rfl, by decide +kernel⟩
theorem d_x_init_141 : decode (ch_bc n_x_init) 141 = .ok (.return_, 1) := by decide +kernel
theorem cl_l_law_8 : Cond.classLink "ChalkWarrantsLaw" 8 "ChalkWarrants" ∈ ch_good := ch_wg 34 (by decide +kernel) (by decide +kernel)
theorem nl_l_law_278 : ch_SV n_x_init "ChalkWarrantsLaw" 278 0 := ⟨nf_x_init, ch_wg 36 (by decide +kernel) (by decide +kernel), by decide +kernel⟩
theorem in_0 : Cond.instantiable "ChalkWarrants" 14 ∈ ch_good ∧ Cond.initialized "ChalkWarrants" ∈ ch_good := ⟨ch_wg 35 (by decide +kernel) (by decide +kernel), ch_wg 1 (by decide +kernel) (by decide +kernel)⟩
theorem ty_0 : ∀ i, i < 14 → parseFieldDescriptor (ch_F0 i).2.2.1 = some (ch_T0 i) ∧ defaultValue (ch_T0 i) = (if (ch_rf 0 i 0).isSome then .null else .int 0) := by decide +kernel
theorem in_1 : Cond.instantiable "ChalkWarrants$Yard" 17 ∈ ch_good ∧ Cond.initialized "ChalkWarrants$Yard" ∈ ch_good := ⟨ch_wg 43 (by decide +kernel) (by decide +kernel), ch_wg 2 (by decide +kernel) (by decide +kernel)⟩
theorem ty_1 : ∀ i, i < 17 → parseFieldDescriptor (ch_F1 i).2.2.1 = some (ch_T1 i) ∧ defaultValue (ch_T1 i) = (if (ch_rf 1 i 0).isSome then .null else .int 0) := by decide +kernel
theorem in_2 : Cond.instantiable "ChalkWarrants$Past" 3 ∈ ch_good ∧ Cond.initialized "ChalkWarrants$Past" ∈ ch_good := ⟨ch_wg 125 (by decide +kernel) (by decide +kernel), ch_wg 3 (by decide +kernel) (by decide +kernel)⟩
theorem ty_2 : ∀ i, i < 3 → parseFieldDescriptor (ch_F2 i).2.2.1 = some (ch_T2 i) ∧ defaultValue (ch_T2 i) = (if (ch_rf 2 i 0).isSome then .null else .int 0) := by decide +kernel
theorem in_3 : Cond.instantiable "ChalkWarrants$Reasons" 3 ∈ ch_good ∧ Cond.initialized "ChalkWarrants$Reasons" ∈ ch_good := ⟨ch_wg 145 (by decide +kernel) (by decide +kernel), ch_wg 4 (by decide +kernel) (by decide +kernel)⟩
theorem ty_3 : ∀ i, i < 3 → parseFieldDescriptor (ch_F3 i).2.2.1 = some (ch_T3 i) ∧ defaultValue (ch_T3 i) = (if (ch_rf 3 i 0).isSome then .null else .int 0) := by decide +kernel
theorem in_4 : Cond.instantiable "ChalkWarrants$Command" 5 ∈ ch_good ∧ Cond.initialized "ChalkWarrants$Command" ∈ ch_good := ⟨ch_wg 164 (by decide +kernel) (by decide +kernel), ch_wg 5 (by decide +kernel) (by decide +kernel)⟩
theorem ty_4 : ∀ i, i < 5 → parseFieldDescriptor (ch_F4 i).2.2.1 = some (ch_T4 i) ∧ defaultValue (ch_T4 i) = (if (ch_rf 4 i 0).isSome then .null else .int 0) := by decide +kernel
theorem in_5 : Cond.instantiable "ChalkWarrants$Steps" 2 ∈ ch_good ∧ Cond.initialized "ChalkWarrants$Steps" ∈ ch_good := ⟨ch_wg 170 (by decide +kernel) (by decide +kernel), ch_wg 6 (by decide +kernel) (by decide +kernel)⟩
theorem ty_5 : ∀ i, i < 2 → parseFieldDescriptor (ch_F5 i).2.2.1 = some (ch_T5 i) ∧ defaultValue (ch_T5 i) = (if (ch_rf 5 i 0).isSome then .null else .int 0) := by decide +kernel
theorem in_6 : Cond.instantiable "ChalkWarrants$Signs" 2 ∈ ch_good ∧ Cond.initialized "ChalkWarrants$Signs" ∈ ch_good := ⟨ch_wg 221 (by decide +kernel) (by decide +kernel), ch_wg 7 (by decide +kernel) (by decide +kernel)⟩
theorem ty_6 : ∀ i, i < 2 → parseFieldDescriptor (ch_F6 i).2.2.1 = some (ch_T6 i) ∧ defaultValue (ch_T6 i) = (if (ch_rf 6 i 0).isSome then .null else .int 0) := by decide +kernel
theorem in_7 : Cond.instantiable "ChalkWarrants$Reader" 1 ∈ ch_good ∧ Cond.initialized "ChalkWarrants$Reader" ∈ ch_good := ⟨ch_wg 239 (by decide +kernel) (by decide +kernel), ch_wg 8 (by decide +kernel) (by decide +kernel)⟩
theorem ty_7 : ∀ i, i < 1 → parseFieldDescriptor (ch_F7 i).2.2.1 = some (ch_T7 i) ∧ defaultValue (ch_T7 i) = (if (ch_rf 7 i 0).isSome then .null else .int 0) := by decide +kernel
theorem in_8 : Cond.instantiable "ChalkWarrants$Ways" 3 ∈ ch_good ∧ Cond.initialized "ChalkWarrants$Ways" ∈ ch_good := ⟨ch_wg 250 (by decide +kernel) (by decide +kernel), ch_wg 9 (by decide +kernel) (by decide +kernel)⟩
theorem ty_8 : ∀ i, i < 3 → parseFieldDescriptor (ch_F8 i).2.2.1 = some (ch_T8 i) ∧ defaultValue (ch_T8 i) = (if (ch_rf 8 i 0).isSome then .null else .int 0) := by decide +kernel
