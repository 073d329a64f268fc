theorem kf_J0_9 : Cond.fieldLink RJ0 9 "java/lang/String" "value" "[B" ∈ am_tb := am_in (tw_m9 74 rfl) rfl
theorem kf_J0_15 : Cond.fieldLink RJ0 15 "java/lang/String" "coder" "B" ∈ am_tb := am_in (tw_m9 73 rfl) rfl
theorem kf_J0_38 : Cond.fieldLink RJ0 38 "java/lang/String" "COMPACT_STRINGS" "Z" ∈ am_tb := am_in (tw_m3 7 rfl) rfl
theorem kf_J0_1053 : Cond.fieldLink RJ0 1053 "jdk/internal/util/Preconditions" "SIOOBE_FORMATTER" "Ljava/util/function/BiFunction;" ∈ am_tb := am_in (tw_m3 15 rfl) rfl
theorem km_J0_335 : Cond.methodLink RJ0 335 yJ0_coder_7d493 ∈ am_tb := am_in (tw_m3 64 rfl) rfl
theorem km_J0_492 : Cond.methodLink RJ0 492 yJ0_isLatin1_aae02 ∈ am_tb := am_in (tw_m3 3 rfl) rfl
theorem km_J0_495 : Cond.methodLink RJ0 495 yJ1_charAt_3b067 ∈ am_tb := am_in (tw_m3 9 rfl) rfl
theorem km_J0_505 : Cond.methodLink RJ0 505 yJ0_length_8abf5 ∈ am_tb := am_in (tw_m3 60 rfl) rfl
theorem km_J0_633 : Cond.methodLink RJ0 633 yJ0_indexOf_7cf53 ∈ am_tb := am_in (tw_m3 56 rfl) rfl
theorem km_J0_637 : Cond.methodLink RJ0 637 yJ1_indexOf_4cfef ∈ am_tb := am_in (tw_m3 68 rfl) rfl
theorem km_J0_1059 : Cond.methodLink RJ0 1059 yJ3_checkIndex_8e157 ∈ am_tb := am_in (tw_m3 17 rfl) rfl
theorem km_J1_9 : Cond.methodLink RJ1 9 yJ0_checkIndex_df160 ∈ am_tb := am_in (tw_m3 12 rfl) rfl
theorem km_J1_38 : Cond.methodLink RJ1 38 yJ9_min_7cf53 ∈ am_tb := am_in (tw_m3 75 rfl) rfl
theorem km_J1_88 : Cond.methodLink RJ1 88 yJ1_canEncode_9a6ad ∈ am_tb := am_in (tw_m3 71 rfl) rfl
theorem km_J1_92 : Cond.methodLink RJ1 92 yJ9_max_7cf53 ∈ am_tb := am_in (tw_m3 74 rfl) rfl
theorem km_J1_95 : Cond.methodLink RJ1 95 yJ1_indexOfChar_4cfef ∈ am_tb := am_in (tw_m3 78 rfl) rfl
theorem kc_J0_charAt_5068e : Cond.code yJ0_charAt_5068e cJ0_charAt_5068e 2 (some .char) ∈ am_tb := am_in (tw_m3 2 rfl) rfl
theorem kd_J0_charAt_5068e : yJ0_charAt_5068e.cls ≠ "java/lang/invoke/MethodHandle" ∧ yJ0_charAt_5068e.cls ≠ "java/lang/invoke/VarHandle" ∧ (parseMethodDescriptor yJ0_charAt_5068e.desc).map (fun d => d.parameters.length) = some 1 := by decide +kernel
theorem ki_J0_charAt_5068e : Cond.instanceMethod yJ0_charAt_5068e ∈ am_tb := am_in (tw_m3 0 rfl) rfl
theorem ks_J0_charAt_5068e : Cond.selects RJ0 yJ0_charAt_5068e yJ0_charAt_5068e ∈ am_tb := am_in (tw_m3 1 rfl) rfl
def tb_J0_charAt_5068e : List (Nat × Option Instr × Nat) := [(0, some (.aload_n 0), 1), (1, some (.invokevirtual 492), 3), (4, some (.ifCond .eq 12), 3), (7, some (.aload_n 0), 1), (8, some (.getfield 9), 3), (11, some (.iload_n 1), 1), (12, some (.invokestatic 495), 3), (15, some (.ireturn), 1), (16, some (.aload_n 0), 1), (17, some (.getfield 9), 3), (20, some (.iload_n 1), 1), (21, some (.invokestatic 498), 3), (24, some (.ireturn), 1)]
theorem tk_J0_charAt_5068e : am_okT (am_bs cJ0_charAt_5068e) 0 tb_J0_charAt_5068e = true := by decide +kernel
def M_J0_charAt_5068e : am_M := (RJ0, yJ0_charAt_5068e, cJ0_charAt_5068e, 2, (some .char), { frames := 3, cells := 0, slots := 0, locals := 240 }, fun _ _ _ => True)
theorem kc_J0_isLatin1_aae02 : Cond.code yJ0_isLatin1_aae02 cJ0_isLatin1_aae02 1 (some .boolean) ∈ am_tb := am_in (tw_m3 6 rfl) rfl
theorem kd_J0_isLatin1_aae02 : yJ0_isLatin1_aae02.cls ≠ "java/lang/invoke/MethodHandle" ∧ yJ0_isLatin1_aae02.cls ≠ "java/lang/invoke/VarHandle" ∧ (parseMethodDescriptor yJ0_isLatin1_aae02.desc).map (fun d => d.parameters.length) = some 0 := by decide +kernel
theorem ki_J0_isLatin1_aae02 : Cond.instanceMethod yJ0_isLatin1_aae02 ∈ am_tb := am_in (tw_m3 4 rfl) rfl
theorem ks_J0_isLatin1_aae02 : Cond.selects RJ0 yJ0_isLatin1_aae02 yJ0_isLatin1_aae02 ∈ am_tb := am_in (tw_m3 5 rfl) rfl
def tb_J0_isLatin1_aae02 : List (Nat × Option Instr × Nat) := [(0, some (.getstatic 38), 3), (3, some (.ifCond .eq 14), 3), (6, some (.aload_n 0), 1), (7, some (.getfield 15), 3), (10, some (.ifCond .ne 7), 3), (13, some (.iconst 1), 1), (14, some (.goto 4), 3), (17, some (.iconst 0), 1), (18, some (.ireturn), 1)]
theorem tk_J0_isLatin1_aae02 : am_okT (am_bs cJ0_isLatin1_aae02) 0 tb_J0_isLatin1_aae02 = true := by decide +kernel
def M_J0_isLatin1_aae02 : am_M := (RJ0, yJ0_isLatin1_aae02, cJ0_isLatin1_aae02, 1, (some .boolean), { frames := 0, cells := 0, slots := 0, locals := 60 }, fun _ _ _ => True)
theorem kc_J1_charAt_3b067 : Cond.code yJ1_charAt_3b067 cJ1_charAt_3b067 2 (some .char) ∈ am_tb := am_in (tw_m3 11 rfl) rfl
theorem kd_J1_charAt_3b067 : yJ1_charAt_3b067.cls ≠ "java/lang/invoke/MethodHandle" ∧ yJ1_charAt_3b067.cls ≠ "java/lang/invoke/VarHandle" ∧ (parseMethodDescriptor yJ1_charAt_3b067.desc).map (fun d => d.parameters.length) = some 2 := by decide +kernel
theorem ki_J1_charAt_3b067 : Cond.static yJ1_charAt_3b067 ∈ am_tb := am_in (tw_m3 10 rfl) rfl
def tb_J1_charAt_3b067 : List (Nat × Option Instr × Nat) := [(0, some (.iload_n 1), 1), (1, some (.aload_n 0), 1), (2, some (.arraylength), 1), (3, some (.invokestatic 9), 3), (6, some (.aload_n 0), 1), (7, some (.iload_n 1), 1), (8, some (.baload), 1), (9, some (.sipush 255), 3), (12, some (.iand), 1), (13, some (.i2c), 1), (14, some (.ireturn), 1)]
theorem tk_J1_charAt_3b067 : am_okT (am_bs cJ1_charAt_3b067) 0 tb_J1_charAt_3b067 = true := by decide +kernel
def M_J1_charAt_3b067 : am_M := (RJ1, yJ1_charAt_3b067, cJ1_charAt_3b067, 2, (some .char), { frames := 2, cells := 0, slots := 0, locals := 180 }, fun _ _ _ => True)
theorem kc_J0_checkIndex_df160 : Cond.code yJ0_checkIndex_df160 cJ0_checkIndex_df160 2 none ∈ am_tb := am_in (tw_m3 14 rfl) rfl
theorem kd_J0_checkIndex_df160 : yJ0_checkIndex_df160.cls ≠ "java/lang/invoke/MethodHandle" ∧ yJ0_checkIndex_df160.cls ≠ "java/lang/invoke/VarHandle" ∧ (parseMethodDescriptor yJ0_checkIndex_df160.desc).map (fun d => d.parameters.length) = some 2 := by decide +kernel
theorem ki_J0_checkIndex_df160 : Cond.static yJ0_checkIndex_df160 ∈ am_tb := am_in (tw_m3 13 rfl) rfl
def tb_J0_checkIndex_df160 : List (Nat × Option Instr × Nat) := [(0, some (.iload_n 0), 1), (1, some (.iload_n 1), 1), (2, some (.getstatic 1053), 3), (5, some (.invokestatic 1059), 3), (8, some (.pop), 1), (9, some (.return_), 1)]
theorem tk_J0_checkIndex_df160 : am_okT (am_bs cJ0_checkIndex_df160) 0 tb_J0_checkIndex_df160 = true := by decide +kernel
def M_J0_checkIndex_df160 : am_M := (RJ0, yJ0_checkIndex_df160, cJ0_checkIndex_df160, 2, none, { frames := 1, cells := 0, slots := 0, locals := 120 }, fun _ _ _ => True)
theorem kc_J0_indexOf_0f7a4 : Cond.code yJ0_indexOf_0f7a4 cJ0_indexOf_0f7a4 2 (some .int) ∈ am_tb := am_in (tw_m3 55 rfl) rfl
theorem kd_J0_indexOf_0f7a4 : yJ0_indexOf_0f7a4.cls ≠ "java/lang/invoke/MethodHandle" ∧ yJ0_indexOf_0f7a4.cls ≠ "java/lang/invoke/VarHandle" ∧ (parseMethodDescriptor yJ0_indexOf_0f7a4.desc).map (fun d => d.parameters.length) = some 1 := by decide +kernel
theorem ki_J0_indexOf_0f7a4 : Cond.instanceMethod yJ0_indexOf_0f7a4 ∈ am_tb := am_in (tw_m3 53 rfl) rfl
theorem ks_J0_indexOf_0f7a4 : Cond.selects RJ0 yJ0_indexOf_0f7a4 yJ0_indexOf_0f7a4 ∈ am_tb := am_in (tw_m3 54 rfl) rfl
def tb_J0_indexOf_0f7a4 : List (Nat × Option Instr × Nat) := [(0, some (.aload_n 0), 1), (1, some (.iload_n 1), 1), (2, some (.iconst 0), 1), (3, some (.invokevirtual 633), 3), (6, some (.ireturn), 1)]
theorem tk_J0_indexOf_0f7a4 : am_okT (am_bs cJ0_indexOf_0f7a4) 0 tb_J0_indexOf_0f7a4 = true := by decide +kernel
def M_J0_indexOf_0f7a4 : am_M := (RJ0, yJ0_indexOf_0f7a4, cJ0_indexOf_0f7a4, 2, (some .int), { frames := 3, cells := 0, slots := 0, locals := 240 }, fun _ _ _ => True)
theorem kc_J0_indexOf_7cf53 : Cond.code yJ0_indexOf_7cf53 cJ0_indexOf_7cf53 3 (some .int) ∈ am_tb := am_in (tw_m3 59 rfl) rfl
theorem kd_J0_indexOf_7cf53 : yJ0_indexOf_7cf53.cls ≠ "java/lang/invoke/MethodHandle" ∧ yJ0_indexOf_7cf53.cls ≠ "java/lang/invoke/VarHandle" ∧ (parseMethodDescriptor yJ0_indexOf_7cf53.desc).map (fun d => d.parameters.length) = some 2 := by decide +kernel
theorem ki_J0_indexOf_7cf53 : Cond.instanceMethod yJ0_indexOf_7cf53 ∈ am_tb := am_in (tw_m3 57 rfl) rfl
theorem ks_J0_indexOf_7cf53 : Cond.selects RJ0 yJ0_indexOf_7cf53 yJ0_indexOf_7cf53 ∈ am_tb := am_in (tw_m3 58 rfl) rfl
def tb_J0_indexOf_7cf53 : List (Nat × Option Instr × Nat) := [(0, some (.aload_n 0), 1), (1, some (.invokevirtual 492), 3), (4, some (.ifCond .eq 19), 3), (7, some (.aload_n 0), 1), (8, some (.getfield 9), 3), (11, some (.iload_n 1), 1), (12, some (.iload_n 2), 1), (13, some (.aload_n 0), 1), (14, some (.invokevirtual 505), 3), (17, some (.invokestatic 637), 3), (20, some (.goto 16), 3), (23, some (.aload_n 0), 1), (24, some (.getfield 9), 3), (27, some (.iload_n 1), 1), (28, some (.iload_n 2), 1), (29, some (.aload_n 0), 1), (30, some (.invokevirtual 505), 3), (33, some (.invokestatic 640), 3), (36, some (.ireturn), 1)]
theorem tk_J0_indexOf_7cf53 : am_okT (am_bs cJ0_indexOf_7cf53) 0 tb_J0_indexOf_7cf53 = true := by decide +kernel
def M_J0_indexOf_7cf53 : am_M := (RJ0, yJ0_indexOf_7cf53, cJ0_indexOf_7cf53, 3, (some .int), { frames := 2, cells := 0, slots := 0, locals := 180 }, fun _ _ _ => True)
theorem kc_J1_indexOf_4cfef : Cond.code yJ1_indexOf_4cfef cJ1_indexOf_4cfef 4 (some .int) ∈ am_tb := am_in (tw_m3 70 rfl) rfl
theorem kd_J1_indexOf_4cfef : yJ1_indexOf_4cfef.cls ≠ "java/lang/invoke/MethodHandle" ∧ yJ1_indexOf_4cfef.cls ≠ "java/lang/invoke/VarHandle" ∧ (parseMethodDescriptor yJ1_indexOf_4cfef.desc).map (fun d => d.parameters.length) = some 4 := by decide +kernel
theorem ki_J1_indexOf_4cfef : Cond.static yJ1_indexOf_4cfef ∈ am_tb := am_in (tw_m3 69 rfl) rfl
def tb_J1_indexOf_4cfef : List (Nat × Option Instr × Nat) := [(0, some (.iload_n 1), 1), (1, some (.invokestatic 88), 3), (4, some (.ifCond .ne 5), 3), (7, some (.iconst (-1)), 1), (8, some (.ireturn), 1), (9, some (.iload_n 2), 1), (10, some (.iconst 0), 1), (11, some (.invokestatic 92), 3), (14, some (.istore_n 2), 1), (15, some (.iload_n 3), 1), (16, some (.aload_n 0), 1), (17, some (.arraylength), 1), (18, some (.invokestatic 38), 3), (21, some (.istore_n 3), 1), (22, some (.iload_n 2), 1), (23, some (.iload_n 3), 1), (24, some (.if_icmp .lt 5), 3), (27, some (.iconst (-1)), 1), (28, some (.ireturn), 1), (29, some (.aload_n 0), 1), (30, some (.iload_n 1), 1), (31, some (.iload_n 2), 1), (32, some (.iload_n 3), 1), (33, some (.invokestatic 95), 3), (36, some (.ireturn), 1)]
theorem tk_J1_indexOf_4cfef : am_okT (am_bs cJ1_indexOf_4cfef) 0 tb_J1_indexOf_4cfef = true := by decide +kernel
def M_J1_indexOf_4cfef : am_M := (RJ1, yJ1_indexOf_4cfef, cJ1_indexOf_4cfef, 4, (some .int), { frames := 1, cells := 0, slots := 0, locals := 120 }, fun _ _ _ => True)
theorem kc_J1_canEncode_9a6ad : Cond.code yJ1_canEncode_9a6ad cJ1_canEncode_9a6ad 1 (some .boolean) ∈ am_tb := am_in (tw_m3 73 rfl) rfl
theorem kd_J1_canEncode_9a6ad : yJ1_canEncode_9a6ad.cls ≠ "java/lang/invoke/MethodHandle" ∧ yJ1_canEncode_9a6ad.cls ≠ "java/lang/invoke/VarHandle" ∧ (parseMethodDescriptor yJ1_canEncode_9a6ad.desc).map (fun d => d.parameters.length) = some 1 := by decide +kernel
theorem ki_J1_canEncode_9a6ad : Cond.static yJ1_canEncode_9a6ad ∈ am_tb := am_in (tw_m3 72 rfl) rfl
def tb_J1_canEncode_9a6ad : List (Nat × Option Instr × Nat) := [(0, some (.iload_n 0), 1), (1, some (.ifCond .lt 14), 3), (4, some (.iload_n 0), 1), (5, some (.sipush 255), 3), (8, some (.if_icmp .gt 7), 3), (11, some (.iconst 1), 1), (12, some (.goto 4), 3), (15, some (.iconst 0), 1), (16, some (.ireturn), 1)]
theorem tk_J1_canEncode_9a6ad : am_okT (am_bs cJ1_canEncode_9a6ad) 0 tb_J1_canEncode_9a6ad = true := by decide +kernel
def M_J1_canEncode_9a6ad : am_M := (RJ1, yJ1_canEncode_9a6ad, cJ1_canEncode_9a6ad, 1, (some .boolean), { frames := 0, cells := 0, slots := 0, locals := 60 }, fun _ _ _ => True)
theorem kc_J1_indexOfChar_4cfef : Cond.code yJ1_indexOfChar_4cfef cJ1_indexOfChar_4cfef 6 (some .int) ∈ am_tb := am_in (tw_m3 80 rfl) rfl
theorem kd_J1_indexOfChar_4cfef : yJ1_indexOfChar_4cfef.cls ≠ "java/lang/invoke/MethodHandle" ∧ yJ1_indexOfChar_4cfef.cls ≠ "java/lang/invoke/VarHandle" ∧ (parseMethodDescriptor yJ1_indexOfChar_4cfef.desc).map (fun d => d.parameters.length) = some 4 := by decide +kernel
theorem ki_J1_indexOfChar_4cfef : Cond.static yJ1_indexOfChar_4cfef ∈ am_tb := am_in (tw_m3 79 rfl) rfl
def tb_J1_indexOfChar_4cfef : List (Nat × Option Instr × Nat) := [(0, some (.iload_n 1), 1), (1, some (.i2b), 1), (2, some (.istore 4), 2), (4, some (.iload_n 2), 1), (5, some (.istore 5), 2), (7, some (.iload 5), 2), (9, some (.iload_n 3), 1), (10, some (.if_icmp .ge 21), 3), (13, some (.aload_n 0), 1), (14, some (.iload 5), 2), (16, some (.baload), 1), (17, some (.iload 4), 2), (19, some (.if_icmp .ne 6), 3), (22, some (.iload 5), 2), (24, some (.ireturn), 1), (25, some (.iinc 5 1), 3), (28, some (.goto (-21)), 3), (31, some (.iconst (-1)), 1), (32, some (.ireturn), 1)]
theorem tk_J1_indexOfChar_4cfef : am_okT (am_bs cJ1_indexOfChar_4cfef) 0 tb_J1_indexOfChar_4cfef = true := by decide +kernel
def M_J1_indexOfChar_4cfef : am_M := (RJ1, yJ1_indexOfChar_4cfef, cJ1_indexOfChar_4cfef, 6, (some .int), { frames := 0, cells := 0, slots := 0, locals := 60 }, fun _ _ _ => True)
theorem kc_J0_length_8abf5 : Cond.code yJ0_length_8abf5 cJ0_length_8abf5 1 (some .int) ∈ am_tb := am_in (tw_m3 63 rfl) rfl
theorem kd_J0_length_8abf5 : yJ0_length_8abf5.cls ≠ "java/lang/invoke/MethodHandle" ∧ yJ0_length_8abf5.cls ≠ "java/lang/invoke/VarHandle" ∧ (parseMethodDescriptor yJ0_length_8abf5.desc).map (fun d => d.parameters.length) = some 0 := by decide +kernel
theorem ki_J0_length_8abf5 : Cond.instanceMethod yJ0_length_8abf5 ∈ am_tb := am_in (tw_m3 61 rfl) rfl
theorem ks_J0_length_8abf5 : Cond.selects RJ0 yJ0_length_8abf5 yJ0_length_8abf5 ∈ am_tb := am_in (tw_m3 62 rfl) rfl
def tb_J0_length_8abf5 : List (Nat × Option Instr × Nat) := [(0, some (.aload_n 0), 1), (1, some (.getfield 9), 3), (4, some (.arraylength), 1), (5, some (.aload_n 0), 1), (6, some (.invokevirtual 335), 3), (9, some (.ishr), 1), (10, some (.ireturn), 1)]
theorem tk_J0_length_8abf5 : am_okT (am_bs cJ0_length_8abf5) 0 tb_J0_length_8abf5 = true := by decide +kernel
def M_J0_length_8abf5 : am_M := (RJ0, yJ0_length_8abf5, cJ0_length_8abf5, 1, (some .int), { frames := 1, cells := 0, slots := 0, locals := 120 }, fun _ _ _ => True)
theorem kc_J0_coder_7d493 : Cond.code yJ0_coder_7d493 cJ0_coder_7d493 1 (some .byte) ∈ am_tb := am_in (tw_m3 67 rfl) rfl
theorem kd_J0_coder_7d493 : yJ0_coder_7d493.cls ≠ "java/lang/invoke/MethodHandle" ∧ yJ0_coder_7d493.cls ≠ "java/lang/invoke/VarHandle" ∧ (parseMethodDescriptor yJ0_coder_7d493.desc).map (fun d => d.parameters.length) = some 0 := by decide +kernel
theorem ki_J0_coder_7d493 : Cond.instanceMethod yJ0_coder_7d493 ∈ am_tb := am_in (tw_m3 65 rfl) rfl
theorem ks_J0_coder_7d493 : Cond.selects RJ0 yJ0_coder_7d493 yJ0_coder_7d493 ∈ am_tb := am_in (tw_m3 66 rfl) rfl
def tb_J0_coder_7d493 : List (Nat × Option Instr × Nat) := [(0, some (.getstatic 38), 3), (3, some (.ifCond .eq 10), 3), (6, some (.aload_n 0), 1), (7, some (.getfield 15), 3), (10, some (.goto 4), 3), (13, some (.iconst 1), 1), (14, some (.ireturn), 1)]
theorem tk_J0_coder_7d493 : am_okT (am_bs cJ0_coder_7d493) 0 tb_J0_coder_7d493 = true := by decide +kernel
def M_J0_coder_7d493 : am_M := (RJ0, yJ0_coder_7d493, cJ0_coder_7d493, 1, (some .byte), { frames := 0, cells := 0, slots := 0, locals := 60 }, fun _ _ _ => True)
theorem kc_J3_checkIndex_8e157 : Cond.code yJ3_checkIndex_8e157 cJ3_checkIndex_8e157 3 (some .int) ∈ am_tb := am_in (tw_m3 19 rfl) rfl
theorem kd_J3_checkIndex_8e157 : yJ3_checkIndex_8e157.cls ≠ "java/lang/invoke/MethodHandle" ∧ yJ3_checkIndex_8e157.cls ≠ "java/lang/invoke/VarHandle" ∧ (parseMethodDescriptor yJ3_checkIndex_8e157.desc).map (fun d => d.parameters.length) = some 3 := by decide +kernel
theorem ki_J3_checkIndex_8e157 : Cond.static yJ3_checkIndex_8e157 ∈ am_tb := am_in (tw_m3 18 rfl) rfl
def tb_J3_checkIndex_8e157 : List (Nat × Option Instr × Nat) := [(0, some (.iload_n 0), 1), (1, some (.ifCond .lt 8), 3), (4, some (.iload_n 0), 1), (5, some (.iload_n 1), 1), (6, some (.if_icmp .lt 10), 3), (9, some (.aload_n 2), 1), (10, some (.iload_n 0), 1), (11, some (.iload_n 1), 1), (12, some (.invokestatic 95), 3), (15, none, 1), (16, some (.iload_n 0), 1), (17, some (.ireturn), 1)]
theorem tk_J3_checkIndex_8e157 : am_okT (am_bs cJ3_checkIndex_8e157) 0 tb_J3_checkIndex_8e157 = true := by decide +kernel
def M_J3_checkIndex_8e157 : am_M := (RJ3, yJ3_checkIndex_8e157, cJ3_checkIndex_8e157, 3, (some .int), { frames := 0, cells := 0, slots := 0, locals := 60 }, fun _ _ _ => True)
/-- bytes of the two constants -/
def sB (i k : Nat) : Int := ((am_byt.getD i []).getD k 0).toInt
def sN (i : Nat) : Nat := am_len.getD i 0
def ao_i2b (x : Int) : Int := ((Int32.ofInt x).toInt8.toInt32).toInt
theorem am_aloads_n {me : am_M} {Q : Option am_V → am_H → Prop} {cells slots pc q : Nat} {ls : am_Ls} {st : List am_V} {σ : am_H} {i : Fin 4} {b : Nat} (hl : am_get? ls i = some (am_s b)) (hd : decode me.2.2.1 pc = .ok (.aload_n i, 1)) (hq : pc + 1 = q) (k : am_wp me Q cells slots q ls (am_s b :: st) σ) : am_wp me Q cells slots pc ls st σ := by
  intro p l e s m args below meth c base D ss n0 ρ0 C ρ H locs lsA h1 h2 h3 h4 h5 h6 h7
  subst hq
  have hk := k p l e s m args below meth c base D ss n0 ρ0 C ρ H locs lsA h1 h2 h3 h4 h5 h6 (am_all2 (h6 _ (am_getM hl)) h7)
  have ha := am_lAt h5 (am_getM hl)
  exact lv_aload_n C.1 C.2.1 hd rfl ha hk
theorem am_ldcS {me : am_M} {Q : Option am_V → am_H → Prop} {cells slots pc q : Nat} {ls : am_Ls} {st : List am_V} {σ : am_H} {i idx : Nat} (hi : (i = 0 ∧ idx = 73) ∨ (i = 1 ∧ idx = 54)) (hme : me.1 = RX7) (hd : decode me.2.2.1 pc = .ok (.ldc idx, 2)) (hq : pc + 2 = q) (k : am_wp me Q cells slots q ls (am_s i :: st) σ) : am_wp me Q cells slots pc ls st σ := by
  intro p l e s m args below meth c base D ss n0 ρ0 C ρ H locs lsA h1 h2 h3 h4 h5 h6 h7
  subst hq
  have hk := k p l e s m args below meth c base D ss n0 ρ0 C ρ H locs lsA h1 h2 h3 h4 h5 h6 (am_all2 trivial h7)
  have hJ := C.2.2.2.2.2.2.2.2.2.1
  have hown := C.2.2.2.2.1
  rw [hme] at hown
  rcases hi with ⟨rfl, rfl⟩ | ⟨rfl, rfl⟩
  · exact va_ldcS C.1 C.2.1 hown hJ.2.1 hd hk
  · exact va_ldcS C.1 C.2.1 hown hJ.2.2.1 hd hk
theorem am_getsC {me : am_M} {Q : Option am_V → am_H → Prop} {cells slots pc q : Nat} {ls : am_Ls} {st : List am_V} {σ : am_H} (hme : me.1 = RJ0) (hd : decode me.2.2.1 pc = .ok (.getstatic 38, 3)) (hq : pc + 3 = q) (k : am_wp me Q cells slots q ls (am_i 1 :: st) σ) : am_wp me Q cells slots pc ls st σ := by
  intro p l e s m args below meth c base D ss n0 ρ0 C ρ H locs lsA h1 h2 h3 h4 h5 h6 h7
  subst hq
  have hk := k p l e s m args below meth c base D ss n0 ρ0 C ρ H locs lsA h1 h2 h3 h4 h5 h6 (am_all2 (show -2147483648 ≤ (1 : Int) ∧ (1 : Int) < 2147483648 by decide) h7)
  have hJ := C.2.2.2.2.2.2.2.2.2.1
  have hown := C.2.2.2.2.1
  rw [hme] at hown
  exact va_gets C.1 C.2.1 hJ.2.2.2.1 h4 hown (C.2.2.2.2.2.1 _ kf_J0_38) (fun _ h => h) hd hk
theorem am_getsF {me : am_M} {Q : Option am_V → am_H → Prop} {cells slots pc q : Nat} {ls : am_Ls} {st : List am_V} {σ : am_H} (hme : me.1 = RJ0) (hd : decode me.2.2.1 pc = .ok (.getstatic 1053, 3)) (hq : pc + 3 = q) (k : ∀ v, (v = am_o none ∨ v = am_s 5) → am_wp me Q cells slots q ls (v :: st) σ) : am_wp me Q cells slots pc ls st σ := by
  intro p l e s m args below meth c base D ss n0 ρ0 C ρ H locs lsA h1 h2 h3 h4 h5 h6 h7
  subst hq
  have hJ := C.2.2.2.2.2.2.2.2.2.1
  have hown := C.2.2.2.2.1
  rw [hme] at hown
  rcases hJ.2.2.2.2.2 with h | h
  · have hk := k (am_o none) (Or.inl rfl) p l e s m args below meth c base D ss n0 ρ0 C ρ H locs lsA h1 h2 h3 h4 h5 h6 (am_all2 (fun a ha => nomatch ha) h7)
    exact va_gets C.1 C.2.1 h h4 hown (C.2.2.2.2.2.1 _ kf_J0_1053) (fun _ h => h) hd hk
  · have hk := k (am_s 5) (Or.inr rfl) p l e s m args below meth c base D ss n0 ρ0 C ρ H locs lsA h1 h2 h3 h4 h5 h6 (am_all2 trivial h7)
    exact va_gets C.1 C.2.1 h h4 hown (C.2.2.2.2.2.1 _ kf_J0_1053) (fun _ h => h) hd hk
theorem am_coder {me : am_M} {Q : Option am_V → am_H → Prop} {cells slots pc q : Nat} {ls : am_Ls} {st : List am_V} {σ : am_H} {i : Nat} (hi : i < 2) (hme : me.1 = RJ0) (hd : decode me.2.2.1 pc = .ok (.getfield 15, 3)) (hq : pc + 3 = q) (k : am_wp me Q cells slots q ls (am_i 0 :: st) σ) : am_wp me Q cells slots pc ls (am_s i :: st) σ := by
  intro p l e s m args below meth c base D ss n0 ρ0 C ρ H locs lsA h1 h2 h3 h4 h5 h6 h7
  subst hq
  have hk := k p l e s m args below meth c base D ss n0 ρ0 C ρ H locs lsA h1 h2 h3 h4 h5 h6 (am_all2 (show -2147483648 ≤ (0 : Int) ∧ (0 : Int) < 2147483648 by decide) (List.forall_mem_cons.mp h7).2)
  have hJ := C.2.2.2.2.2.2.2.2.2.1
  have hown := C.2.2.2.2.1
  rw [hme] at hown
  exact vk_getf C.1 C.2.1 (hJ.1.1 i hi).2.1 h4 hown (C.2.2.2.2.2.1 _ kf_J0_15) (fun _ h => h) hd hk
theorem am_value {me : am_M} {Q : Option am_V → am_H → Prop} {cells slots pc q : Nat} {ls : am_Ls} {st : List am_V} {σ : am_H} {i : Nat} (hi : i < 2) (hme : me.1 = RJ0) (hd : decode me.2.2.1 pc = .ok (.getfield 9, 3)) (hq : pc + 3 = q) (k : am_wp me Q cells slots q ls (am_s (3 + i) :: st) σ) : am_wp me Q cells slots pc ls (am_s i :: st) σ := by
  intro p l e s m args below meth c base D ss n0 ρ0 C ρ H locs lsA h1 h2 h3 h4 h5 h6 h7
  subst hq
  have hk := k p l e s m args below meth c base D ss n0 ρ0 C ρ H locs lsA h1 h2 h3 h4 h5 h6 (am_all2 trivial (List.forall_mem_cons.mp h7).2)
  have hJ := C.2.2.2.2.2.2.2.2.2.1
  have hown := C.2.2.2.2.1
  rw [hme] at hown
  exact vk_getf C.1 C.2.1 (hJ.1.1 i hi).2.2.1 h4 hown (C.2.2.2.2.2.1 _ kf_J0_9) (fun _ h => h) hd hk
theorem am_bald {me : am_M} {Q : Option am_V → am_H → Prop} {cells slots pc q : Nat} {ls : am_Ls} {st : List am_V} {σ : am_H} {i : Nat} {k0 x : Int} (hi : i < 2) (h0 : 0 ≤ k0) (h9 : k0 < (sN i : Int)) (hx : sB i k0.toNat = x) (hd : decode me.2.2.1 pc = .ok (.baload, 1)) (hq : pc + 1 = q) (k : am_wp me Q cells slots q ls (am_i x :: st) σ) : am_wp me Q cells slots pc ls (am_i k0 :: am_s (3 + i) :: st) σ := by
  intro p l e s m args below meth c base D ss n0 ρ0 C ρ H locs lsA h1 h2 h3 h4 h5 h6 h7
  subst hq
  subst hx
  have hJ := C.2.2.2.2.2.2.2.2.2.1
  have g7 := List.forall_mem_cons.mp h7
  have hv := am_vp h0 h9 g7.1
  have hk := k p l e s m args below meth c base D ss n0 ρ0 C ρ H locs lsA h1 h2 h3 h4 h5 h6 (am_all2 (am_r32 _) (List.forall_mem_cons.mp g7.2).2)
  refine va_tb C.1 C.2.1 (hJ.1.1 i hi).2.2.2 h4 hv.1 (v := .int (Int32.ofInt (sB i k0.toNat))) ?_ hd hk
  show Value.int ((am_byt.getD i []).getD (Int32.ofInt k0).toNatClampNeg 0) = _
  rw [hv.2, sB, Int32.ofInt_toInt]
theorem am_blen {me : am_M} {Q : Option am_V → am_H → Prop} {cells slots pc q : Nat} {ls : am_Ls} {st : List am_V} {σ : am_H} {i : Nat} (hi : i < 2) (hd : decode me.2.2.1 pc = .ok (.arraylength, 1)) (hq : pc + 1 = q) (k : am_wp me Q cells slots q ls (am_i (sN i : Int) :: st) σ) : am_wp me Q cells slots pc ls (am_s (3 + i) :: st) σ := by
  intro p l e s m args below meth c base D ss n0 ρ0 C ρ H locs lsA h1 h2 h3 h4 h5 h6 h7
  subst hq
  have hJ := C.2.2.2.2.2.2.2.2.2.1
  have hr : -2147483648 ≤ (sN i : Int) ∧ (sN i : Int) < 2147483648 := by
    rcases (show i = 0 ∨ i = 1 by omega) with rfl | rfl <;> decide
  have hk := k p l e s m args below meth c base D ss n0 ρ0 C ρ H locs lsA h1 h2 h3 h4 h5 h6 (am_all2 hr (List.forall_mem_cons.mp h7).2)
  refine va_tlen C.1 C.2.1 (hJ.1.1 i hi).2.2.2 h4 (v := Int32.ofInt (sN i : Int)) ?_ hd hk
  rcases (show i = 0 ∨ i = 1 by omega) with rfl | rfl <;> rfl
theorem am_i2b {me : am_M} {Q : Option am_V → am_H → Prop} {cells slots pc q : Nat} {ls : am_Ls} {st : List am_V} {σ : am_H} {x y : Int} (hv : y = ao_i2b x) (hd : decode me.2.2.1 pc = .ok (.i2b, 1)) (hq : pc + 1 = q) (k : am_wp me Q cells slots q ls (am_i y :: st) σ) : am_wp me Q cells slots pc ls (am_i x :: st) σ := by
  intro p l e s m args below meth c base D ss n0 ρ0 C ρ H locs lsA h1 h2 h3 h4 h5 h6 h7
  subst hq
  subst hv
  obtain ⟨hx, g7a⟩ := List.forall_mem_cons.mp h7
  refine lv_i2b C.1 C.2.1 hd rfl ?_
  have hk := k p l e s m args below meth c base D ss n0 ρ0 C ρ H locs lsA h1 h2 h3 h4 h5 h6 (am_all2 (am_r32 _) g7a)
  have he : am_cv ρ ss (am_i (ao_i2b x)) = .int ((Int32.ofInt x).toInt8.toInt32) := by show Value.int (Int32.ofInt (ao_i2b x)) = _; rw [ao_i2b, Int32.ofInt_toInt]
  rw [List.map_cons, he] at hk
  exact hk
theorem nar_c : ∀ n : Fin 256, narrow .char (.int (Int32.ofInt (n.val : Int))) = .int (Int32.ofInt (n.val : Int)) := by decide +kernel
theorem am_cret {me : am_M} {Q : Option am_V → am_H → Prop} {cells slots pc : Nat} {ls : am_Ls} {σ : am_H} {x : Int} (hret : me.2.2.2.2.1 = some .char) (hx9 : 0 ≤ x ∧ x < 256) (hc : cells ≤ me.2.2.2.2.2.1.cells) (hs : slots ≤ me.2.2.2.2.2.1.slots) (hd : decode me.2.2.1 pc = .ok (.ireturn, 1)) (hQ : Q (some (am_i x)) σ) : am_wp me Q cells slots pc ls [am_i x] σ := by
  intro p l e s m args below meth c base D ss n0 ρ0 C ρ H locs lsA h1 h2 h3 h4 h5 h6 h7
  refine W.widen hc hs ?_
  have hx := h7 _ List.mem_cons_self
  have hq : ∀ t : State, t.heap = H → s.WarmedH t.vm → am_Qc base D ρ0 ss n0 Q args s (.returned (some (.int (Int32.ofInt x)))) t := fun t ht hW => ⟨⟨some (am_i x), σ, ρ, rfl, h1, h2, fun v hv => by cases hv; exact hx, hQ, by rw [ht]; exact h3, va_K.moved hW.alike C.2.2.2.2.2.2.2.2.1, by rw [ht]; exact C.2.2.2.2.2.2.2.2.2.1.next h4 hW⟩, h4.F ht⟩
  have hn := nar_c ⟨x.toNat, by omega⟩
  have e : ((x.toNat : Nat) : Int) = x := by omega
  simp only [e] at hn
  exact W.zret (ty := .char) C.1 C.2.1 (by rw [C.2.2.1]; exact hret) hn hq h4.2.2 hd C.2.2.2.2.2.2.1
theorem am_bret {me : am_M} {Q : Option am_V → am_H → Prop} {cells slots pc : Nat} {ls : am_Ls} {σ : am_H} {x : Int} (hret : me.2.2.2.2.1 = some .byte) (hx9 : x = 0) (hc : cells ≤ me.2.2.2.2.2.1.cells) (hs : slots ≤ me.2.2.2.2.2.1.slots) (hd : decode me.2.2.1 pc = .ok (.ireturn, 1)) (hQ : Q (some (am_i x)) σ) : am_wp me Q cells slots pc ls [am_i x] σ := by
  subst hx9
  intro p l e s m args below meth c base D ss n0 ρ0 C ρ H locs lsA h1 h2 h3 h4 h5 h6 h7
  refine W.widen hc hs ?_
  have hx := h7 _ List.mem_cons_self
  have hq : ∀ t : State, t.heap = H → s.WarmedH t.vm → am_Qc base D ρ0 ss n0 Q args s (.returned (some (.int (Int32.ofInt 0)))) t := fun t ht hW => ⟨⟨some (am_i 0), σ, ρ, rfl, h1, h2, fun v hv => by cases hv; exact hx, hQ, by rw [ht]; exact h3, va_K.moved hW.alike C.2.2.2.2.2.2.2.2.1, by rw [ht]; exact C.2.2.2.2.2.2.2.2.2.1.next h4 hW⟩, h4.F ht⟩
  exact W.zret (ty := .byte) C.1 C.2.1 (by rw [C.2.2.1]; exact hret) rfl hq h4.2.2 hd C.2.2.2.2.2.2.1
theorem am_callVs {me me2 : am_M} {Q Q2 : Option am_V → am_H → Prop} {cells slots pc q : Nat} {ls : am_Ls} {st As rest : List am_V} {σ : am_H} {b idx : Nat} (hM : am_met me2 (am_s b :: As) σ Q2) (hz : me2.2.2.2.2.2.1.cells = 0 ∧ me2.2.2.2.2.2.1.slots = 0) (hb : b < 2) (hw : am_cw me me2 idx As.length cells slots rest) (hi : Cond.instanceMethod me2.2.1 ∈ am_tb) (hse : Cond.selects RJ0 me2.2.1 me2.2.1 ∈ am_tb) (hst : st = As.reverse ++ am_s b :: rest) (hd : decode me.2.2.1 pc = .ok (.invokevirtual idx, 3)) (hq : pc + 3 = q)
    (kk : ∀ r σ', Q2 r σ' → am_wp me Q cells slots q ls (r.toList ++ rest) σ') : am_wp me Q cells slots pc ls st σ := by
  intro p l e s m args below meth c base D ss n0 ρ0 C ρ H locs lsA h1 h2 h3 h4 h5 h6 h7
  subst hq; subst hst
  obtain ⟨hl, hc, hin, hdsc, hrm, hcs, hcat⟩ := hw
  have hJ := C.2.2.2.2.2.2.2.2.2.1
  have hAs : ∀ v ∈ am_s b :: As, am_ok σ.1.length v := fun v hv => by
    rcases List.mem_cons.mp hv with rfl | hv
    · trivial
    · exact h7 _ (List.mem_append_left _ (List.mem_reverse.mpr hv))
  have hre : ∀ v ∈ rest, am_ok σ.1.length v := fun v hv => h7 _ (List.mem_append_right _ (List.mem_cons_of_mem _ hv))
  have hpre : PreV s H RJ0 (ss b) (va_Pc ((am_s b :: As).map (am_cv ρ ss)) (fun U => am_hp base D ρ σ U.heap ∧ va_K D.1 vwCl (am_tys D) U ∧ am_J base ss U U.heap ∧ base ≤ U.heap.size ∧ ∀ v ∈ am_s b :: As, am_ok σ.1.length v)) (As.map (am_cv ρ ss)) :=
    ⟨am_pcall, vk_recv hJ.1 hb h4, fun U hU hW => ⟨rfl, by rw [hU]; exact h3, va_K.moved hW.alike C.2.2.2.2.2.2.2.2.1, by rw [hU]; exact C.2.2.2.2.2.2.2.2.2.1.next h4 hW, by rw [hU]; exact Nat.le_trans C.2.2.2.2.2.2.2.2.2.2.1 h4.1, hAs⟩⟩
  have hstk : (As.reverse ++ am_s b :: rest).map (am_cv ρ ss) = (As.map (am_cv ρ ss)).reverse ++ .ref (ss b) :: rest.map (am_cv ρ ss) := by simp [am_cv]
  rw [hstk]
  have hn : (As.map (am_cv ρ ss)).length = As.length := by simp
  have hcat2 : 2 * (F0 m pc lsA ((As.map (am_cv ρ ss)).reverse ++ .ref (ss b) :: rest.map (am_cv ρ ss))).monitorRoom + ((rest.map (am_cv ρ ss)).map fun v => v.category).sum ≤ 8 := by
    rw [am_catsum]
    simpa [JFrame.monitorRoom] using hcat
  have kk2 : ∀ r σ', Q2 r σ' → am_wp me Q (cells + me2.2.2.2.2.2.1.cells) (slots + me2.2.2.2.2.2.1.slots) (pc + 3) ls (r.toList ++ rest) σ' := fun r σ' h => by
    rw [hz.1, hz.2]; exact kk r σ' h
  rcases hl with hl | hl
  · exact am_after (va_runV ⟨C.1, C.2.1, C.2.2.2.1, C.2.2.2.2.1, C.2.2.2.2.2.1⟩ (hM l base D ρ ss) ⟨am_ctw C.2.2.2.2.2.1 hl hc hin hdsc hrm, C.2.2.2.2.2.1 _ hi, C.2.2.2.2.2.1 _ hse⟩ hpre rfl hn h5.1 rfl hcat2 hd hcs) h4 (am_next C h1 h2 h5 h6 hre _ _ kk2)
  · exact am_after (va_runVN ⟨C.1, C.2.1, C.2.2.2.1, C.2.2.2.2.1, C.2.2.2.2.2.1⟩ (hM l base D ρ ss) ⟨am_ctn C.2.2.2.2.2.1 hl hc hin hdsc hrm, C.2.2.2.2.2.1 _ hi, C.2.2.2.2.2.1 _ hse⟩ hpre rfl hn h5.1 rfl hcat2 hd hcs) h4 (am_next C h1 h2 h5 h6 hre _ _ kk2)
