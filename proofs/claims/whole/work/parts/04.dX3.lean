abbrev cX3_init : ByteArray := prog_5_method_1_code
abbrev yX3_init : MethodName := ⟨"RangeReadersModel", "<init>", "()V"⟩
theorem hd_X3_init : (yX3_init).cls ≠ "java/lang/invoke/MethodHandle" ∧ (yX3_init).cls ≠ "java/lang/invoke/VarHandle" ∧ (parseMethodDescriptor (yX3_init).desc).map (fun d => d.parameters.length) = some 0 := by decide +kernel
theorem dX3_init_0 : decode cX3_init 0 = .ok (.aload_n 0, 1) := by decide +kernel
theorem dX3_init_1 : decode cX3_init 1 = .ok (.invokespecial 1, 3) := by decide +kernel
theorem dX3_init_4 : decode cX3_init 4 = .ok (.aload_n 0, 1) := by decide +kernel
theorem dX3_init_5 : decode cX3_init 5 = .ok (.sipush 4096, 3) := by decide +kernel
theorem dX3_init_8 : decode cX3_init 8 = .ok (.newarray .boolean, 2) := by decide +kernel
theorem dX3_init_10 : decode cX3_init 10 = .ok (.putfield 7, 3) := by decide +kernel
theorem dX3_init_13 : decode cX3_init 13 = .ok (.aload_n 0, 1) := by decide +kernel
theorem dX3_init_14 : decode cX3_init 14 = .ok (.sipush 4096, 3) := by decide +kernel
theorem dX3_init_17 : decode cX3_init 17 = .ok (.newarray .int, 2) := by decide +kernel
theorem dX3_init_19 : decode cX3_init 19 = .ok (.putfield 13, 3) := by decide +kernel
theorem dX3_init_22 : decode cX3_init 22 = .ok (.aload_n 0, 1) := by decide +kernel
theorem dX3_init_23 : decode cX3_init 23 = .ok (.sipush 4096, 3) := by decide +kernel
theorem dX3_init_26 : decode cX3_init 26 = .ok (.newarray .int, 2) := by decide +kernel
theorem dX3_init_28 : decode cX3_init 28 = .ok (.putfield 17, 3) := by decide +kernel
theorem dX3_init_31 : decode cX3_init 31 = .ok (.aload_n 0, 1) := by decide +kernel
theorem dX3_init_32 : decode cX3_init 32 = .ok (.sipush 4096, 3) := by decide +kernel
theorem dX3_init_35 : decode cX3_init 35 = .ok (.newarray .int, 2) := by decide +kernel
theorem dX3_init_37 : decode cX3_init 37 = .ok (.putfield 20, 3) := by decide +kernel
theorem dX3_init_40 : decode cX3_init 40 = .ok (.aload_n 0, 1) := by decide +kernel
theorem dX3_init_41 : decode cX3_init 41 = .ok (.sipush 4096, 3) := by decide +kernel
theorem dX3_init_44 : decode cX3_init 44 = .ok (.newarray .int, 2) := by decide +kernel
theorem dX3_init_46 : decode cX3_init 46 = .ok (.putfield 23, 3) := by decide +kernel
theorem dX3_init_49 : decode cX3_init 49 = .ok (.aload_n 0, 1) := by decide +kernel
theorem dX3_init_50 : decode cX3_init 50 = .ok (.sipush 4096, 3) := by decide +kernel
theorem dX3_init_53 : decode cX3_init 53 = .ok (.newarray .int, 2) := by decide +kernel
theorem dX3_init_55 : decode cX3_init 55 = .ok (.putfield 26, 3) := by decide +kernel
theorem dX3_init_58 : decode cX3_init 58 = .ok (.aload_n 0, 1) := by decide +kernel
theorem dX3_init_59 : decode cX3_init 59 = .ok (.sipush 4096, 3) := by decide +kernel
theorem dX3_init_62 : decode cX3_init 62 = .ok (.newarray .int, 2) := by decide +kernel
theorem dX3_init_64 : decode cX3_init 64 = .ok (.putfield 29, 3) := by decide +kernel
theorem dX3_init_67 : decode cX3_init 67 = .ok (.aload_n 0, 1) := by decide +kernel
theorem dX3_init_68 : decode cX3_init 68 = .ok (.sipush 4096, 3) := by decide +kernel
theorem dX3_init_71 : decode cX3_init 71 = .ok (.newarray .int, 2) := by decide +kernel
theorem dX3_init_73 : decode cX3_init 73 = .ok (.putfield 32, 3) := by decide +kernel
theorem dX3_init_76 : decode cX3_init 76 = .ok (.return_, 1) := by decide +kernel
abbrev cX3_thrown : ByteArray := prog_5_method_2_code
abbrev yX3_thrown : MethodName := ⟨"RangeReadersModel", "thrown", "()I"⟩
theorem hd_X3_thrown : (yX3_thrown).cls ≠ "java/lang/invoke/MethodHandle" ∧ (yX3_thrown).cls ≠ "java/lang/invoke/VarHandle" ∧ (parseMethodDescriptor (yX3_thrown).desc).map (fun d => d.parameters.length) = some 0 := by decide +kernel
theorem dX3_thrown_0 : decode cX3_thrown 0 = .ok (.aload_n 0, 1) := by decide +kernel
theorem dX3_thrown_1 : decode cX3_thrown 1 = .ok (.getfield 35, 3) := by decide +kernel
theorem dX3_thrown_4 : decode cX3_thrown 4 = .ok (.ireturn, 1) := by decide +kernel
abbrev cX3_rectangle : ByteArray := prog_5_method_4_code
abbrev yX3_rectangle : MethodName := ⟨"RangeReadersModel", "rectangle", "(IIIII)Z"⟩
theorem hd_X3_rectangle : (yX3_rectangle).cls ≠ "java/lang/invoke/MethodHandle" ∧ (yX3_rectangle).cls ≠ "java/lang/invoke/VarHandle" ∧ (parseMethodDescriptor (yX3_rectangle).desc).map (fun d => d.parameters.length) = some 5 := by decide +kernel
theorem dX3_rectangle_0 : decode cX3_rectangle 0 = .ok (.aload_n 0, 1) := by decide +kernel
theorem dX3_rectangle_1 : decode cX3_rectangle 1 = .ok (.iconst 0, 1) := by decide +kernel
theorem dX3_rectangle_2 : decode cX3_rectangle 2 = .ok (.putfield 35, 3) := by decide +kernel
theorem dX3_rectangle_5 : decode cX3_rectangle 5 = .ok (.iload_n 1, 1) := by decide +kernel
theorem dX3_rectangle_6 : decode cX3_rectangle 6 = .ok (.iconst 0, 1) := by decide +kernel
theorem dX3_rectangle_7 : decode cX3_rectangle 7 = .ok (.bipush 7, 2) := by decide +kernel
theorem dX3_rectangle_9 : decode cX3_rectangle 9 = .ok (.invokestatic 39, 3) := by decide +kernel
theorem dX3_rectangle_12 : decode cX3_rectangle 12 = .ok (.ifCond .eq 47, 3) := by decide +kernel
theorem dX3_rectangle_15 : decode cX3_rectangle 15 = .ok (.iload_n 2, 1) := by decide +kernel
theorem dX3_rectangle_16 : decode cX3_rectangle 16 = .ok (.iconst 1, 1) := by decide +kernel
theorem dX3_rectangle_17 : decode cX3_rectangle 17 = .ok (.ldc 43, 2) := by decide +kernel
theorem dX3_rectangle_19 : decode cX3_rectangle 19 = .ok (.invokestatic 39, 3) := by decide +kernel
theorem dX3_rectangle_22 : decode cX3_rectangle 22 = .ok (.ifCond .eq 37, 3) := by decide +kernel
theorem dX3_rectangle_25 : decode cX3_rectangle 25 = .ok (.iload 4, 2) := by decide +kernel
theorem dX3_rectangle_27 : decode cX3_rectangle 27 = .ok (.iload_n 2, 1) := by decide +kernel
theorem dX3_rectangle_28 : decode cX3_rectangle 28 = .ok (.ldc 43, 2) := by decide +kernel
theorem dX3_rectangle_30 : decode cX3_rectangle 30 = .ok (.invokestatic 39, 3) := by decide +kernel
theorem dX3_rectangle_33 : decode cX3_rectangle 33 = .ok (.ifCond .eq 26, 3) := by decide +kernel
theorem dX3_rectangle_36 : decode cX3_rectangle 36 = .ok (.iload_n 3, 1) := by decide +kernel
theorem dX3_rectangle_37 : decode cX3_rectangle 37 = .ok (.iconst 1, 1) := by decide +kernel
theorem dX3_rectangle_38 : decode cX3_rectangle 38 = .ok (.sipush 16384, 3) := by decide +kernel
theorem dX3_rectangle_41 : decode cX3_rectangle 41 = .ok (.invokestatic 39, 3) := by decide +kernel
theorem dX3_rectangle_44 : decode cX3_rectangle 44 = .ok (.ifCond .eq 15, 3) := by decide +kernel
theorem dX3_rectangle_47 : decode cX3_rectangle 47 = .ok (.iload 5, 2) := by decide +kernel
theorem dX3_rectangle_49 : decode cX3_rectangle 49 = .ok (.iload_n 3, 1) := by decide +kernel
theorem dX3_rectangle_50 : decode cX3_rectangle 50 = .ok (.sipush 16384, 3) := by decide +kernel
theorem dX3_rectangle_53 : decode cX3_rectangle 53 = .ok (.invokestatic 39, 3) := by decide +kernel
theorem dX3_rectangle_56 : decode cX3_rectangle 56 = .ok (.ifCond .ne 5, 3) := by decide +kernel
theorem dX3_rectangle_59 : decode cX3_rectangle 59 = .ok (.iconst 0, 1) := by decide +kernel
theorem dX3_rectangle_60 : decode cX3_rectangle 60 = .ok (.ireturn, 1) := by decide +kernel
theorem dX3_rectangle_61 : decode cX3_rectangle 61 = .ok (.aload_n 0, 1) := by decide +kernel
theorem dX3_rectangle_62 : decode cX3_rectangle 62 = .ok (.iload_n 1, 1) := by decide +kernel
theorem dX3_rectangle_63 : decode cX3_rectangle 63 = .ok (.putfield 44, 3) := by decide +kernel
theorem dX3_rectangle_66 : decode cX3_rectangle 66 = .ok (.aload_n 0, 1) := by decide +kernel
theorem dX3_rectangle_67 : decode cX3_rectangle 67 = .ok (.iload_n 2, 1) := by decide +kernel
theorem dX3_rectangle_68 : decode cX3_rectangle 68 = .ok (.putfield 47, 3) := by decide +kernel
theorem dX3_rectangle_71 : decode cX3_rectangle 71 = .ok (.aload_n 0, 1) := by decide +kernel
theorem dX3_rectangle_72 : decode cX3_rectangle 72 = .ok (.iload_n 3, 1) := by decide +kernel
theorem dX3_rectangle_73 : decode cX3_rectangle 73 = .ok (.putfield 50, 3) := by decide +kernel
theorem dX3_rectangle_76 : decode cX3_rectangle 76 = .ok (.aload_n 0, 1) := by decide +kernel
theorem dX3_rectangle_77 : decode cX3_rectangle 77 = .ok (.iload 4, 2) := by decide +kernel
theorem dX3_rectangle_79 : decode cX3_rectangle 79 = .ok (.putfield 53, 3) := by decide +kernel
theorem dX3_rectangle_82 : decode cX3_rectangle 82 = .ok (.aload_n 0, 1) := by decide +kernel
theorem dX3_rectangle_83 : decode cX3_rectangle 83 = .ok (.iload 5, 2) := by decide +kernel
theorem dX3_rectangle_85 : decode cX3_rectangle 85 = .ok (.putfield 56, 3) := by decide +kernel
theorem dX3_rectangle_88 : decode cX3_rectangle 88 = .ok (.aload_n 0, 1) := by decide +kernel
theorem dX3_rectangle_89 : decode cX3_rectangle 89 = .ok (.iconst 1, 1) := by decide +kernel
theorem dX3_rectangle_90 : decode cX3_rectangle 90 = .ok (.putfield 59, 3) := by decide +kernel
theorem dX3_rectangle_93 : decode cX3_rectangle 93 = .ok (.iconst 1, 1) := by decide +kernel
theorem dX3_rectangle_94 : decode cX3_rectangle 94 = .ok (.ireturn, 1) := by decide +kernel
abbrev cX3_within : ByteArray := prog_5_method_3_code
abbrev yX3_within : MethodName := ⟨"RangeReadersModel", "within", "(III)Z"⟩
theorem hd_X3_within : (yX3_within).cls ≠ "java/lang/invoke/MethodHandle" ∧ (yX3_within).cls ≠ "java/lang/invoke/VarHandle" ∧ (parseMethodDescriptor (yX3_within).desc).map (fun d => d.parameters.length) = some 3 := by decide +kernel
theorem dX3_within_0 : decode cX3_within 0 = .ok (.iload_n 0, 1) := by decide +kernel
theorem dX3_within_1 : decode cX3_within 1 = .ok (.iload_n 1, 1) := by decide +kernel
theorem dX3_within_2 : decode cX3_within 2 = .ok (.if_icmp .lt 12, 3) := by decide +kernel
theorem dX3_within_5 : decode cX3_within 5 = .ok (.iload_n 0, 1) := by decide +kernel
theorem dX3_within_6 : decode cX3_within 6 = .ok (.iload_n 2, 1) := by decide +kernel
theorem dX3_within_7 : decode cX3_within 7 = .ok (.if_icmp .gt 7, 3) := by decide +kernel
theorem dX3_within_10 : decode cX3_within 10 = .ok (.iconst 1, 1) := by decide +kernel
theorem dX3_within_11 : decode cX3_within 11 = .ok (.goto 4, 3) := by decide +kernel
theorem dX3_within_14 : decode cX3_within 14 = .ok (.iconst 0, 1) := by decide +kernel
theorem dX3_within_15 : decode cX3_within 15 = .ok (.ireturn, 1) := by decide +kernel
abbrev cX3_add : ByteArray := prog_5_method_5_code
abbrev yX3_add : MethodName := ⟨"RangeReadersModel", "add", "(I)I"⟩
theorem hd_X3_add : (yX3_add).cls ≠ "java/lang/invoke/MethodHandle" ∧ (yX3_add).cls ≠ "java/lang/invoke/VarHandle" ∧ (parseMethodDescriptor (yX3_add).desc).map (fun d => d.parameters.length) = some 1 := by decide +kernel
theorem dX3_add_0 : decode cX3_add 0 = .ok (.aload_n 0, 1) := by decide +kernel
theorem dX3_add_1 : decode cX3_add 1 = .ok (.aload_n 0, 1) := by decide +kernel
theorem dX3_add_2 : decode cX3_add 2 = .ok (.getfield 59, 3) := by decide +kernel
theorem dX3_add_5 : decode cX3_add 5 = .ok (.ifCond .eq 14, 3) := by decide +kernel
theorem dX3_add_8 : decode cX3_add 8 = .ok (.iload_n 1, 1) := by decide +kernel
theorem dX3_add_9 : decode cX3_add 9 = .ok (.iconst 0, 1) := by decide +kernel
theorem dX3_add_10 : decode cX3_add 10 = .ok (.sipush 16383, 3) := by decide +kernel
theorem dX3_add_13 : decode cX3_add 13 = .ok (.invokestatic 39, 3) := by decide +kernel
theorem dX3_add_16 : decode cX3_add 16 = .ok (.ifCond .ne 7, 3) := by decide +kernel
theorem dX3_add_19 : decode cX3_add 19 = .ok (.iconst 1, 1) := by decide +kernel
theorem dX3_add_20 : decode cX3_add 20 = .ok (.goto 4, 3) := by decide +kernel
theorem dX3_add_23 : decode cX3_add 23 = .ok (.iconst 0, 1) := by decide +kernel
theorem dX3_add_24 : decode cX3_add 24 = .ok (.putfield 35, 3) := by decide +kernel
theorem dX3_add_27 : decode cX3_add 27 = .ok (.aload_n 0, 1) := by decide +kernel
theorem dX3_add_28 : decode cX3_add 28 = .ok (.getfield 35, 3) := by decide +kernel
theorem dX3_add_31 : decode cX3_add 31 = .ok (.ifCond .eq 5, 3) := by decide +kernel
theorem dX3_add_34 : decode cX3_add 34 = .ok (.iconst 0, 1) := by decide +kernel
theorem dX3_add_35 : decode cX3_add 35 = .ok (.ireturn, 1) := by decide +kernel
theorem dX3_add_36 : decode cX3_add 36 = .ok (.iconst 0, 1) := by decide +kernel
theorem dX3_add_37 : decode cX3_add 37 = .ok (.istore_n 2, 1) := by decide +kernel
theorem dX3_add_38 : decode cX3_add 38 = .ok (.aload_n 0, 1) := by decide +kernel
theorem dX3_add_39 : decode cX3_add 39 = .ok (.getfield 7, 3) := by decide +kernel
theorem dX3_add_42 : decode cX3_add 42 = .ok (.iload_n 2, 1) := by decide +kernel
theorem dX3_add_43 : decode cX3_add 43 = .ok (.baload, 1) := by decide +kernel
theorem dX3_add_44 : decode cX3_add 44 = .ok (.ifCond .eq 9, 3) := by decide +kernel
theorem dX3_add_47 : decode cX3_add 47 = .ok (.iinc 2 1, 3) := by decide +kernel
theorem dX3_add_50 : decode cX3_add 50 = .ok (.goto (-12), 3) := by decide +kernel
theorem dX3_add_53 : decode cX3_add 53 = .ok (.aload_n 0, 1) := by decide +kernel
theorem dX3_add_54 : decode cX3_add 54 = .ok (.getfield 7, 3) := by decide +kernel
theorem dX3_add_57 : decode cX3_add 57 = .ok (.iload_n 2, 1) := by decide +kernel
theorem dX3_add_58 : decode cX3_add 58 = .ok (.iconst 1, 1) := by decide +kernel
theorem dX3_add_59 : decode cX3_add 59 = .ok (.bastore, 1) := by decide +kernel
theorem dX3_add_60 : decode cX3_add 60 = .ok (.aload_n 0, 1) := by decide +kernel
theorem dX3_add_61 : decode cX3_add 61 = .ok (.getfield 13, 3) := by decide +kernel
theorem dX3_add_64 : decode cX3_add 64 = .ok (.iload_n 2, 1) := by decide +kernel
theorem dX3_add_65 : decode cX3_add 65 = .ok (.aload_n 0, 1) := by decide +kernel
theorem dX3_add_66 : decode cX3_add 66 = .ok (.getfield 44, 3) := by decide +kernel
theorem dX3_add_69 : decode cX3_add 69 = .ok (.iastore, 1) := by decide +kernel
theorem dX3_add_70 : decode cX3_add 70 = .ok (.aload_n 0, 1) := by decide +kernel
theorem dX3_add_71 : decode cX3_add 71 = .ok (.getfield 17, 3) := by decide +kernel
theorem dX3_add_74 : decode cX3_add 74 = .ok (.iload_n 2, 1) := by decide +kernel
theorem dX3_add_75 : decode cX3_add 75 = .ok (.aload_n 0, 1) := by decide +kernel
theorem dX3_add_76 : decode cX3_add 76 = .ok (.getfield 47, 3) := by decide +kernel
theorem dX3_add_79 : decode cX3_add 79 = .ok (.iastore, 1) := by decide +kernel
theorem dX3_add_80 : decode cX3_add 80 = .ok (.aload_n 0, 1) := by decide +kernel
theorem dX3_add_81 : decode cX3_add 81 = .ok (.getfield 20, 3) := by decide +kernel
theorem dX3_add_84 : decode cX3_add 84 = .ok (.iload_n 2, 1) := by decide +kernel
theorem dX3_add_85 : decode cX3_add 85 = .ok (.aload_n 0, 1) := by decide +kernel
theorem dX3_add_86 : decode cX3_add 86 = .ok (.getfield 50, 3) := by decide +kernel
theorem dX3_add_89 : decode cX3_add 89 = .ok (.iastore, 1) := by decide +kernel
theorem dX3_add_90 : decode cX3_add 90 = .ok (.aload_n 0, 1) := by decide +kernel
theorem dX3_add_91 : decode cX3_add 91 = .ok (.getfield 23, 3) := by decide +kernel
theorem dX3_add_94 : decode cX3_add 94 = .ok (.iload_n 2, 1) := by decide +kernel
theorem dX3_add_95 : decode cX3_add 95 = .ok (.aload_n 0, 1) := by decide +kernel
theorem dX3_add_96 : decode cX3_add 96 = .ok (.getfield 53, 3) := by decide +kernel
theorem dX3_add_99 : decode cX3_add 99 = .ok (.iastore, 1) := by decide +kernel
theorem dX3_add_100 : decode cX3_add 100 = .ok (.aload_n 0, 1) := by decide +kernel
theorem dX3_add_101 : decode cX3_add 101 = .ok (.getfield 26, 3) := by decide +kernel
theorem dX3_add_104 : decode cX3_add 104 = .ok (.iload_n 2, 1) := by decide +kernel
theorem dX3_add_105 : decode cX3_add 105 = .ok (.aload_n 0, 1) := by decide +kernel
theorem dX3_add_106 : decode cX3_add 106 = .ok (.getfield 56, 3) := by decide +kernel
theorem dX3_add_109 : decode cX3_add 109 = .ok (.iastore, 1) := by decide +kernel
theorem dX3_add_110 : decode cX3_add 110 = .ok (.aload_n 0, 1) := by decide +kernel
theorem dX3_add_111 : decode cX3_add 111 = .ok (.getfield 29, 3) := by decide +kernel
theorem dX3_add_114 : decode cX3_add 114 = .ok (.iload_n 2, 1) := by decide +kernel
theorem dX3_add_115 : decode cX3_add 115 = .ok (.iload_n 1, 1) := by decide +kernel
theorem dX3_add_116 : decode cX3_add 116 = .ok (.iastore, 1) := by decide +kernel
theorem dX3_add_117 : decode cX3_add 117 = .ok (.aload_n 0, 1) := by decide +kernel
theorem dX3_add_118 : decode cX3_add 118 = .ok (.dup, 1) := by decide +kernel
theorem dX3_add_119 : decode cX3_add 119 = .ok (.getfield 63, 3) := by decide +kernel
theorem dX3_add_122 : decode cX3_add 122 = .ok (.iconst 1, 1) := by decide +kernel
theorem dX3_add_123 : decode cX3_add 123 = .ok (.iadd, 1) := by decide +kernel
theorem dX3_add_124 : decode cX3_add 124 = .ok (.putfield 63, 3) := by decide +kernel
theorem dX3_add_127 : decode cX3_add 127 = .ok (.iload_n 2, 1) := by decide +kernel
theorem dX3_add_128 : decode cX3_add 128 = .ok (.ireturn, 1) := by decide +kernel
abbrev cX3_remove : ByteArray := prog_5_method_8_code
abbrev yX3_remove : MethodName := ⟨"RangeReadersModel", "remove", "(I)Z"⟩
theorem hd_X3_remove : (yX3_remove).cls ≠ "java/lang/invoke/MethodHandle" ∧ (yX3_remove).cls ≠ "java/lang/invoke/VarHandle" ∧ (parseMethodDescriptor (yX3_remove).desc).map (fun d => d.parameters.length) = some 1 := by decide +kernel
theorem dX3_remove_0 : decode cX3_remove 0 = .ok (.aload_n 0, 1) := by decide +kernel
theorem dX3_remove_1 : decode cX3_remove 1 = .ok (.iconst 0, 1) := by decide +kernel
theorem dX3_remove_2 : decode cX3_remove 2 = .ok (.putfield 35, 3) := by decide +kernel
theorem dX3_remove_5 : decode cX3_remove 5 = .ok (.aload_n 0, 1) := by decide +kernel
theorem dX3_remove_6 : decode cX3_remove 6 = .ok (.iload_n 1, 1) := by decide +kernel
theorem dX3_remove_7 : decode cX3_remove 7 = .ok (.invokevirtual 66, 3) := by decide +kernel
theorem dX3_remove_10 : decode cX3_remove 10 = .ok (.ifCond .ne 5, 3) := by decide +kernel
theorem dX3_remove_13 : decode cX3_remove 13 = .ok (.iconst 0, 1) := by decide +kernel
theorem dX3_remove_14 : decode cX3_remove 14 = .ok (.ireturn, 1) := by decide +kernel
theorem dX3_remove_15 : decode cX3_remove 15 = .ok (.aload_n 0, 1) := by decide +kernel
theorem dX3_remove_16 : decode cX3_remove 16 = .ok (.iload_n 1, 1) := by decide +kernel
theorem dX3_remove_17 : decode cX3_remove 17 = .ok (.invokevirtual 70, 3) := by decide +kernel
theorem dX3_remove_20 : decode cX3_remove 20 = .ok (.iconst 1, 1) := by decide +kernel
theorem dX3_remove_21 : decode cX3_remove 21 = .ok (.ireturn, 1) := by decide +kernel
abbrev cX3_isThere : ByteArray := prog_5_method_6_code
abbrev yX3_isThere : MethodName := ⟨"RangeReadersModel", "isThere", "(I)Z"⟩
theorem hd_X3_isThere : (yX3_isThere).cls ≠ "java/lang/invoke/MethodHandle" ∧ (yX3_isThere).cls ≠ "java/lang/invoke/VarHandle" ∧ (parseMethodDescriptor (yX3_isThere).desc).map (fun d => d.parameters.length) = some 1 := by decide +kernel
theorem dX3_isThere_0 : decode cX3_isThere 0 = .ok (.iload_n 1, 1) := by decide +kernel
theorem dX3_isThere_1 : decode cX3_isThere 1 = .ok (.ifCond .lt 23, 3) := by decide +kernel
theorem dX3_isThere_4 : decode cX3_isThere 4 = .ok (.iload_n 1, 1) := by decide +kernel
theorem dX3_isThere_5 : decode cX3_isThere 5 = .ok (.sipush 4096, 3) := by decide +kernel
theorem dX3_isThere_8 : decode cX3_isThere 8 = .ok (.if_icmp .ge 16, 3) := by decide +kernel
theorem dX3_isThere_11 : decode cX3_isThere 11 = .ok (.aload_n 0, 1) := by decide +kernel
theorem dX3_isThere_12 : decode cX3_isThere 12 = .ok (.getfield 7, 3) := by decide +kernel
theorem dX3_isThere_15 : decode cX3_isThere 15 = .ok (.iload_n 1, 1) := by decide +kernel
theorem dX3_isThere_16 : decode cX3_isThere 16 = .ok (.baload, 1) := by decide +kernel
theorem dX3_isThere_17 : decode cX3_isThere 17 = .ok (.ifCond .eq 7, 3) := by decide +kernel
theorem dX3_isThere_20 : decode cX3_isThere 20 = .ok (.iconst 1, 1) := by decide +kernel
theorem dX3_isThere_21 : decode cX3_isThere 21 = .ok (.goto 4, 3) := by decide +kernel
theorem dX3_isThere_24 : decode cX3_isThere 24 = .ok (.iconst 0, 1) := by decide +kernel
theorem dX3_isThere_25 : decode cX3_isThere 25 = .ok (.ireturn, 1) := by decide +kernel
abbrev cX3_go : ByteArray := prog_5_method_7_code
abbrev yX3_go : MethodName := ⟨"RangeReadersModel", "go", "(I)V"⟩
theorem hd_X3_go : (yX3_go).cls ≠ "java/lang/invoke/MethodHandle" ∧ (yX3_go).cls ≠ "java/lang/invoke/VarHandle" ∧ (parseMethodDescriptor (yX3_go).desc).map (fun d => d.parameters.length) = some 1 := by decide +kernel
theorem dX3_go_0 : decode cX3_go 0 = .ok (.aload_n 0, 1) := by decide +kernel
theorem dX3_go_1 : decode cX3_go 1 = .ok (.getfield 7, 3) := by decide +kernel
theorem dX3_go_4 : decode cX3_go 4 = .ok (.iload_n 1, 1) := by decide +kernel
theorem dX3_go_5 : decode cX3_go 5 = .ok (.iconst 0, 1) := by decide +kernel
theorem dX3_go_6 : decode cX3_go 6 = .ok (.bastore, 1) := by decide +kernel
theorem dX3_go_7 : decode cX3_go 7 = .ok (.aload_n 0, 1) := by decide +kernel
theorem dX3_go_8 : decode cX3_go 8 = .ok (.dup, 1) := by decide +kernel
theorem dX3_go_9 : decode cX3_go 9 = .ok (.getfield 63, 3) := by decide +kernel
theorem dX3_go_12 : decode cX3_go 12 = .ok (.iconst 1, 1) := by decide +kernel
theorem dX3_go_13 : decode cX3_go 13 = .ok (.isub, 1) := by decide +kernel
theorem dX3_go_14 : decode cX3_go 14 = .ok (.putfield 63, 3) := by decide +kernel
theorem dX3_go_17 : decode cX3_go 17 = .ok (.return_, 1) := by decide +kernel
abbrev cX3_drop : ByteArray := prog_5_method_9_code
abbrev yX3_drop : MethodName := ⟨"RangeReadersModel", "drop", "(I)I"⟩
theorem hd_X3_drop : (yX3_drop).cls ≠ "java/lang/invoke/MethodHandle" ∧ (yX3_drop).cls ≠ "java/lang/invoke/VarHandle" ∧ (parseMethodDescriptor (yX3_drop).desc).map (fun d => d.parameters.length) = some 1 := by decide +kernel
theorem dX3_drop_0 : decode cX3_drop 0 = .ok (.aload_n 0, 1) := by decide +kernel
theorem dX3_drop_1 : decode cX3_drop 1 = .ok (.iconst 0, 1) := by decide +kernel
theorem dX3_drop_2 : decode cX3_drop 2 = .ok (.putfield 35, 3) := by decide +kernel
theorem dX3_drop_5 : decode cX3_drop 5 = .ok (.iconst 0, 1) := by decide +kernel
theorem dX3_drop_6 : decode cX3_drop 6 = .ok (.istore_n 2, 1) := by decide +kernel
theorem dX3_drop_7 : decode cX3_drop 7 = .ok (.iconst 0, 1) := by decide +kernel
theorem dX3_drop_8 : decode cX3_drop 8 = .ok (.istore_n 3, 1) := by decide +kernel
theorem dX3_drop_9 : decode cX3_drop 9 = .ok (.iload_n 3, 1) := by decide +kernel
theorem dX3_drop_10 : decode cX3_drop 10 = .ok (.sipush 4096, 3) := by decide +kernel
theorem dX3_drop_13 : decode cX3_drop 13 = .ok (.if_icmp .ge 39, 3) := by decide +kernel
theorem dX3_drop_16 : decode cX3_drop 16 = .ok (.aload_n 0, 1) := by decide +kernel
theorem dX3_drop_17 : decode cX3_drop 17 = .ok (.getfield 7, 3) := by decide +kernel
theorem dX3_drop_20 : decode cX3_drop 20 = .ok (.iload_n 3, 1) := by decide +kernel
theorem dX3_drop_21 : decode cX3_drop 21 = .ok (.baload, 1) := by decide +kernel
theorem dX3_drop_22 : decode cX3_drop 22 = .ok (.ifCond .eq 24, 3) := by decide +kernel
theorem dX3_drop_25 : decode cX3_drop 25 = .ok (.aload_n 0, 1) := by decide +kernel
theorem dX3_drop_26 : decode cX3_drop 26 = .ok (.getfield 29, 3) := by decide +kernel
theorem dX3_drop_29 : decode cX3_drop 29 = .ok (.iload_n 3, 1) := by decide +kernel
theorem dX3_drop_30 : decode cX3_drop 30 = .ok (.iaload, 1) := by decide +kernel
theorem dX3_drop_31 : decode cX3_drop 31 = .ok (.iload_n 1, 1) := by decide +kernel
theorem dX3_drop_32 : decode cX3_drop 32 = .ok (.if_icmp .eq 6, 3) := by decide +kernel
theorem dX3_drop_35 : decode cX3_drop 35 = .ok (.goto 11, 3) := by decide +kernel
theorem dX3_drop_38 : decode cX3_drop 38 = .ok (.aload_n 0, 1) := by decide +kernel
theorem dX3_drop_39 : decode cX3_drop 39 = .ok (.iload_n 3, 1) := by decide +kernel
theorem dX3_drop_40 : decode cX3_drop 40 = .ok (.invokevirtual 70, 3) := by decide +kernel
theorem dX3_drop_43 : decode cX3_drop 43 = .ok (.iinc 2 1, 3) := by decide +kernel
theorem dX3_drop_46 : decode cX3_drop 46 = .ok (.iinc 3 1, 3) := by decide +kernel
theorem dX3_drop_49 : decode cX3_drop 49 = .ok (.goto (-40), 3) := by decide +kernel
theorem dX3_drop_52 : decode cX3_drop 52 = .ok (.iload_n 2, 1) := by decide +kernel
theorem dX3_drop_53 : decode cX3_drop 53 = .ok (.ireturn, 1) := by decide +kernel
abbrev cX3_readers : ByteArray := prog_5_method_12_code
abbrev yX3_readers : MethodName := ⟨"RangeReadersModel", "readers", "(III)I"⟩
theorem hd_X3_readers : (yX3_readers).cls ≠ "java/lang/invoke/MethodHandle" ∧ (yX3_readers).cls ≠ "java/lang/invoke/VarHandle" ∧ (parseMethodDescriptor (yX3_readers).desc).map (fun d => d.parameters.length) = some 3 := by decide +kernel
theorem dX3_readers_0 : decode cX3_readers 0 = .ok (.aload_n 0, 1) := by decide +kernel
theorem dX3_readers_1 : decode cX3_readers 1 = .ok (.iload_n 1, 1) := by decide +kernel
theorem dX3_readers_2 : decode cX3_readers 2 = .ok (.iconst 0, 1) := by decide +kernel
theorem dX3_readers_3 : decode cX3_readers 3 = .ok (.bipush 7, 2) := by decide +kernel
theorem dX3_readers_5 : decode cX3_readers 5 = .ok (.invokestatic 39, 3) := by decide +kernel
theorem dX3_readers_8 : decode cX3_readers 8 = .ok (.ifCond .eq 28, 3) := by decide +kernel
theorem dX3_readers_11 : decode cX3_readers 11 = .ok (.iload_n 2, 1) := by decide +kernel
theorem dX3_readers_12 : decode cX3_readers 12 = .ok (.iconst 1, 1) := by decide +kernel
theorem dX3_readers_13 : decode cX3_readers 13 = .ok (.ldc 43, 2) := by decide +kernel
theorem dX3_readers_15 : decode cX3_readers 15 = .ok (.invokestatic 39, 3) := by decide +kernel
theorem dX3_readers_18 : decode cX3_readers 18 = .ok (.ifCond .eq 18, 3) := by decide +kernel
theorem dX3_readers_21 : decode cX3_readers 21 = .ok (.iload_n 3, 1) := by decide +kernel
theorem dX3_readers_22 : decode cX3_readers 22 = .ok (.iconst 1, 1) := by decide +kernel
theorem dX3_readers_23 : decode cX3_readers 23 = .ok (.sipush 16384, 3) := by decide +kernel
theorem dX3_readers_26 : decode cX3_readers 26 = .ok (.invokestatic 39, 3) := by decide +kernel
theorem dX3_readers_29 : decode cX3_readers 29 = .ok (.ifCond .eq 7, 3) := by decide +kernel
theorem dX3_readers_32 : decode cX3_readers 32 = .ok (.iconst 0, 1) := by decide +kernel
theorem dX3_readers_33 : decode cX3_readers 33 = .ok (.goto 4, 3) := by decide +kernel
theorem dX3_readers_36 : decode cX3_readers 36 = .ok (.iconst 1, 1) := by decide +kernel
theorem dX3_readers_37 : decode cX3_readers 37 = .ok (.putfield 35, 3) := by decide +kernel
theorem dX3_readers_40 : decode cX3_readers 40 = .ok (.aload_n 0, 1) := by decide +kernel
theorem dX3_readers_41 : decode cX3_readers 41 = .ok (.getfield 35, 3) := by decide +kernel
theorem dX3_readers_44 : decode cX3_readers 44 = .ok (.ifCond .ne 15, 3) := by decide +kernel
theorem dX3_readers_47 : decode cX3_readers 47 = .ok (.aload_n 0, 1) := by decide +kernel
theorem dX3_readers_48 : decode cX3_readers 48 = .ok (.iload_n 1, 1) := by decide +kernel
theorem dX3_readers_49 : decode cX3_readers 49 = .ok (.iload_n 2, 1) := by decide +kernel
theorem dX3_readers_50 : decode cX3_readers 50 = .ok (.iload_n 3, 1) := by decide +kernel
theorem dX3_readers_51 : decode cX3_readers 51 = .ok (.iload_n 2, 1) := by decide +kernel
theorem dX3_readers_52 : decode cX3_readers 52 = .ok (.iload_n 3, 1) := by decide +kernel
theorem dX3_readers_53 : decode cX3_readers 53 = .ok (.invokevirtual 81, 3) := by decide +kernel
theorem dX3_readers_56 : decode cX3_readers 56 = .ok (.goto 4, 3) := by decide +kernel
theorem dX3_readers_59 : decode cX3_readers 59 = .ok (.iconst 0, 1) := by decide +kernel
theorem dX3_readers_60 : decode cX3_readers 60 = .ok (.ireturn, 1) := by decide +kernel
abbrev cX3_meetAll : ByteArray := prog_5_method_11_code
abbrev yX3_meetAll : MethodName := ⟨"RangeReadersModel", "meetAll", "(IIIII)I"⟩
theorem hd_X3_meetAll : (yX3_meetAll).cls ≠ "java/lang/invoke/MethodHandle" ∧ (yX3_meetAll).cls ≠ "java/lang/invoke/VarHandle" ∧ (parseMethodDescriptor (yX3_meetAll).desc).map (fun d => d.parameters.length) = some 5 := by decide +kernel
theorem dX3_meetAll_0 : decode cX3_meetAll 0 = .ok (.aload_n 0, 1) := by decide +kernel
theorem dX3_meetAll_1 : decode cX3_meetAll 1 = .ok (.iconst 0, 1) := by decide +kernel
theorem dX3_meetAll_2 : decode cX3_meetAll 2 = .ok (.putfield 74, 3) := by decide +kernel
theorem dX3_meetAll_5 : decode cX3_meetAll 5 = .ok (.iconst 0, 1) := by decide +kernel
theorem dX3_meetAll_6 : decode cX3_meetAll 6 = .ok (.istore 6, 2) := by decide +kernel
theorem dX3_meetAll_8 : decode cX3_meetAll 8 = .ok (.iload 6, 2) := by decide +kernel
theorem dX3_meetAll_10 : decode cX3_meetAll 10 = .ok (.sipush 4096, 3) := by decide +kernel
theorem dX3_meetAll_13 : decode cX3_meetAll 13 = .ok (.if_icmp .ge 49, 3) := by decide +kernel
theorem dX3_meetAll_16 : decode cX3_meetAll 16 = .ok (.aload_n 0, 1) := by decide +kernel
theorem dX3_meetAll_17 : decode cX3_meetAll 17 = .ok (.iload 6, 2) := by decide +kernel
theorem dX3_meetAll_19 : decode cX3_meetAll 19 = .ok (.iload_n 1, 1) := by decide +kernel
theorem dX3_meetAll_20 : decode cX3_meetAll 20 = .ok (.iload_n 2, 1) := by decide +kernel
theorem dX3_meetAll_21 : decode cX3_meetAll 21 = .ok (.iload_n 3, 1) := by decide +kernel
theorem dX3_meetAll_22 : decode cX3_meetAll 22 = .ok (.iload 4, 2) := by decide +kernel
theorem dX3_meetAll_24 : decode cX3_meetAll 24 = .ok (.iload 5, 2) := by decide +kernel
theorem dX3_meetAll_26 : decode cX3_meetAll 26 = .ok (.invokevirtual 77, 3) := by decide +kernel
theorem dX3_meetAll_29 : decode cX3_meetAll 29 = .ok (.ifCond .ne 6, 3) := by decide +kernel
theorem dX3_meetAll_32 : decode cX3_meetAll 32 = .ok (.goto 24, 3) := by decide +kernel
theorem dX3_meetAll_35 : decode cX3_meetAll 35 = .ok (.aload_n 0, 1) := by decide +kernel
theorem dX3_meetAll_36 : decode cX3_meetAll 36 = .ok (.getfield 32, 3) := by decide +kernel
theorem dX3_meetAll_39 : decode cX3_meetAll 39 = .ok (.aload_n 0, 1) := by decide +kernel
theorem dX3_meetAll_40 : decode cX3_meetAll 40 = .ok (.getfield 74, 3) := by decide +kernel
theorem dX3_meetAll_43 : decode cX3_meetAll 43 = .ok (.iload 6, 2) := by decide +kernel
theorem dX3_meetAll_45 : decode cX3_meetAll 45 = .ok (.iastore, 1) := by decide +kernel
theorem dX3_meetAll_46 : decode cX3_meetAll 46 = .ok (.aload_n 0, 1) := by decide +kernel
theorem dX3_meetAll_47 : decode cX3_meetAll 47 = .ok (.dup, 1) := by decide +kernel
theorem dX3_meetAll_48 : decode cX3_meetAll 48 = .ok (.getfield 74, 3) := by decide +kernel
theorem dX3_meetAll_51 : decode cX3_meetAll 51 = .ok (.iconst 1, 1) := by decide +kernel
theorem dX3_meetAll_52 : decode cX3_meetAll 52 = .ok (.iadd, 1) := by decide +kernel
theorem dX3_meetAll_53 : decode cX3_meetAll 53 = .ok (.putfield 74, 3) := by decide +kernel
theorem dX3_meetAll_56 : decode cX3_meetAll 56 = .ok (.iinc 6 1, 3) := by decide +kernel
theorem dX3_meetAll_59 : decode cX3_meetAll 59 = .ok (.goto (-51), 3) := by decide +kernel
theorem dX3_meetAll_62 : decode cX3_meetAll 62 = .ok (.aload_n 0, 1) := by decide +kernel
theorem dX3_meetAll_63 : decode cX3_meetAll 63 = .ok (.getfield 74, 3) := by decide +kernel
theorem dX3_meetAll_66 : decode cX3_meetAll 66 = .ok (.ireturn, 1) := by decide +kernel
abbrev cX3_meets : ByteArray := prog_5_method_10_code
abbrev yX3_meets : MethodName := ⟨"RangeReadersModel", "meets", "(IIIIII)Z"⟩
theorem hd_X3_meets : (yX3_meets).cls ≠ "java/lang/invoke/MethodHandle" ∧ (yX3_meets).cls ≠ "java/lang/invoke/VarHandle" ∧ (parseMethodDescriptor (yX3_meets).desc).map (fun d => d.parameters.length) = some 6 := by decide +kernel
theorem dX3_meets_0 : decode cX3_meets 0 = .ok (.aload_n 0, 1) := by decide +kernel
theorem dX3_meets_1 : decode cX3_meets 1 = .ok (.getfield 7, 3) := by decide +kernel
theorem dX3_meets_4 : decode cX3_meets 4 = .ok (.iload_n 1, 1) := by decide +kernel
theorem dX3_meets_5 : decode cX3_meets 5 = .ok (.baload, 1) := by decide +kernel
theorem dX3_meets_6 : decode cX3_meets 6 = .ok (.ifCond .eq 60, 3) := by decide +kernel
theorem dX3_meets_9 : decode cX3_meets 9 = .ok (.aload_n 0, 1) := by decide +kernel
theorem dX3_meets_10 : decode cX3_meets 10 = .ok (.getfield 13, 3) := by decide +kernel
theorem dX3_meets_13 : decode cX3_meets 13 = .ok (.iload_n 1, 1) := by decide +kernel
theorem dX3_meets_14 : decode cX3_meets 14 = .ok (.iaload, 1) := by decide +kernel
theorem dX3_meets_15 : decode cX3_meets 15 = .ok (.iload_n 2, 1) := by decide +kernel
theorem dX3_meets_16 : decode cX3_meets 16 = .ok (.if_icmp .ne 50, 3) := by decide +kernel
theorem dX3_meets_19 : decode cX3_meets 19 = .ok (.aload_n 0, 1) := by decide +kernel
theorem dX3_meets_20 : decode cX3_meets 20 = .ok (.getfield 17, 3) := by decide +kernel
theorem dX3_meets_23 : decode cX3_meets 23 = .ok (.iload_n 1, 1) := by decide +kernel
theorem dX3_meets_24 : decode cX3_meets 24 = .ok (.iaload, 1) := by decide +kernel
theorem dX3_meets_25 : decode cX3_meets 25 = .ok (.iload 5, 2) := by decide +kernel
theorem dX3_meets_27 : decode cX3_meets 27 = .ok (.if_icmp .gt 39, 3) := by decide +kernel
theorem dX3_meets_30 : decode cX3_meets 30 = .ok (.aload_n 0, 1) := by decide +kernel
theorem dX3_meets_31 : decode cX3_meets 31 = .ok (.getfield 23, 3) := by decide +kernel
theorem dX3_meets_34 : decode cX3_meets 34 = .ok (.iload_n 1, 1) := by decide +kernel
theorem dX3_meets_35 : decode cX3_meets 35 = .ok (.iaload, 1) := by decide +kernel
theorem dX3_meets_36 : decode cX3_meets 36 = .ok (.iload_n 3, 1) := by decide +kernel
theorem dX3_meets_37 : decode cX3_meets 37 = .ok (.if_icmp .lt 29, 3) := by decide +kernel
theorem dX3_meets_40 : decode cX3_meets 40 = .ok (.aload_n 0, 1) := by decide +kernel
theorem dX3_meets_41 : decode cX3_meets 41 = .ok (.getfield 20, 3) := by decide +kernel
theorem dX3_meets_44 : decode cX3_meets 44 = .ok (.iload_n 1, 1) := by decide +kernel
theorem dX3_meets_45 : decode cX3_meets 45 = .ok (.iaload, 1) := by decide +kernel
theorem dX3_meets_46 : decode cX3_meets 46 = .ok (.iload 6, 2) := by decide +kernel
theorem dX3_meets_48 : decode cX3_meets 48 = .ok (.if_icmp .gt 18, 3) := by decide +kernel
theorem dX3_meets_51 : decode cX3_meets 51 = .ok (.aload_n 0, 1) := by decide +kernel
theorem dX3_meets_52 : decode cX3_meets 52 = .ok (.getfield 26, 3) := by decide +kernel
theorem dX3_meets_55 : decode cX3_meets 55 = .ok (.iload_n 1, 1) := by decide +kernel
theorem dX3_meets_56 : decode cX3_meets 56 = .ok (.iaload, 1) := by decide +kernel
theorem dX3_meets_57 : decode cX3_meets 57 = .ok (.iload 4, 2) := by decide +kernel
theorem dX3_meets_59 : decode cX3_meets 59 = .ok (.if_icmp .lt 7, 3) := by decide +kernel
theorem dX3_meets_62 : decode cX3_meets 62 = .ok (.iconst 1, 1) := by decide +kernel
theorem dX3_meets_63 : decode cX3_meets 63 = .ok (.goto 4, 3) := by decide +kernel
theorem dX3_meets_66 : decode cX3_meets 66 = .ok (.iconst 0, 1) := by decide +kernel
theorem dX3_meets_67 : decode cX3_meets 67 = .ok (.ireturn, 1) := by decide +kernel
abbrev cX3_meet : ByteArray := prog_5_method_13_code
abbrev yX3_meet : MethodName := ⟨"RangeReadersModel", "meet", "()I"⟩
theorem hd_X3_meet : (yX3_meet).cls ≠ "java/lang/invoke/MethodHandle" ∧ (yX3_meet).cls ≠ "java/lang/invoke/VarHandle" ∧ (parseMethodDescriptor (yX3_meet).desc).map (fun d => d.parameters.length) = some 0 := by decide +kernel
theorem dX3_meet_0 : decode cX3_meet 0 = .ok (.aload_n 0, 1) := by decide +kernel
theorem dX3_meet_1 : decode cX3_meet 1 = .ok (.aload_n 0, 1) := by decide +kernel
theorem dX3_meet_2 : decode cX3_meet 2 = .ok (.getfield 59, 3) := by decide +kernel
theorem dX3_meet_5 : decode cX3_meet 5 = .ok (.ifCond .eq 7, 3) := by decide +kernel
theorem dX3_meet_8 : decode cX3_meet 8 = .ok (.iconst 0, 1) := by decide +kernel
theorem dX3_meet_9 : decode cX3_meet 9 = .ok (.goto 4, 3) := by decide +kernel
theorem dX3_meet_12 : decode cX3_meet 12 = .ok (.iconst 1, 1) := by decide +kernel
theorem dX3_meet_13 : decode cX3_meet 13 = .ok (.putfield 35, 3) := by decide +kernel
theorem dX3_meet_16 : decode cX3_meet 16 = .ok (.aload_n 0, 1) := by decide +kernel
theorem dX3_meet_17 : decode cX3_meet 17 = .ok (.getfield 35, 3) := by decide +kernel
theorem dX3_meet_20 : decode cX3_meet 20 = .ok (.ifCond .ne 30, 3) := by decide +kernel
theorem dX3_meet_23 : decode cX3_meet 23 = .ok (.aload_n 0, 1) := by decide +kernel
theorem dX3_meet_24 : decode cX3_meet 24 = .ok (.aload_n 0, 1) := by decide +kernel
theorem dX3_meet_25 : decode cX3_meet 25 = .ok (.getfield 44, 3) := by decide +kernel
theorem dX3_meet_28 : decode cX3_meet 28 = .ok (.aload_n 0, 1) := by decide +kernel
theorem dX3_meet_29 : decode cX3_meet 29 = .ok (.getfield 47, 3) := by decide +kernel
theorem dX3_meet_32 : decode cX3_meet 32 = .ok (.aload_n 0, 1) := by decide +kernel
theorem dX3_meet_33 : decode cX3_meet 33 = .ok (.getfield 50, 3) := by decide +kernel
theorem dX3_meet_36 : decode cX3_meet 36 = .ok (.aload_n 0, 1) := by decide +kernel
theorem dX3_meet_37 : decode cX3_meet 37 = .ok (.getfield 53, 3) := by decide +kernel
theorem dX3_meet_40 : decode cX3_meet 40 = .ok (.aload_n 0, 1) := by decide +kernel
theorem dX3_meet_41 : decode cX3_meet 41 = .ok (.getfield 56, 3) := by decide +kernel
theorem dX3_meet_44 : decode cX3_meet 44 = .ok (.invokevirtual 81, 3) := by decide +kernel
theorem dX3_meet_47 : decode cX3_meet 47 = .ok (.goto 4, 3) := by decide +kernel
theorem dX3_meet_50 : decode cX3_meet 50 = .ok (.iconst 0, 1) := by decide +kernel
theorem dX3_meet_51 : decode cX3_meet 51 = .ok (.ireturn, 1) := by decide +kernel
abbrev cX3_met : ByteArray := prog_5_method_14_code
abbrev yX3_met : MethodName := ⟨"RangeReadersModel", "met", "(I)I"⟩
theorem hd_X3_met : (yX3_met).cls ≠ "java/lang/invoke/MethodHandle" ∧ (yX3_met).cls ≠ "java/lang/invoke/VarHandle" ∧ (parseMethodDescriptor (yX3_met).desc).map (fun d => d.parameters.length) = some 1 := by decide +kernel
theorem dX3_met_0 : decode cX3_met 0 = .ok (.aload_n 0, 1) := by decide +kernel
theorem dX3_met_1 : decode cX3_met 1 = .ok (.iconst 0, 1) := by decide +kernel
theorem dX3_met_2 : decode cX3_met 2 = .ok (.putfield 35, 3) := by decide +kernel
theorem dX3_met_5 : decode cX3_met 5 = .ok (.iload_n 1, 1) := by decide +kernel
theorem dX3_met_6 : decode cX3_met 6 = .ok (.ifCond .lt 20, 3) := by decide +kernel
theorem dX3_met_9 : decode cX3_met 9 = .ok (.iload_n 1, 1) := by decide +kernel
theorem dX3_met_10 : decode cX3_met 10 = .ok (.aload_n 0, 1) := by decide +kernel
theorem dX3_met_11 : decode cX3_met 11 = .ok (.getfield 74, 3) := by decide +kernel
theorem dX3_met_14 : decode cX3_met 14 = .ok (.if_icmp .ge 12, 3) := by decide +kernel
theorem dX3_met_17 : decode cX3_met 17 = .ok (.aload_n 0, 1) := by decide +kernel
theorem dX3_met_18 : decode cX3_met 18 = .ok (.getfield 32, 3) := by decide +kernel
theorem dX3_met_21 : decode cX3_met 21 = .ok (.iload_n 1, 1) := by decide +kernel
theorem dX3_met_22 : decode cX3_met 22 = .ok (.iaload, 1) := by decide +kernel
theorem dX3_met_23 : decode cX3_met 23 = .ok (.goto 4, 3) := by decide +kernel
theorem dX3_met_26 : decode cX3_met 26 = .ok (.iconst (-1), 1) := by decide +kernel
theorem dX3_met_27 : decode cX3_met 27 = .ok (.ireturn, 1) := by decide +kernel
abbrev cX3_entry : ByteArray := prog_5_method_15_code
abbrev yX3_entry : MethodName := ⟨"RangeReadersModel", "entry", "(II)I"⟩
theorem hd_X3_entry : (yX3_entry).cls ≠ "java/lang/invoke/MethodHandle" ∧ (yX3_entry).cls ≠ "java/lang/invoke/VarHandle" ∧ (parseMethodDescriptor (yX3_entry).desc).map (fun d => d.parameters.length) = some 2 := by decide +kernel
theorem dX3_entry_0 : decode cX3_entry 0 = .ok (.aload_n 0, 1) := by decide +kernel
theorem dX3_entry_1 : decode cX3_entry 1 = .ok (.iconst 0, 1) := by decide +kernel
theorem dX3_entry_2 : decode cX3_entry 2 = .ok (.putfield 35, 3) := by decide +kernel
theorem dX3_entry_5 : decode cX3_entry 5 = .ok (.aload_n 0, 1) := by decide +kernel
theorem dX3_entry_6 : decode cX3_entry 6 = .ok (.iload_n 1, 1) := by decide +kernel
theorem dX3_entry_7 : decode cX3_entry 7 = .ok (.invokevirtual 66, 3) := by decide +kernel
theorem dX3_entry_10 : decode cX3_entry 10 = .ok (.ifCond .ne 5, 3) := by decide +kernel
theorem dX3_entry_13 : decode cX3_entry 13 = .ok (.iconst (-1), 1) := by decide +kernel
theorem dX3_entry_14 : decode cX3_entry 14 = .ok (.ireturn, 1) := by decide +kernel
theorem dX3_entry_15 : decode cX3_entry 15 = .ok (.iload_n 2, 1) := by decide +kernel
theorem dX3_entry_16 : decode cX3_entry 16 = .ok (.tableswitch 82 0 5 #[40, 47, 54, 61, 68, 75], 40) := by decide +kernel
theorem dX3_entry_56 : decode cX3_entry 56 = .ok (.aload_n 0, 1) := by decide +kernel
theorem dX3_entry_57 : decode cX3_entry 57 = .ok (.getfield 13, 3) := by decide +kernel
theorem dX3_entry_60 : decode cX3_entry 60 = .ok (.iload_n 1, 1) := by decide +kernel
theorem dX3_entry_61 : decode cX3_entry 61 = .ok (.iaload, 1) := by decide +kernel
theorem dX3_entry_62 : decode cX3_entry 62 = .ok (.ireturn, 1) := by decide +kernel
theorem dX3_entry_63 : decode cX3_entry 63 = .ok (.aload_n 0, 1) := by decide +kernel
theorem dX3_entry_64 : decode cX3_entry 64 = .ok (.getfield 17, 3) := by decide +kernel
theorem dX3_entry_67 : decode cX3_entry 67 = .ok (.iload_n 1, 1) := by decide +kernel
theorem dX3_entry_68 : decode cX3_entry 68 = .ok (.iaload, 1) := by decide +kernel
theorem dX3_entry_69 : decode cX3_entry 69 = .ok (.ireturn, 1) := by decide +kernel
theorem dX3_entry_70 : decode cX3_entry 70 = .ok (.aload_n 0, 1) := by decide +kernel
theorem dX3_entry_71 : decode cX3_entry 71 = .ok (.getfield 20, 3) := by decide +kernel
theorem dX3_entry_74 : decode cX3_entry 74 = .ok (.iload_n 1, 1) := by decide +kernel
theorem dX3_entry_75 : decode cX3_entry 75 = .ok (.iaload, 1) := by decide +kernel
theorem dX3_entry_76 : decode cX3_entry 76 = .ok (.ireturn, 1) := by decide +kernel
theorem dX3_entry_77 : decode cX3_entry 77 = .ok (.aload_n 0, 1) := by decide +kernel
theorem dX3_entry_78 : decode cX3_entry 78 = .ok (.getfield 23, 3) := by decide +kernel
theorem dX3_entry_81 : decode cX3_entry 81 = .ok (.iload_n 1, 1) := by decide +kernel
theorem dX3_entry_82 : decode cX3_entry 82 = .ok (.iaload, 1) := by decide +kernel
theorem dX3_entry_83 : decode cX3_entry 83 = .ok (.ireturn, 1) := by decide +kernel
theorem dX3_entry_84 : decode cX3_entry 84 = .ok (.aload_n 0, 1) := by decide +kernel
theorem dX3_entry_85 : decode cX3_entry 85 = .ok (.getfield 26, 3) := by decide +kernel
theorem dX3_entry_88 : decode cX3_entry 88 = .ok (.iload_n 1, 1) := by decide +kernel
theorem dX3_entry_89 : decode cX3_entry 89 = .ok (.iaload, 1) := by decide +kernel
theorem dX3_entry_90 : decode cX3_entry 90 = .ok (.ireturn, 1) := by decide +kernel
theorem dX3_entry_91 : decode cX3_entry 91 = .ok (.aload_n 0, 1) := by decide +kernel
theorem dX3_entry_92 : decode cX3_entry 92 = .ok (.getfield 29, 3) := by decide +kernel
theorem dX3_entry_95 : decode cX3_entry 95 = .ok (.iload_n 1, 1) := by decide +kernel
theorem dX3_entry_96 : decode cX3_entry 96 = .ok (.iaload, 1) := by decide +kernel
theorem dX3_entry_97 : decode cX3_entry 97 = .ok (.ireturn, 1) := by decide +kernel
theorem dX3_entry_98 : decode cX3_entry 98 = .ok (.iconst (-1), 1) := by decide +kernel
theorem dX3_entry_99 : decode cX3_entry 99 = .ok (.ireturn, 1) := by decide +kernel
abbrev cX3_count : ByteArray := prog_5_method_16_code
abbrev yX3_count : MethodName := ⟨"RangeReadersModel", "count", "()I"⟩
theorem hd_X3_count : (yX3_count).cls ≠ "java/lang/invoke/MethodHandle" ∧ (yX3_count).cls ≠ "java/lang/invoke/VarHandle" ∧ (parseMethodDescriptor (yX3_count).desc).map (fun d => d.parameters.length) = some 0 := by decide +kernel
theorem dX3_count_0 : decode cX3_count 0 = .ok (.aload_n 0, 1) := by decide +kernel
theorem dX3_count_1 : decode cX3_count 1 = .ok (.iconst 0, 1) := by decide +kernel
theorem dX3_count_2 : decode cX3_count 2 = .ok (.putfield 35, 3) := by decide +kernel
theorem dX3_count_5 : decode cX3_count 5 = .ok (.aload_n 0, 1) := by decide +kernel
theorem dX3_count_6 : decode cX3_count 6 = .ok (.getfield 63, 3) := by decide +kernel
theorem dX3_count_9 : decode cX3_count 9 = .ok (.ireturn, 1) := by decide +kernel
abbrev cX3_insert : ByteArray := prog_5_method_23_code
abbrev yX3_insert : MethodName := ⟨"RangeReadersModel", "insert", "(IZII)I"⟩
theorem hd_X3_insert : (yX3_insert).cls ≠ "java/lang/invoke/MethodHandle" ∧ (yX3_insert).cls ≠ "java/lang/invoke/VarHandle" ∧ (parseMethodDescriptor (yX3_insert).desc).map (fun d => d.parameters.length) = some 4 := by decide +kernel
theorem dX3_insert_0 : decode cX3_insert 0 = .ok (.aload_n 0, 1) := by decide +kernel
theorem dX3_insert_1 : decode cX3_insert 1 = .ok (.aload_n 0, 1) := by decide +kernel
theorem dX3_insert_2 : decode cX3_insert 2 = .ok (.iload_n 1, 1) := by decide +kernel
theorem dX3_insert_3 : decode cX3_insert 3 = .ok (.iload_n 2, 1) := by decide +kernel
theorem dX3_insert_4 : decode cX3_insert 4 = .ok (.iload_n 3, 1) := by decide +kernel
theorem dX3_insert_5 : decode cX3_insert 5 = .ok (.iload 4, 2) := by decide +kernel
theorem dX3_insert_7 : decode cX3_insert 7 = .ok (.invokevirtual 96, 3) := by decide +kernel
theorem dX3_insert_10 : decode cX3_insert 10 = .ok (.ifCond .eq 7, 3) := by decide +kernel
theorem dX3_insert_13 : decode cX3_insert 13 = .ok (.iconst 0, 1) := by decide +kernel
theorem dX3_insert_14 : decode cX3_insert 14 = .ok (.goto 4, 3) := by decide +kernel
theorem dX3_insert_17 : decode cX3_insert 17 = .ok (.iconst 1, 1) := by decide +kernel
theorem dX3_insert_18 : decode cX3_insert 18 = .ok (.putfield 35, 3) := by decide +kernel
theorem dX3_insert_21 : decode cX3_insert 21 = .ok (.iconst 0, 1) := by decide +kernel
theorem dX3_insert_22 : decode cX3_insert 22 = .ok (.istore 5, 2) := by decide +kernel
theorem dX3_insert_24 : decode cX3_insert 24 = .ok (.iconst 0, 1) := by decide +kernel
theorem dX3_insert_25 : decode cX3_insert 25 = .ok (.istore 6, 2) := by decide +kernel
theorem dX3_insert_27 : decode cX3_insert 27 = .ok (.iload 6, 2) := by decide +kernel
theorem dX3_insert_29 : decode cX3_insert 29 = .ok (.sipush 4096, 3) := by decide +kernel
theorem dX3_insert_32 : decode cX3_insert 32 = .ok (.if_icmp .ge 128, 3) := by decide +kernel
theorem dX3_insert_35 : decode cX3_insert 35 = .ok (.aload_n 0, 1) := by decide +kernel
theorem dX3_insert_36 : decode cX3_insert 36 = .ok (.getfield 35, 3) := by decide +kernel
theorem dX3_insert_39 : decode cX3_insert 39 = .ok (.ifCond .ne 121, 3) := by decide +kernel
theorem dX3_insert_42 : decode cX3_insert 42 = .ok (.aload_n 0, 1) := by decide +kernel
theorem dX3_insert_43 : decode cX3_insert 43 = .ok (.iload 6, 2) := by decide +kernel
theorem dX3_insert_45 : decode cX3_insert 45 = .ok (.iload_n 1, 1) := by decide +kernel
theorem dX3_insert_46 : decode cX3_insert 46 = .ok (.iload_n 2, 1) := by decide +kernel
theorem dX3_insert_47 : decode cX3_insert 47 = .ok (.invokevirtual 100, 3) := by decide +kernel
theorem dX3_insert_50 : decode cX3_insert 50 = .ok (.ifCond .ne 6, 3) := by decide +kernel
theorem dX3_insert_53 : decode cX3_insert 53 = .ok (.goto 101, 3) := by decide +kernel
theorem dX3_insert_56 : decode cX3_insert 56 = .ok (.aload_n 0, 1) := by decide +kernel
theorem dX3_insert_57 : decode cX3_insert 57 = .ok (.iload 6, 2) := by decide +kernel
theorem dX3_insert_59 : decode cX3_insert 59 = .ok (.iload_n 2, 1) := by decide +kernel
theorem dX3_insert_60 : decode cX3_insert 60 = .ok (.invokevirtual 89, 3) := by decide +kernel
theorem dX3_insert_63 : decode cX3_insert 63 = .ok (.iload_n 3, 1) := by decide +kernel
theorem dX3_insert_64 : decode cX3_insert 64 = .ok (.if_icmp .lt 16, 3) := by decide +kernel
theorem dX3_insert_67 : decode cX3_insert 67 = .ok (.aload_n 0, 1) := by decide +kernel
theorem dX3_insert_68 : decode cX3_insert 68 = .ok (.iload 6, 2) := by decide +kernel
theorem dX3_insert_70 : decode cX3_insert 70 = .ok (.iload_n 2, 1) := by decide +kernel
theorem dX3_insert_71 : decode cX3_insert 71 = .ok (.invokevirtual 89, 3) := by decide +kernel
theorem dX3_insert_74 : decode cX3_insert 74 = .ok (.iload 4, 2) := by decide +kernel
theorem dX3_insert_76 : decode cX3_insert 76 = .ok (.iadd, 1) := by decide +kernel
theorem dX3_insert_77 : decode cX3_insert 77 = .ok (.goto 10, 3) := by decide +kernel
theorem dX3_insert_80 : decode cX3_insert 80 = .ok (.aload_n 0, 1) := by decide +kernel
theorem dX3_insert_81 : decode cX3_insert 81 = .ok (.iload 6, 2) := by decide +kernel
theorem dX3_insert_83 : decode cX3_insert 83 = .ok (.iload_n 2, 1) := by decide +kernel
theorem dX3_insert_84 : decode cX3_insert 84 = .ok (.invokevirtual 89, 3) := by decide +kernel
theorem dX3_insert_87 : decode cX3_insert 87 = .ok (.istore 7, 2) := by decide +kernel
theorem dX3_insert_89 : decode cX3_insert 89 = .ok (.aload_n 0, 1) := by decide +kernel
theorem dX3_insert_90 : decode cX3_insert 90 = .ok (.iload 6, 2) := by decide +kernel
theorem dX3_insert_92 : decode cX3_insert 92 = .ok (.iload_n 2, 1) := by decide +kernel
theorem dX3_insert_93 : decode cX3_insert 93 = .ok (.invokevirtual 93, 3) := by decide +kernel
theorem dX3_insert_96 : decode cX3_insert 96 = .ok (.iload_n 3, 1) := by decide +kernel
theorem dX3_insert_97 : decode cX3_insert 97 = .ok (.if_icmp .lt 16, 3) := by decide +kernel
theorem dX3_insert_100 : decode cX3_insert 100 = .ok (.aload_n 0, 1) := by decide +kernel
theorem dX3_insert_101 : decode cX3_insert 101 = .ok (.iload 6, 2) := by decide +kernel
theorem dX3_insert_103 : decode cX3_insert 103 = .ok (.iload_n 2, 1) := by decide +kernel
theorem dX3_insert_104 : decode cX3_insert 104 = .ok (.invokevirtual 93, 3) := by decide +kernel
theorem dX3_insert_107 : decode cX3_insert 107 = .ok (.iload 4, 2) := by decide +kernel
theorem dX3_insert_109 : decode cX3_insert 109 = .ok (.iadd, 1) := by decide +kernel
theorem dX3_insert_110 : decode cX3_insert 110 = .ok (.goto 10, 3) := by decide +kernel
theorem dX3_insert_113 : decode cX3_insert 113 = .ok (.aload_n 0, 1) := by decide +kernel
theorem dX3_insert_114 : decode cX3_insert 114 = .ok (.iload 6, 2) := by decide +kernel
theorem dX3_insert_116 : decode cX3_insert 116 = .ok (.iload_n 2, 1) := by decide +kernel
theorem dX3_insert_117 : decode cX3_insert 117 = .ok (.invokevirtual 93, 3) := by decide +kernel
theorem dX3_insert_120 : decode cX3_insert 120 = .ok (.istore 8, 2) := by decide +kernel
theorem dX3_insert_122 : decode cX3_insert 122 = .ok (.iload 5, 2) := by decide +kernel
theorem dX3_insert_124 : decode cX3_insert 124 = .ok (.aload_n 0, 1) := by decide +kernel
theorem dX3_insert_125 : decode cX3_insert 125 = .ok (.iload 6, 2) := by decide +kernel
theorem dX3_insert_127 : decode cX3_insert 127 = .ok (.iload_n 2, 1) := by decide +kernel
theorem dX3_insert_128 : decode cX3_insert 128 = .ok (.iload 7, 2) := by decide +kernel
theorem dX3_insert_130 : decode cX3_insert 130 = .ok (.iload 8, 2) := by decide +kernel
theorem dX3_insert_132 : decode cX3_insert 132 = .ok (.iload_n 2, 1) := by decide +kernel
theorem dX3_insert_133 : decode cX3_insert 133 = .ok (.invokestatic 85, 3) := by decide +kernel
theorem dX3_insert_136 : decode cX3_insert 136 = .ok (.if_icmp .le 10, 3) := by decide +kernel
theorem dX3_insert_139 : decode cX3_insert 139 = .ok (.iload_n 2, 1) := by decide +kernel
theorem dX3_insert_140 : decode cX3_insert 140 = .ok (.invokestatic 85, 3) := by decide +kernel
theorem dX3_insert_143 : decode cX3_insert 143 = .ok (.goto 5, 3) := by decide +kernel
theorem dX3_insert_146 : decode cX3_insert 146 = .ok (.iload 8, 2) := by decide +kernel
theorem dX3_insert_148 : decode cX3_insert 148 = .ok (.invokevirtual 104, 3) := by decide +kernel
theorem dX3_insert_151 : decode cX3_insert 151 = .ok (.iadd, 1) := by decide +kernel
theorem dX3_insert_152 : decode cX3_insert 152 = .ok (.istore 5, 2) := by decide +kernel
theorem dX3_insert_154 : decode cX3_insert 154 = .ok (.iinc 6 1, 3) := by decide +kernel
theorem dX3_insert_157 : decode cX3_insert 157 = .ok (.goto (-130), 3) := by decide +kernel
theorem dX3_insert_160 : decode cX3_insert 160 = .ok (.iload 5, 2) := by decide +kernel
theorem dX3_insert_162 : decode cX3_insert 162 = .ok (.ireturn, 1) := by decide +kernel
abbrev cX3_isLine : ByteArray := prog_5_method_19_code
abbrev yX3_isLine : MethodName := ⟨"RangeReadersModel", "isLine", "(IZII)Z"⟩
theorem hd_X3_isLine : (yX3_isLine).cls ≠ "java/lang/invoke/MethodHandle" ∧ (yX3_isLine).cls ≠ "java/lang/invoke/VarHandle" ∧ (parseMethodDescriptor (yX3_isLine).desc).map (fun d => d.parameters.length) = some 4 := by decide +kernel
theorem dX3_isLine_0 : decode cX3_isLine 0 = .ok (.iload_n 1, 1) := by decide +kernel
theorem dX3_isLine_1 : decode cX3_isLine 1 = .ok (.iconst 0, 1) := by decide +kernel
theorem dX3_isLine_2 : decode cX3_isLine 2 = .ok (.bipush 7, 2) := by decide +kernel
theorem dX3_isLine_4 : decode cX3_isLine 4 = .ok (.invokestatic 39, 3) := by decide +kernel
theorem dX3_isLine_7 : decode cX3_isLine 7 = .ok (.ifCond .eq 31, 3) := by decide +kernel
theorem dX3_isLine_10 : decode cX3_isLine 10 = .ok (.iload_n 3, 1) := by decide +kernel
theorem dX3_isLine_11 : decode cX3_isLine 11 = .ok (.iconst 1, 1) := by decide +kernel
theorem dX3_isLine_12 : decode cX3_isLine 12 = .ok (.iload_n 2, 1) := by decide +kernel
theorem dX3_isLine_13 : decode cX3_isLine 13 = .ok (.invokestatic 85, 3) := by decide +kernel
theorem dX3_isLine_16 : decode cX3_isLine 16 = .ok (.invokestatic 39, 3) := by decide +kernel
theorem dX3_isLine_19 : decode cX3_isLine 19 = .ok (.ifCond .eq 19, 3) := by decide +kernel
theorem dX3_isLine_22 : decode cX3_isLine 22 = .ok (.iload 4, 2) := by decide +kernel
theorem dX3_isLine_24 : decode cX3_isLine 24 = .ok (.iconst 1, 1) := by decide +kernel
theorem dX3_isLine_25 : decode cX3_isLine 25 = .ok (.sipush 16384, 3) := by decide +kernel
theorem dX3_isLine_28 : decode cX3_isLine 28 = .ok (.invokestatic 39, 3) := by decide +kernel
theorem dX3_isLine_31 : decode cX3_isLine 31 = .ok (.ifCond .eq 7, 3) := by decide +kernel
theorem dX3_isLine_34 : decode cX3_isLine 34 = .ok (.iconst 1, 1) := by decide +kernel
theorem dX3_isLine_35 : decode cX3_isLine 35 = .ok (.goto 4, 3) := by decide +kernel
theorem dX3_isLine_38 : decode cX3_isLine 38 = .ok (.iconst 0, 1) := by decide +kernel
theorem dX3_isLine_39 : decode cX3_isLine 39 = .ok (.ireturn, 1) := by decide +kernel
abbrev cX3_linesOf : ByteArray := prog_5_method_18_code
abbrev yX3_linesOf : MethodName := ⟨"RangeReadersModel", "linesOf", "(Z)I"⟩
theorem hd_X3_linesOf : (yX3_linesOf).cls ≠ "java/lang/invoke/MethodHandle" ∧ (yX3_linesOf).cls ≠ "java/lang/invoke/VarHandle" ∧ (parseMethodDescriptor (yX3_linesOf).desc).map (fun d => d.parameters.length) = some 1 := by decide +kernel
theorem dX3_linesOf_0 : decode cX3_linesOf 0 = .ok (.iload_n 0, 1) := by decide +kernel
theorem dX3_linesOf_1 : decode cX3_linesOf 1 = .ok (.ifCond .eq 9, 3) := by decide +kernel
theorem dX3_linesOf_4 : decode cX3_linesOf 4 = .ok (.sipush 16384, 3) := by decide +kernel
theorem dX3_linesOf_7 : decode cX3_linesOf 7 = .ok (.goto 5, 3) := by decide +kernel
theorem dX3_linesOf_10 : decode cX3_linesOf 10 = .ok (.ldc 43, 2) := by decide +kernel
theorem dX3_linesOf_12 : decode cX3_linesOf 12 = .ok (.ireturn, 1) := by decide +kernel
abbrev cX3_isPart : ByteArray := prog_5_method_22_code
abbrev yX3_isPart : MethodName := ⟨"RangeReadersModel", "isPart", "(IIZ)Z"⟩
theorem hd_X3_isPart : (yX3_isPart).cls ≠ "java/lang/invoke/MethodHandle" ∧ (yX3_isPart).cls ≠ "java/lang/invoke/VarHandle" ∧ (parseMethodDescriptor (yX3_isPart).desc).map (fun d => d.parameters.length) = some 3 := by decide +kernel
theorem dX3_isPart_0 : decode cX3_isPart 0 = .ok (.aload_n 0, 1) := by decide +kernel
theorem dX3_isPart_1 : decode cX3_isPart 1 = .ok (.getfield 7, 3) := by decide +kernel
theorem dX3_isPart_4 : decode cX3_isPart 4 = .ok (.iload_n 1, 1) := by decide +kernel
theorem dX3_isPart_5 : decode cX3_isPart 5 = .ok (.baload, 1) := by decide +kernel
theorem dX3_isPart_6 : decode cX3_isPart 6 = .ok (.ifCond .eq 40, 3) := by decide +kernel
theorem dX3_isPart_9 : decode cX3_isPart 9 = .ok (.aload_n 0, 1) := by decide +kernel
theorem dX3_isPart_10 : decode cX3_isPart 10 = .ok (.getfield 13, 3) := by decide +kernel
theorem dX3_isPart_13 : decode cX3_isPart 13 = .ok (.iload_n 1, 1) := by decide +kernel
theorem dX3_isPart_14 : decode cX3_isPart 14 = .ok (.iaload, 1) := by decide +kernel
theorem dX3_isPart_15 : decode cX3_isPart 15 = .ok (.iload_n 2, 1) := by decide +kernel
theorem dX3_isPart_16 : decode cX3_isPart 16 = .ok (.if_icmp .ne 30, 3) := by decide +kernel
theorem dX3_isPart_19 : decode cX3_isPart 19 = .ok (.aload_n 0, 1) := by decide +kernel
theorem dX3_isPart_20 : decode cX3_isPart 20 = .ok (.iload_n 1, 1) := by decide +kernel
theorem dX3_isPart_21 : decode cX3_isPart 21 = .ok (.iload_n 3, 1) := by decide +kernel
theorem dX3_isPart_22 : decode cX3_isPart 22 = .ok (.invokevirtual 89, 3) := by decide +kernel
theorem dX3_isPart_25 : decode cX3_isPart 25 = .ok (.iconst 1, 1) := by decide +kernel
theorem dX3_isPart_26 : decode cX3_isPart 26 = .ok (.if_icmp .ne 16, 3) := by decide +kernel
theorem dX3_isPart_29 : decode cX3_isPart 29 = .ok (.aload_n 0, 1) := by decide +kernel
theorem dX3_isPart_30 : decode cX3_isPart 30 = .ok (.iload_n 1, 1) := by decide +kernel
theorem dX3_isPart_31 : decode cX3_isPart 31 = .ok (.iload_n 3, 1) := by decide +kernel
theorem dX3_isPart_32 : decode cX3_isPart 32 = .ok (.invokevirtual 93, 3) := by decide +kernel
theorem dX3_isPart_35 : decode cX3_isPart 35 = .ok (.iload_n 3, 1) := by decide +kernel
theorem dX3_isPart_36 : decode cX3_isPart 36 = .ok (.invokestatic 85, 3) := by decide +kernel
theorem dX3_isPart_39 : decode cX3_isPart 39 = .ok (.if_icmp .eq 7, 3) := by decide +kernel
theorem dX3_isPart_42 : decode cX3_isPart 42 = .ok (.iconst 1, 1) := by decide +kernel
theorem dX3_isPart_43 : decode cX3_isPart 43 = .ok (.goto 4, 3) := by decide +kernel
theorem dX3_isPart_46 : decode cX3_isPart 46 = .ok (.iconst 0, 1) := by decide +kernel
theorem dX3_isPart_47 : decode cX3_isPart 47 = .ok (.ireturn, 1) := by decide +kernel
abbrev cX3_first : ByteArray := prog_5_method_20_code
abbrev yX3_first : MethodName := ⟨"RangeReadersModel", "first", "(IZ)I"⟩
theorem hd_X3_first : (yX3_first).cls ≠ "java/lang/invoke/MethodHandle" ∧ (yX3_first).cls ≠ "java/lang/invoke/VarHandle" ∧ (parseMethodDescriptor (yX3_first).desc).map (fun d => d.parameters.length) = some 2 := by decide +kernel
theorem dX3_first_0 : decode cX3_first 0 = .ok (.iload_n 2, 1) := by decide +kernel
theorem dX3_first_1 : decode cX3_first 1 = .ok (.ifCond .eq 12, 3) := by decide +kernel
theorem dX3_first_4 : decode cX3_first 4 = .ok (.aload_n 0, 1) := by decide +kernel
theorem dX3_first_5 : decode cX3_first 5 = .ok (.getfield 20, 3) := by decide +kernel
theorem dX3_first_8 : decode cX3_first 8 = .ok (.iload_n 1, 1) := by decide +kernel
theorem dX3_first_9 : decode cX3_first 9 = .ok (.iaload, 1) := by decide +kernel
theorem dX3_first_10 : decode cX3_first 10 = .ok (.goto 9, 3) := by decide +kernel
theorem dX3_first_13 : decode cX3_first 13 = .ok (.aload_n 0, 1) := by decide +kernel
theorem dX3_first_14 : decode cX3_first 14 = .ok (.getfield 17, 3) := by decide +kernel
theorem dX3_first_17 : decode cX3_first 17 = .ok (.iload_n 1, 1) := by decide +kernel
theorem dX3_first_18 : decode cX3_first 18 = .ok (.iaload, 1) := by decide +kernel
theorem dX3_first_19 : decode cX3_first 19 = .ok (.ireturn, 1) := by decide +kernel
abbrev cX3_last : ByteArray := prog_5_method_21_code
abbrev yX3_last : MethodName := ⟨"RangeReadersModel", "last", "(IZ)I"⟩
theorem hd_X3_last : (yX3_last).cls ≠ "java/lang/invoke/MethodHandle" ∧ (yX3_last).cls ≠ "java/lang/invoke/VarHandle" ∧ (parseMethodDescriptor (yX3_last).desc).map (fun d => d.parameters.length) = some 2 := by decide +kernel
theorem dX3_last_0 : decode cX3_last 0 = .ok (.iload_n 2, 1) := by decide +kernel
theorem dX3_last_1 : decode cX3_last 1 = .ok (.ifCond .eq 12, 3) := by decide +kernel
theorem dX3_last_4 : decode cX3_last 4 = .ok (.aload_n 0, 1) := by decide +kernel
theorem dX3_last_5 : decode cX3_last 5 = .ok (.getfield 26, 3) := by decide +kernel
theorem dX3_last_8 : decode cX3_last 8 = .ok (.iload_n 1, 1) := by decide +kernel
theorem dX3_last_9 : decode cX3_last 9 = .ok (.iaload, 1) := by decide +kernel
theorem dX3_last_10 : decode cX3_last 10 = .ok (.goto 9, 3) := by decide +kernel
theorem dX3_last_13 : decode cX3_last 13 = .ok (.aload_n 0, 1) := by decide +kernel
theorem dX3_last_14 : decode cX3_last 14 = .ok (.getfield 23, 3) := by decide +kernel
theorem dX3_last_17 : decode cX3_last 17 = .ok (.iload_n 1, 1) := by decide +kernel
theorem dX3_last_18 : decode cX3_last 18 = .ok (.iaload, 1) := by decide +kernel
theorem dX3_last_19 : decode cX3_last 19 = .ok (.ireturn, 1) := by decide +kernel
abbrev cX3_become : ByteArray := prog_5_method_17_code
abbrev yX3_become : MethodName := ⟨"RangeReadersModel", "become", "(IZII)I"⟩
theorem hd_X3_become : (yX3_become).cls ≠ "java/lang/invoke/MethodHandle" ∧ (yX3_become).cls ≠ "java/lang/invoke/VarHandle" ∧ (parseMethodDescriptor (yX3_become).desc).map (fun d => d.parameters.length) = some 4 := by decide +kernel
theorem dX3_become_0 : decode cX3_become 0 = .ok (.iload_n 2, 1) := by decide +kernel
theorem dX3_become_1 : decode cX3_become 1 = .ok (.ifCond .eq 32, 3) := by decide +kernel
theorem dX3_become_4 : decode cX3_become 4 = .ok (.aload_n 0, 1) := by decide +kernel
theorem dX3_become_5 : decode cX3_become 5 = .ok (.getfield 20, 3) := by decide +kernel
theorem dX3_become_8 : decode cX3_become 8 = .ok (.iload_n 1, 1) := by decide +kernel
theorem dX3_become_9 : decode cX3_become 9 = .ok (.iaload, 1) := by decide +kernel
theorem dX3_become_10 : decode cX3_become 10 = .ok (.iload_n 3, 1) := by decide +kernel
theorem dX3_become_11 : decode cX3_become 11 = .ok (.if_icmp .ne 18, 3) := by decide +kernel
theorem dX3_become_14 : decode cX3_become 14 = .ok (.aload_n 0, 1) := by decide +kernel
theorem dX3_become_15 : decode cX3_become 15 = .ok (.getfield 26, 3) := by decide +kernel
theorem dX3_become_18 : decode cX3_become 18 = .ok (.iload_n 1, 1) := by decide +kernel
theorem dX3_become_19 : decode cX3_become 19 = .ok (.iaload, 1) := by decide +kernel
theorem dX3_become_20 : decode cX3_become 20 = .ok (.iload 4, 2) := by decide +kernel
theorem dX3_become_22 : decode cX3_become 22 = .ok (.if_icmp .ne 7, 3) := by decide +kernel
theorem dX3_become_25 : decode cX3_become 25 = .ok (.iconst 1, 1) := by decide +kernel
theorem dX3_become_26 : decode cX3_become 26 = .ok (.goto 33, 3) := by decide +kernel
theorem dX3_become_29 : decode cX3_become 29 = .ok (.iconst 0, 1) := by decide +kernel
theorem dX3_become_30 : decode cX3_become 30 = .ok (.goto 29, 3) := by decide +kernel
theorem dX3_become_33 : decode cX3_become 33 = .ok (.aload_n 0, 1) := by decide +kernel
theorem dX3_become_34 : decode cX3_become 34 = .ok (.getfield 17, 3) := by decide +kernel
theorem dX3_become_37 : decode cX3_become 37 = .ok (.iload_n 1, 1) := by decide +kernel
theorem dX3_become_38 : decode cX3_become 38 = .ok (.iaload, 1) := by decide +kernel
theorem dX3_become_39 : decode cX3_become 39 = .ok (.iload_n 3, 1) := by decide +kernel
theorem dX3_become_40 : decode cX3_become 40 = .ok (.if_icmp .ne 18, 3) := by decide +kernel
theorem dX3_become_43 : decode cX3_become 43 = .ok (.aload_n 0, 1) := by decide +kernel
theorem dX3_become_44 : decode cX3_become 44 = .ok (.getfield 23, 3) := by decide +kernel
theorem dX3_become_47 : decode cX3_become 47 = .ok (.iload_n 1, 1) := by decide +kernel
theorem dX3_become_48 : decode cX3_become 48 = .ok (.iaload, 1) := by decide +kernel
theorem dX3_become_49 : decode cX3_become 49 = .ok (.iload 4, 2) := by decide +kernel
theorem dX3_become_51 : decode cX3_become 51 = .ok (.if_icmp .ne 7, 3) := by decide +kernel
theorem dX3_become_54 : decode cX3_become 54 = .ok (.iconst 1, 1) := by decide +kernel
theorem dX3_become_55 : decode cX3_become 55 = .ok (.goto 4, 3) := by decide +kernel
theorem dX3_become_58 : decode cX3_become 58 = .ok (.iconst 0, 1) := by decide +kernel
theorem dX3_become_59 : decode cX3_become 59 = .ok (.istore 5, 2) := by decide +kernel
theorem dX3_become_61 : decode cX3_become 61 = .ok (.iload_n 2, 1) := by decide +kernel
theorem dX3_become_62 : decode cX3_become 62 = .ok (.ifCond .eq 21, 3) := by decide +kernel
theorem dX3_become_65 : decode cX3_become 65 = .ok (.aload_n 0, 1) := by decide +kernel
theorem dX3_become_66 : decode cX3_become 66 = .ok (.getfield 20, 3) := by decide +kernel
theorem dX3_become_69 : decode cX3_become 69 = .ok (.iload_n 1, 1) := by decide +kernel
theorem dX3_become_70 : decode cX3_become 70 = .ok (.iload_n 3, 1) := by decide +kernel
theorem dX3_become_71 : decode cX3_become 71 = .ok (.iastore, 1) := by decide +kernel
theorem dX3_become_72 : decode cX3_become 72 = .ok (.aload_n 0, 1) := by decide +kernel
theorem dX3_become_73 : decode cX3_become 73 = .ok (.getfield 26, 3) := by decide +kernel
theorem dX3_become_76 : decode cX3_become 76 = .ok (.iload_n 1, 1) := by decide +kernel
theorem dX3_become_77 : decode cX3_become 77 = .ok (.iload 4, 2) := by decide +kernel
theorem dX3_become_79 : decode cX3_become 79 = .ok (.iastore, 1) := by decide +kernel
theorem dX3_become_80 : decode cX3_become 80 = .ok (.goto 18, 3) := by decide +kernel
theorem dX3_become_83 : decode cX3_become 83 = .ok (.aload_n 0, 1) := by decide +kernel
theorem dX3_become_84 : decode cX3_become 84 = .ok (.getfield 17, 3) := by decide +kernel
theorem dX3_become_87 : decode cX3_become 87 = .ok (.iload_n 1, 1) := by decide +kernel
theorem dX3_become_88 : decode cX3_become 88 = .ok (.iload_n 3, 1) := by decide +kernel
theorem dX3_become_89 : decode cX3_become 89 = .ok (.iastore, 1) := by decide +kernel
theorem dX3_become_90 : decode cX3_become 90 = .ok (.aload_n 0, 1) := by decide +kernel
theorem dX3_become_91 : decode cX3_become 91 = .ok (.getfield 23, 3) := by decide +kernel
theorem dX3_become_94 : decode cX3_become 94 = .ok (.iload_n 1, 1) := by decide +kernel
theorem dX3_become_95 : decode cX3_become 95 = .ok (.iload 4, 2) := by decide +kernel
theorem dX3_become_97 : decode cX3_become 97 = .ok (.iastore, 1) := by decide +kernel
theorem dX3_become_98 : decode cX3_become 98 = .ok (.iload_n 3, 1) := by decide +kernel
theorem dX3_become_99 : decode cX3_become 99 = .ok (.iload 4, 2) := by decide +kernel
theorem dX3_become_101 : decode cX3_become 101 = .ok (.if_icmp .le 8, 3) := by decide +kernel
theorem dX3_become_104 : decode cX3_become 104 = .ok (.aload_n 0, 1) := by decide +kernel
theorem dX3_become_105 : decode cX3_become 105 = .ok (.iload_n 1, 1) := by decide +kernel
theorem dX3_become_106 : decode cX3_become 106 = .ok (.invokevirtual 70, 3) := by decide +kernel
theorem dX3_become_109 : decode cX3_become 109 = .ok (.iload 5, 2) := by decide +kernel
theorem dX3_become_111 : decode cX3_become 111 = .ok (.ifCond .eq 7, 3) := by decide +kernel
theorem dX3_become_114 : decode cX3_become 114 = .ok (.iconst 0, 1) := by decide +kernel
theorem dX3_become_115 : decode cX3_become 115 = .ok (.goto 4, 3) := by decide +kernel
theorem dX3_become_118 : decode cX3_become 118 = .ok (.iconst 1, 1) := by decide +kernel
theorem dX3_become_119 : decode cX3_become 119 = .ok (.ireturn, 1) := by decide +kernel
abbrev cX3_delete : ByteArray := prog_5_method_24_code
abbrev yX3_delete : MethodName := ⟨"RangeReadersModel", "delete", "(IZII)I"⟩
theorem hd_X3_delete : (yX3_delete).cls ≠ "java/lang/invoke/MethodHandle" ∧ (yX3_delete).cls ≠ "java/lang/invoke/VarHandle" ∧ (parseMethodDescriptor (yX3_delete).desc).map (fun d => d.parameters.length) = some 4 := by decide +kernel
theorem dX3_delete_0 : decode cX3_delete 0 = .ok (.aload_n 0, 1) := by decide +kernel
theorem dX3_delete_1 : decode cX3_delete 1 = .ok (.aload_n 0, 1) := by decide +kernel
theorem dX3_delete_2 : decode cX3_delete 2 = .ok (.iload_n 1, 1) := by decide +kernel
theorem dX3_delete_3 : decode cX3_delete 3 = .ok (.iload_n 2, 1) := by decide +kernel
theorem dX3_delete_4 : decode cX3_delete 4 = .ok (.iload_n 3, 1) := by decide +kernel
theorem dX3_delete_5 : decode cX3_delete 5 = .ok (.iload 4, 2) := by decide +kernel
theorem dX3_delete_7 : decode cX3_delete 7 = .ok (.invokevirtual 96, 3) := by decide +kernel
theorem dX3_delete_10 : decode cX3_delete 10 = .ok (.ifCond .eq 7, 3) := by decide +kernel
theorem dX3_delete_13 : decode cX3_delete 13 = .ok (.iconst 0, 1) := by decide +kernel
theorem dX3_delete_14 : decode cX3_delete 14 = .ok (.goto 4, 3) := by decide +kernel
theorem dX3_delete_17 : decode cX3_delete 17 = .ok (.iconst 1, 1) := by decide +kernel
theorem dX3_delete_18 : decode cX3_delete 18 = .ok (.putfield 35, 3) := by decide +kernel
theorem dX3_delete_21 : decode cX3_delete 21 = .ok (.iload_n 3, 1) := by decide +kernel
theorem dX3_delete_22 : decode cX3_delete 22 = .ok (.iload 4, 2) := by decide +kernel
theorem dX3_delete_24 : decode cX3_delete 24 = .ok (.iadd, 1) := by decide +kernel
theorem dX3_delete_25 : decode cX3_delete 25 = .ok (.istore 5, 2) := by decide +kernel
theorem dX3_delete_27 : decode cX3_delete 27 = .ok (.iconst 0, 1) := by decide +kernel
theorem dX3_delete_28 : decode cX3_delete 28 = .ok (.istore 6, 2) := by decide +kernel
theorem dX3_delete_30 : decode cX3_delete 30 = .ok (.iconst 0, 1) := by decide +kernel
theorem dX3_delete_31 : decode cX3_delete 31 = .ok (.istore 7, 2) := by decide +kernel
theorem dX3_delete_33 : decode cX3_delete 33 = .ok (.iload 7, 2) := by decide +kernel
theorem dX3_delete_35 : decode cX3_delete 35 = .ok (.sipush 4096, 3) := by decide +kernel
theorem dX3_delete_38 : decode cX3_delete 38 = .ok (.if_icmp .ge 124, 3) := by decide +kernel
theorem dX3_delete_41 : decode cX3_delete 41 = .ok (.aload_n 0, 1) := by decide +kernel
theorem dX3_delete_42 : decode cX3_delete 42 = .ok (.getfield 35, 3) := by decide +kernel
theorem dX3_delete_45 : decode cX3_delete 45 = .ok (.ifCond .ne 117, 3) := by decide +kernel
theorem dX3_delete_48 : decode cX3_delete 48 = .ok (.aload_n 0, 1) := by decide +kernel
theorem dX3_delete_49 : decode cX3_delete 49 = .ok (.iload 7, 2) := by decide +kernel
theorem dX3_delete_51 : decode cX3_delete 51 = .ok (.iload_n 1, 1) := by decide +kernel
theorem dX3_delete_52 : decode cX3_delete 52 = .ok (.iload_n 2, 1) := by decide +kernel
theorem dX3_delete_53 : decode cX3_delete 53 = .ok (.invokevirtual 100, 3) := by decide +kernel
theorem dX3_delete_56 : decode cX3_delete 56 = .ok (.ifCond .ne 6, 3) := by decide +kernel
theorem dX3_delete_59 : decode cX3_delete 59 = .ok (.goto 97, 3) := by decide +kernel
theorem dX3_delete_62 : decode cX3_delete 62 = .ok (.aload_n 0, 1) := by decide +kernel
theorem dX3_delete_63 : decode cX3_delete 63 = .ok (.iload 7, 2) := by decide +kernel
theorem dX3_delete_65 : decode cX3_delete 65 = .ok (.iload_n 2, 1) := by decide +kernel
theorem dX3_delete_66 : decode cX3_delete 66 = .ok (.invokevirtual 89, 3) := by decide +kernel
theorem dX3_delete_69 : decode cX3_delete 69 = .ok (.istore 8, 2) := by decide +kernel
theorem dX3_delete_71 : decode cX3_delete 71 = .ok (.aload_n 0, 1) := by decide +kernel
theorem dX3_delete_72 : decode cX3_delete 72 = .ok (.iload 7, 2) := by decide +kernel
theorem dX3_delete_74 : decode cX3_delete 74 = .ok (.iload_n 2, 1) := by decide +kernel
theorem dX3_delete_75 : decode cX3_delete 75 = .ok (.invokevirtual 93, 3) := by decide +kernel
theorem dX3_delete_78 : decode cX3_delete 78 = .ok (.istore 9, 2) := by decide +kernel
theorem dX3_delete_80 : decode cX3_delete 80 = .ok (.iload 8, 2) := by decide +kernel
theorem dX3_delete_82 : decode cX3_delete 82 = .ok (.iload_n 3, 1) := by decide +kernel
theorem dX3_delete_83 : decode cX3_delete 83 = .ok (.if_icmp .ge 8, 3) := by decide +kernel
theorem dX3_delete_86 : decode cX3_delete 86 = .ok (.iload 8, 2) := by decide +kernel
theorem dX3_delete_88 : decode cX3_delete 88 = .ok (.goto 19, 3) := by decide +kernel
theorem dX3_delete_91 : decode cX3_delete 91 = .ok (.iload 8, 2) := by decide +kernel
theorem dX3_delete_93 : decode cX3_delete 93 = .ok (.iload 5, 2) := by decide +kernel
theorem dX3_delete_95 : decode cX3_delete 95 = .ok (.if_icmp .ge 7, 3) := by decide +kernel
theorem dX3_delete_98 : decode cX3_delete 98 = .ok (.iload_n 3, 1) := by decide +kernel
theorem dX3_delete_99 : decode cX3_delete 99 = .ok (.goto 8, 3) := by decide +kernel
theorem dX3_delete_102 : decode cX3_delete 102 = .ok (.iload 8, 2) := by decide +kernel
theorem dX3_delete_104 : decode cX3_delete 104 = .ok (.iload 4, 2) := by decide +kernel
theorem dX3_delete_106 : decode cX3_delete 106 = .ok (.isub, 1) := by decide +kernel
theorem dX3_delete_107 : decode cX3_delete 107 = .ok (.istore 8, 2) := by decide +kernel
theorem dX3_delete_109 : decode cX3_delete 109 = .ok (.iload 9, 2) := by decide +kernel
theorem dX3_delete_111 : decode cX3_delete 111 = .ok (.iload_n 3, 1) := by decide +kernel
theorem dX3_delete_112 : decode cX3_delete 112 = .ok (.if_icmp .ge 8, 3) := by decide +kernel
theorem dX3_delete_115 : decode cX3_delete 115 = .ok (.iload 9, 2) := by decide +kernel
theorem dX3_delete_117 : decode cX3_delete 117 = .ok (.goto 21, 3) := by decide +kernel
theorem dX3_delete_120 : decode cX3_delete 120 = .ok (.iload 9, 2) := by decide +kernel
theorem dX3_delete_122 : decode cX3_delete 122 = .ok (.iload 5, 2) := by decide +kernel
theorem dX3_delete_124 : decode cX3_delete 124 = .ok (.if_icmp .ge 9, 3) := by decide +kernel
theorem dX3_delete_127 : decode cX3_delete 127 = .ok (.iload_n 3, 1) := by decide +kernel
theorem dX3_delete_128 : decode cX3_delete 128 = .ok (.iconst 1, 1) := by decide +kernel
theorem dX3_delete_129 : decode cX3_delete 129 = .ok (.isub, 1) := by decide +kernel
theorem dX3_delete_130 : decode cX3_delete 130 = .ok (.goto 8, 3) := by decide +kernel
theorem dX3_delete_133 : decode cX3_delete 133 = .ok (.iload 9, 2) := by decide +kernel
theorem dX3_delete_135 : decode cX3_delete 135 = .ok (.iload 4, 2) := by decide +kernel
theorem dX3_delete_137 : decode cX3_delete 137 = .ok (.isub, 1) := by decide +kernel
theorem dX3_delete_138 : decode cX3_delete 138 = .ok (.istore 9, 2) := by decide +kernel
theorem dX3_delete_140 : decode cX3_delete 140 = .ok (.iload 6, 2) := by decide +kernel
theorem dX3_delete_142 : decode cX3_delete 142 = .ok (.aload_n 0, 1) := by decide +kernel
theorem dX3_delete_143 : decode cX3_delete 143 = .ok (.iload 7, 2) := by decide +kernel
theorem dX3_delete_145 : decode cX3_delete 145 = .ok (.iload_n 2, 1) := by decide +kernel
theorem dX3_delete_146 : decode cX3_delete 146 = .ok (.iload 8, 2) := by decide +kernel
theorem dX3_delete_148 : decode cX3_delete 148 = .ok (.iload 9, 2) := by decide +kernel
theorem dX3_delete_150 : decode cX3_delete 150 = .ok (.invokevirtual 104, 3) := by decide +kernel
theorem dX3_delete_153 : decode cX3_delete 153 = .ok (.iadd, 1) := by decide +kernel
theorem dX3_delete_154 : decode cX3_delete 154 = .ok (.istore 6, 2) := by decide +kernel
theorem dX3_delete_156 : decode cX3_delete 156 = .ok (.iinc 7 1, 3) := by decide +kernel
theorem dX3_delete_159 : decode cX3_delete 159 = .ok (.goto (-126), 3) := by decide +kernel
theorem dX3_delete_162 : decode cX3_delete 162 = .ok (.iload 6, 2) := by decide +kernel
theorem dX3_delete_164 : decode cX3_delete 164 = .ok (.ireturn, 1) := by decide +kernel
abbrev cX3_move : ByteArray := prog_5_method_26_code
abbrev yX3_move : MethodName := ⟨"RangeReadersModel", "move", "(III)I"⟩
theorem hd_X3_move : (yX3_move).cls ≠ "java/lang/invoke/MethodHandle" ∧ (yX3_move).cls ≠ "java/lang/invoke/VarHandle" ∧ (parseMethodDescriptor (yX3_move).desc).map (fun d => d.parameters.length) = some 3 := by decide +kernel
theorem dX3_move_0 : decode cX3_move 0 = .ok (.iload_n 1, 1) := by decide +kernel
theorem dX3_move_1 : decode cX3_move 1 = .ok (.iconst 0, 1) := by decide +kernel
theorem dX3_move_2 : decode cX3_move 2 = .ok (.bipush 7, 2) := by decide +kernel
theorem dX3_move_4 : decode cX3_move 4 = .ok (.invokestatic 39, 3) := by decide +kernel
theorem dX3_move_7 : decode cX3_move 7 = .ok (.ifCond .eq 28, 3) := by decide +kernel
theorem dX3_move_10 : decode cX3_move 10 = .ok (.iload_n 2, 1) := by decide +kernel
theorem dX3_move_11 : decode cX3_move 11 = .ok (.iconst 1, 1) := by decide +kernel
theorem dX3_move_12 : decode cX3_move 12 = .ok (.ldc 43, 2) := by decide +kernel
theorem dX3_move_14 : decode cX3_move 14 = .ok (.invokestatic 39, 3) := by decide +kernel
theorem dX3_move_17 : decode cX3_move 17 = .ok (.ifCond .eq 18, 3) := by decide +kernel
theorem dX3_move_20 : decode cX3_move 20 = .ok (.iload_n 3, 1) := by decide +kernel
theorem dX3_move_21 : decode cX3_move 21 = .ok (.iconst 1, 1) := by decide +kernel
theorem dX3_move_22 : decode cX3_move 22 = .ok (.sipush 16384, 3) := by decide +kernel
theorem dX3_move_25 : decode cX3_move 25 = .ok (.invokestatic 39, 3) := by decide +kernel
theorem dX3_move_28 : decode cX3_move 28 = .ok (.ifCond .eq 7, 3) := by decide +kernel
theorem dX3_move_31 : decode cX3_move 31 = .ok (.iconst 1, 1) := by decide +kernel
theorem dX3_move_32 : decode cX3_move 32 = .ok (.goto 4, 3) := by decide +kernel
theorem dX3_move_35 : decode cX3_move 35 = .ok (.iconst 0, 1) := by decide +kernel
theorem dX3_move_36 : decode cX3_move 36 = .ok (.istore 4, 2) := by decide +kernel
theorem dX3_move_38 : decode cX3_move 38 = .ok (.iload_n 2, 1) := by decide +kernel
theorem dX3_move_39 : decode cX3_move 39 = .ok (.aload_n 0, 1) := by decide +kernel
theorem dX3_move_40 : decode cX3_move 40 = .ok (.getfield 47, 3) := by decide +kernel
theorem dX3_move_43 : decode cX3_move 43 = .ok (.isub, 1) := by decide +kernel
theorem dX3_move_44 : decode cX3_move 44 = .ok (.istore 5, 2) := by decide +kernel
theorem dX3_move_46 : decode cX3_move 46 = .ok (.iload_n 3, 1) := by decide +kernel
theorem dX3_move_47 : decode cX3_move 47 = .ok (.aload_n 0, 1) := by decide +kernel
theorem dX3_move_48 : decode cX3_move 48 = .ok (.getfield 50, 3) := by decide +kernel
theorem dX3_move_51 : decode cX3_move 51 = .ok (.isub, 1) := by decide +kernel
theorem dX3_move_52 : decode cX3_move 52 = .ok (.istore 6, 2) := by decide +kernel
theorem dX3_move_54 : decode cX3_move 54 = .ok (.aload_n 0, 1) := by decide +kernel
theorem dX3_move_55 : decode cX3_move 55 = .ok (.getfield 53, 3) := by decide +kernel
theorem dX3_move_58 : decode cX3_move 58 = .ok (.iload 5, 2) := by decide +kernel
theorem dX3_move_60 : decode cX3_move 60 = .ok (.iadd, 1) := by decide +kernel
theorem dX3_move_61 : decode cX3_move 61 = .ok (.ldc 43, 2) := by decide +kernel
theorem dX3_move_63 : decode cX3_move 63 = .ok (.if_icmp .gt 20, 3) := by decide +kernel
theorem dX3_move_66 : decode cX3_move 66 = .ok (.aload_n 0, 1) := by decide +kernel
theorem dX3_move_67 : decode cX3_move 67 = .ok (.getfield 56, 3) := by decide +kernel
theorem dX3_move_70 : decode cX3_move 70 = .ok (.iload 6, 2) := by decide +kernel
theorem dX3_move_72 : decode cX3_move 72 = .ok (.iadd, 1) := by decide +kernel
theorem dX3_move_73 : decode cX3_move 73 = .ok (.sipush 16384, 3) := by decide +kernel
theorem dX3_move_76 : decode cX3_move 76 = .ok (.if_icmp .gt 7, 3) := by decide +kernel
theorem dX3_move_79 : decode cX3_move 79 = .ok (.iconst 1, 1) := by decide +kernel
theorem dX3_move_80 : decode cX3_move 80 = .ok (.goto 4, 3) := by decide +kernel
theorem dX3_move_83 : decode cX3_move 83 = .ok (.iconst 0, 1) := by decide +kernel
theorem dX3_move_84 : decode cX3_move 84 = .ok (.istore 7, 2) := by decide +kernel
theorem dX3_move_86 : decode cX3_move 86 = .ok (.aload_n 0, 1) := by decide +kernel
theorem dX3_move_87 : decode cX3_move 87 = .ok (.iload 4, 2) := by decide +kernel
theorem dX3_move_89 : decode cX3_move 89 = .ok (.ifCond .eq 15, 3) := by decide +kernel
theorem dX3_move_92 : decode cX3_move 92 = .ok (.aload_n 0, 1) := by decide +kernel
theorem dX3_move_93 : decode cX3_move 93 = .ok (.getfield 59, 3) := by decide +kernel
theorem dX3_move_96 : decode cX3_move 96 = .ok (.ifCond .eq 12, 3) := by decide +kernel
theorem dX3_move_99 : decode cX3_move 99 = .ok (.iload 7, 2) := by decide +kernel
theorem dX3_move_101 : decode cX3_move 101 = .ok (.ifCond .ne 7, 3) := by decide +kernel
theorem dX3_move_104 : decode cX3_move 104 = .ok (.iconst 1, 1) := by decide +kernel
theorem dX3_move_105 : decode cX3_move 105 = .ok (.goto 15, 3) := by decide +kernel
theorem dX3_move_108 : decode cX3_move 108 = .ok (.aload_n 0, 1) := by decide +kernel
theorem dX3_move_109 : decode cX3_move 109 = .ok (.getfield 59, 3) := by decide +kernel
theorem dX3_move_112 : decode cX3_move 112 = .ok (.ifCond .ne 7, 3) := by decide +kernel
theorem dX3_move_115 : decode cX3_move 115 = .ok (.iconst 2, 1) := by decide +kernel
theorem dX3_move_116 : decode cX3_move 116 = .ok (.goto 4, 3) := by decide +kernel
theorem dX3_move_119 : decode cX3_move 119 = .ok (.iconst 0, 1) := by decide +kernel
theorem dX3_move_120 : decode cX3_move 120 = .ok (.putfield 35, 3) := by decide +kernel
theorem dX3_move_123 : decode cX3_move 123 = .ok (.aload_n 0, 1) := by decide +kernel
theorem dX3_move_124 : decode cX3_move 124 = .ok (.getfield 35, 3) := by decide +kernel
theorem dX3_move_127 : decode cX3_move 127 = .ok (.ifCond .eq 5, 3) := by decide +kernel
theorem dX3_move_130 : decode cX3_move 130 = .ok (.iconst 0, 1) := by decide +kernel
theorem dX3_move_131 : decode cX3_move 131 = .ok (.ireturn, 1) := by decide +kernel
theorem dX3_move_132 : decode cX3_move 132 = .ok (.iconst 0, 1) := by decide +kernel
theorem dX3_move_133 : decode cX3_move 133 = .ok (.istore 8, 2) := by decide +kernel
theorem dX3_move_135 : decode cX3_move 135 = .ok (.iconst 0, 1) := by decide +kernel
theorem dX3_move_136 : decode cX3_move 136 = .ok (.istore 9, 2) := by decide +kernel
theorem dX3_move_138 : decode cX3_move 138 = .ok (.iload 9, 2) := by decide +kernel
theorem dX3_move_140 : decode cX3_move 140 = .ok (.sipush 4096, 3) := by decide +kernel
theorem dX3_move_143 : decode cX3_move 143 = .ok (.if_icmp .ge 162, 3) := by decide +kernel
theorem dX3_move_146 : decode cX3_move 146 = .ok (.aload_n 0, 1) := by decide +kernel
theorem dX3_move_147 : decode cX3_move 147 = .ok (.iload 9, 2) := by decide +kernel
theorem dX3_move_149 : decode cX3_move 149 = .ok (.aload_n 0, 1) := by decide +kernel
theorem dX3_move_150 : decode cX3_move 150 = .ok (.getfield 44, 3) := by decide +kernel
theorem dX3_move_153 : decode cX3_move 153 = .ok (.aload_n 0, 1) := by decide +kernel
theorem dX3_move_154 : decode cX3_move 154 = .ok (.getfield 47, 3) := by decide +kernel
theorem dX3_move_157 : decode cX3_move 157 = .ok (.aload_n 0, 1) := by decide +kernel
theorem dX3_move_158 : decode cX3_move 158 = .ok (.getfield 50, 3) := by decide +kernel
theorem dX3_move_161 : decode cX3_move 161 = .ok (.aload_n 0, 1) := by decide +kernel
theorem dX3_move_162 : decode cX3_move 162 = .ok (.getfield 53, 3) := by decide +kernel
theorem dX3_move_165 : decode cX3_move 165 = .ok (.aload_n 0, 1) := by decide +kernel
theorem dX3_move_166 : decode cX3_move 166 = .ok (.getfield 56, 3) := by decide +kernel
theorem dX3_move_169 : decode cX3_move 169 = .ok (.invokevirtual 108, 3) := by decide +kernel
theorem dX3_move_172 : decode cX3_move 172 = .ok (.istore 10, 2) := by decide +kernel
theorem dX3_move_174 : decode cX3_move 174 = .ok (.iload 10, 2) := by decide +kernel
theorem dX3_move_176 : decode cX3_move 176 = .ok (.ifCond .ne 38, 3) := by decide +kernel
theorem dX3_move_179 : decode cX3_move 179 = .ok (.aload_n 0, 1) := by decide +kernel
theorem dX3_move_180 : decode cX3_move 180 = .ok (.iload 9, 2) := by decide +kernel
theorem dX3_move_182 : decode cX3_move 182 = .ok (.iload_n 1, 1) := by decide +kernel
theorem dX3_move_183 : decode cX3_move 183 = .ok (.iload_n 2, 1) := by decide +kernel
theorem dX3_move_184 : decode cX3_move 184 = .ok (.iload_n 3, 1) := by decide +kernel
theorem dX3_move_185 : decode cX3_move 185 = .ok (.aload_n 0, 1) := by decide +kernel
theorem dX3_move_186 : decode cX3_move 186 = .ok (.getfield 53, 3) := by decide +kernel
theorem dX3_move_189 : decode cX3_move 189 = .ok (.iload 5, 2) := by decide +kernel
theorem dX3_move_191 : decode cX3_move 191 = .ok (.iadd, 1) := by decide +kernel
theorem dX3_move_192 : decode cX3_move 192 = .ok (.aload_n 0, 1) := by decide +kernel
theorem dX3_move_193 : decode cX3_move 193 = .ok (.getfield 56, 3) := by decide +kernel
theorem dX3_move_196 : decode cX3_move 196 = .ok (.iload 6, 2) := by decide +kernel
theorem dX3_move_198 : decode cX3_move 198 = .ok (.iadd, 1) := by decide +kernel
theorem dX3_move_199 : decode cX3_move 199 = .ok (.invokevirtual 108, 3) := by decide +kernel
theorem dX3_move_202 : decode cX3_move 202 = .ok (.ifCond .eq 12, 3) := by decide +kernel
theorem dX3_move_205 : decode cX3_move 205 = .ok (.aload_n 0, 1) := by decide +kernel
theorem dX3_move_206 : decode cX3_move 206 = .ok (.iload 9, 2) := by decide +kernel
theorem dX3_move_208 : decode cX3_move 208 = .ok (.invokevirtual 70, 3) := by decide +kernel
theorem dX3_move_211 : decode cX3_move 211 = .ok (.iinc 8 1, 3) := by decide +kernel
theorem dX3_move_214 : decode cX3_move 214 = .ok (.iload 10, 2) := by decide +kernel
theorem dX3_move_216 : decode cX3_move 216 = .ok (.ifCond .eq 83, 3) := by decide +kernel
theorem dX3_move_219 : decode cX3_move 219 = .ok (.iload_n 1, 1) := by decide +kernel
theorem dX3_move_220 : decode cX3_move 220 = .ok (.aload_n 0, 1) := by decide +kernel
theorem dX3_move_221 : decode cX3_move 221 = .ok (.getfield 44, 3) := by decide +kernel
theorem dX3_move_224 : decode cX3_move 224 = .ok (.if_icmp .ne 16, 3) := by decide +kernel
theorem dX3_move_227 : decode cX3_move 227 = .ok (.iload 5, 2) := by decide +kernel
theorem dX3_move_229 : decode cX3_move 229 = .ok (.ifCond .ne 11, 3) := by decide +kernel
theorem dX3_move_232 : decode cX3_move 232 = .ok (.iload 6, 2) := by decide +kernel
theorem dX3_move_234 : decode cX3_move 234 = .ok (.ifCond .ne 6, 3) := by decide +kernel
theorem dX3_move_237 : decode cX3_move 237 = .ok (.goto 62, 3) := by decide +kernel
theorem dX3_move_240 : decode cX3_move 240 = .ok (.aload_n 0, 1) := by decide +kernel
theorem dX3_move_241 : decode cX3_move 241 = .ok (.getfield 13, 3) := by decide +kernel
theorem dX3_move_244 : decode cX3_move 244 = .ok (.iload 9, 2) := by decide +kernel
theorem dX3_move_246 : decode cX3_move 246 = .ok (.iload_n 1, 1) := by decide +kernel
theorem dX3_move_247 : decode cX3_move 247 = .ok (.iastore, 1) := by decide +kernel
theorem dX3_move_248 : decode cX3_move 248 = .ok (.aload_n 0, 1) := by decide +kernel
theorem dX3_move_249 : decode cX3_move 249 = .ok (.getfield 17, 3) := by decide +kernel
theorem dX3_move_252 : decode cX3_move 252 = .ok (.iload 9, 2) := by decide +kernel
theorem dX3_move_254 : decode cX3_move 254 = .ok (.dup2, 1) := by decide +kernel
theorem dX3_move_255 : decode cX3_move 255 = .ok (.iaload, 1) := by decide +kernel
theorem dX3_move_256 : decode cX3_move 256 = .ok (.iload 5, 2) := by decide +kernel
theorem dX3_move_258 : decode cX3_move 258 = .ok (.iadd, 1) := by decide +kernel
theorem dX3_move_259 : decode cX3_move 259 = .ok (.iastore, 1) := by decide +kernel
theorem dX3_move_260 : decode cX3_move 260 = .ok (.aload_n 0, 1) := by decide +kernel
theorem dX3_move_261 : decode cX3_move 261 = .ok (.getfield 23, 3) := by decide +kernel
theorem dX3_move_264 : decode cX3_move 264 = .ok (.iload 9, 2) := by decide +kernel
theorem dX3_move_266 : decode cX3_move 266 = .ok (.dup2, 1) := by decide +kernel
theorem dX3_move_267 : decode cX3_move 267 = .ok (.iaload, 1) := by decide +kernel
theorem dX3_move_268 : decode cX3_move 268 = .ok (.iload 5, 2) := by decide +kernel
theorem dX3_move_270 : decode cX3_move 270 = .ok (.iadd, 1) := by decide +kernel
theorem dX3_move_271 : decode cX3_move 271 = .ok (.iastore, 1) := by decide +kernel
theorem dX3_move_272 : decode cX3_move 272 = .ok (.aload_n 0, 1) := by decide +kernel
theorem dX3_move_273 : decode cX3_move 273 = .ok (.getfield 20, 3) := by decide +kernel
theorem dX3_move_276 : decode cX3_move 276 = .ok (.iload 9, 2) := by decide +kernel
theorem dX3_move_278 : decode cX3_move 278 = .ok (.dup2, 1) := by decide +kernel
theorem dX3_move_279 : decode cX3_move 279 = .ok (.iaload, 1) := by decide +kernel
theorem dX3_move_280 : decode cX3_move 280 = .ok (.iload 6, 2) := by decide +kernel
theorem dX3_move_282 : decode cX3_move 282 = .ok (.iadd, 1) := by decide +kernel
theorem dX3_move_283 : decode cX3_move 283 = .ok (.iastore, 1) := by decide +kernel
theorem dX3_move_284 : decode cX3_move 284 = .ok (.aload_n 0, 1) := by decide +kernel
theorem dX3_move_285 : decode cX3_move 285 = .ok (.getfield 26, 3) := by decide +kernel
theorem dX3_move_288 : decode cX3_move 288 = .ok (.iload 9, 2) := by decide +kernel
theorem dX3_move_290 : decode cX3_move 290 = .ok (.dup2, 1) := by decide +kernel
theorem dX3_move_291 : decode cX3_move 291 = .ok (.iaload, 1) := by decide +kernel
theorem dX3_move_292 : decode cX3_move 292 = .ok (.iload 6, 2) := by decide +kernel
theorem dX3_move_294 : decode cX3_move 294 = .ok (.iadd, 1) := by decide +kernel
theorem dX3_move_295 : decode cX3_move 295 = .ok (.iastore, 1) := by decide +kernel
theorem dX3_move_296 : decode cX3_move 296 = .ok (.iinc 8 1, 3) := by decide +kernel
theorem dX3_move_299 : decode cX3_move 299 = .ok (.iinc 9 1, 3) := by decide +kernel
theorem dX3_move_302 : decode cX3_move 302 = .ok (.goto (-164), 3) := by decide +kernel
theorem dX3_move_305 : decode cX3_move 305 = .ok (.iload 8, 2) := by decide +kernel
theorem dX3_move_307 : decode cX3_move 307 = .ok (.ireturn, 1) := by decide +kernel
abbrev cX3_isIn : ByteArray := prog_5_method_25_code
abbrev yX3_isIn : MethodName := ⟨"RangeReadersModel", "isIn", "(IIIIII)Z"⟩
theorem hd_X3_isIn : (yX3_isIn).cls ≠ "java/lang/invoke/MethodHandle" ∧ (yX3_isIn).cls ≠ "java/lang/invoke/VarHandle" ∧ (parseMethodDescriptor (yX3_isIn).desc).map (fun d => d.parameters.length) = some 6 := by decide +kernel
theorem dX3_isIn_0 : decode cX3_isIn 0 = .ok (.aload_n 0, 1) := by decide +kernel
theorem dX3_isIn_1 : decode cX3_isIn 1 = .ok (.getfield 7, 3) := by decide +kernel
theorem dX3_isIn_4 : decode cX3_isIn 4 = .ok (.iload_n 1, 1) := by decide +kernel
theorem dX3_isIn_5 : decode cX3_isIn 5 = .ok (.baload, 1) := by decide +kernel
theorem dX3_isIn_6 : decode cX3_isIn 6 = .ok (.ifCond .eq 60, 3) := by decide +kernel
theorem dX3_isIn_9 : decode cX3_isIn 9 = .ok (.aload_n 0, 1) := by decide +kernel
theorem dX3_isIn_10 : decode cX3_isIn 10 = .ok (.getfield 13, 3) := by decide +kernel
theorem dX3_isIn_13 : decode cX3_isIn 13 = .ok (.iload_n 1, 1) := by decide +kernel
theorem dX3_isIn_14 : decode cX3_isIn 14 = .ok (.iaload, 1) := by decide +kernel
theorem dX3_isIn_15 : decode cX3_isIn 15 = .ok (.iload_n 2, 1) := by decide +kernel
theorem dX3_isIn_16 : decode cX3_isIn 16 = .ok (.if_icmp .ne 50, 3) := by decide +kernel
theorem dX3_isIn_19 : decode cX3_isIn 19 = .ok (.aload_n 0, 1) := by decide +kernel
theorem dX3_isIn_20 : decode cX3_isIn 20 = .ok (.getfield 17, 3) := by decide +kernel
theorem dX3_isIn_23 : decode cX3_isIn 23 = .ok (.iload_n 1, 1) := by decide +kernel
theorem dX3_isIn_24 : decode cX3_isIn 24 = .ok (.iaload, 1) := by decide +kernel
theorem dX3_isIn_25 : decode cX3_isIn 25 = .ok (.iload_n 3, 1) := by decide +kernel
theorem dX3_isIn_26 : decode cX3_isIn 26 = .ok (.if_icmp .lt 40, 3) := by decide +kernel
theorem dX3_isIn_29 : decode cX3_isIn 29 = .ok (.aload_n 0, 1) := by decide +kernel
theorem dX3_isIn_30 : decode cX3_isIn 30 = .ok (.getfield 23, 3) := by decide +kernel
theorem dX3_isIn_33 : decode cX3_isIn 33 = .ok (.iload_n 1, 1) := by decide +kernel
theorem dX3_isIn_34 : decode cX3_isIn 34 = .ok (.iaload, 1) := by decide +kernel
theorem dX3_isIn_35 : decode cX3_isIn 35 = .ok (.iload 5, 2) := by decide +kernel
theorem dX3_isIn_37 : decode cX3_isIn 37 = .ok (.if_icmp .gt 29, 3) := by decide +kernel
theorem dX3_isIn_40 : decode cX3_isIn 40 = .ok (.aload_n 0, 1) := by decide +kernel
theorem dX3_isIn_41 : decode cX3_isIn 41 = .ok (.getfield 20, 3) := by decide +kernel
theorem dX3_isIn_44 : decode cX3_isIn 44 = .ok (.iload_n 1, 1) := by decide +kernel
theorem dX3_isIn_45 : decode cX3_isIn 45 = .ok (.iaload, 1) := by decide +kernel
theorem dX3_isIn_46 : decode cX3_isIn 46 = .ok (.iload 4, 2) := by decide +kernel
theorem dX3_isIn_48 : decode cX3_isIn 48 = .ok (.if_icmp .lt 18, 3) := by decide +kernel
theorem dX3_isIn_51 : decode cX3_isIn 51 = .ok (.aload_n 0, 1) := by decide +kernel
theorem dX3_isIn_52 : decode cX3_isIn 52 = .ok (.getfield 26, 3) := by decide +kernel
theorem dX3_isIn_55 : decode cX3_isIn 55 = .ok (.iload_n 1, 1) := by decide +kernel
theorem dX3_isIn_56 : decode cX3_isIn 56 = .ok (.iaload, 1) := by decide +kernel
theorem dX3_isIn_57 : decode cX3_isIn 57 = .ok (.iload 6, 2) := by decide +kernel
theorem dX3_isIn_59 : decode cX3_isIn 59 = .ok (.if_icmp .gt 7, 3) := by decide +kernel
theorem dX3_isIn_62 : decode cX3_isIn 62 = .ok (.iconst 1, 1) := by decide +kernel
theorem dX3_isIn_63 : decode cX3_isIn 63 = .ok (.goto 4, 3) := by decide +kernel
theorem dX3_isIn_66 : decode cX3_isIn 66 = .ok (.iconst 0, 1) := by decide +kernel
theorem dX3_isIn_67 : decode cX3_isIn 67 = .ok (.ireturn, 1) := by decide +kernel
