abbrev cX0_init : ByteArray := prog_2_method_1_code
abbrev yX0_init : MethodName := ⟨"RangeReaders$Area", "<init>", "(IIIII)V"⟩
theorem hd_X0_init : (yX0_init).cls ≠ "java/lang/invoke/MethodHandle" ∧ (yX0_init).cls ≠ "java/lang/invoke/VarHandle" ∧ (parseMethodDescriptor (yX0_init).desc).map (fun d => d.parameters.length) = some 5 := by decide +kernel
theorem dX0_init_0 : decode cX0_init 0 = .ok (.aload_n 0, 1) := by decide +kernel
theorem dX0_init_1 : decode cX0_init 1 = .ok (.invokespecial 1, 3) := by decide +kernel
theorem dX0_init_4 : decode cX0_init 4 = .ok (.aload_n 0, 1) := by decide +kernel
theorem dX0_init_5 : decode cX0_init 5 = .ok (.iload_n 1, 1) := by decide +kernel
theorem dX0_init_6 : decode cX0_init 6 = .ok (.putfield 7, 3) := by decide +kernel
theorem dX0_init_9 : decode cX0_init 9 = .ok (.aload_n 0, 1) := by decide +kernel
theorem dX0_init_10 : decode cX0_init 10 = .ok (.iload_n 2, 1) := by decide +kernel
theorem dX0_init_11 : decode cX0_init 11 = .ok (.putfield 13, 3) := by decide +kernel
theorem dX0_init_14 : decode cX0_init 14 = .ok (.aload_n 0, 1) := by decide +kernel
theorem dX0_init_15 : decode cX0_init 15 = .ok (.iload_n 3, 1) := by decide +kernel
theorem dX0_init_16 : decode cX0_init 16 = .ok (.putfield 16, 3) := by decide +kernel
theorem dX0_init_19 : decode cX0_init 19 = .ok (.aload_n 0, 1) := by decide +kernel
theorem dX0_init_20 : decode cX0_init 20 = .ok (.iload 4, 2) := by decide +kernel
theorem dX0_init_22 : decode cX0_init 22 = .ok (.putfield 19, 3) := by decide +kernel
theorem dX0_init_25 : decode cX0_init 25 = .ok (.aload_n 0, 1) := by decide +kernel
theorem dX0_init_26 : decode cX0_init 26 = .ok (.iload 5, 2) := by decide +kernel
theorem dX0_init_28 : decode cX0_init 28 = .ok (.putfield 22, 3) := by decide +kernel
theorem dX0_init_31 : decode cX0_init 31 = .ok (.return_, 1) := by decide +kernel
abbrev cX0_copy : ByteArray := prog_2_method_2_code
abbrev yX0_copy : MethodName := ⟨"RangeReaders$Area", "copy", "()LRangeReaders$Area;"⟩
theorem hd_X0_copy : (yX0_copy).cls ≠ "java/lang/invoke/MethodHandle" ∧ (yX0_copy).cls ≠ "java/lang/invoke/VarHandle" ∧ (parseMethodDescriptor (yX0_copy).desc).map (fun d => d.parameters.length) = some 0 := by decide +kernel
theorem dX0_copy_0 : decode cX0_copy 0 = .ok (.new 8, 3) := by decide +kernel
theorem dX0_copy_3 : decode cX0_copy 3 = .ok (.dup, 1) := by decide +kernel
theorem dX0_copy_4 : decode cX0_copy 4 = .ok (.aload_n 0, 1) := by decide +kernel
theorem dX0_copy_5 : decode cX0_copy 5 = .ok (.getfield 7, 3) := by decide +kernel
theorem dX0_copy_8 : decode cX0_copy 8 = .ok (.aload_n 0, 1) := by decide +kernel
theorem dX0_copy_9 : decode cX0_copy 9 = .ok (.getfield 13, 3) := by decide +kernel
theorem dX0_copy_12 : decode cX0_copy 12 = .ok (.aload_n 0, 1) := by decide +kernel
theorem dX0_copy_13 : decode cX0_copy 13 = .ok (.getfield 16, 3) := by decide +kernel
theorem dX0_copy_16 : decode cX0_copy 16 = .ok (.aload_n 0, 1) := by decide +kernel
theorem dX0_copy_17 : decode cX0_copy 17 = .ok (.getfield 19, 3) := by decide +kernel
theorem dX0_copy_20 : decode cX0_copy 20 = .ok (.aload_n 0, 1) := by decide +kernel
theorem dX0_copy_21 : decode cX0_copy 21 = .ok (.getfield 22, 3) := by decide +kernel
theorem dX0_copy_24 : decode cX0_copy 24 = .ok (.invokespecial 25, 3) := by decide +kernel
theorem dX0_copy_27 : decode cX0_copy 27 = .ok (.areturn, 1) := by decide +kernel
abbrev cX0_meets : ByteArray := prog_2_method_8_code
abbrev yX0_meets : MethodName := ⟨"RangeReaders$Area", "meets", "(LRangeReaders$Area;)Z"⟩
theorem hd_X0_meets : (yX0_meets).cls ≠ "java/lang/invoke/MethodHandle" ∧ (yX0_meets).cls ≠ "java/lang/invoke/VarHandle" ∧ (parseMethodDescriptor (yX0_meets).desc).map (fun d => d.parameters.length) = some 1 := by decide +kernel
theorem dX0_meets_0 : decode cX0_meets 0 = .ok (.aload_n 0, 1) := by decide +kernel
theorem dX0_meets_1 : decode cX0_meets 1 = .ok (.getfield 7, 3) := by decide +kernel
theorem dX0_meets_4 : decode cX0_meets 4 = .ok (.aload_n 1, 1) := by decide +kernel
theorem dX0_meets_5 : decode cX0_meets 5 = .ok (.getfield 7, 3) := by decide +kernel
theorem dX0_meets_8 : decode cX0_meets 8 = .ok (.if_icmp .ne 51, 3) := by decide +kernel
theorem dX0_meets_11 : decode cX0_meets 11 = .ok (.aload_n 0, 1) := by decide +kernel
theorem dX0_meets_12 : decode cX0_meets 12 = .ok (.getfield 13, 3) := by decide +kernel
theorem dX0_meets_15 : decode cX0_meets 15 = .ok (.aload_n 1, 1) := by decide +kernel
theorem dX0_meets_16 : decode cX0_meets 16 = .ok (.getfield 19, 3) := by decide +kernel
theorem dX0_meets_19 : decode cX0_meets 19 = .ok (.if_icmp .gt 40, 3) := by decide +kernel
theorem dX0_meets_22 : decode cX0_meets 22 = .ok (.aload_n 1, 1) := by decide +kernel
theorem dX0_meets_23 : decode cX0_meets 23 = .ok (.getfield 13, 3) := by decide +kernel
theorem dX0_meets_26 : decode cX0_meets 26 = .ok (.aload_n 0, 1) := by decide +kernel
theorem dX0_meets_27 : decode cX0_meets 27 = .ok (.getfield 19, 3) := by decide +kernel
theorem dX0_meets_30 : decode cX0_meets 30 = .ok (.if_icmp .gt 29, 3) := by decide +kernel
theorem dX0_meets_33 : decode cX0_meets 33 = .ok (.aload_n 0, 1) := by decide +kernel
theorem dX0_meets_34 : decode cX0_meets 34 = .ok (.getfield 16, 3) := by decide +kernel
theorem dX0_meets_37 : decode cX0_meets 37 = .ok (.aload_n 1, 1) := by decide +kernel
theorem dX0_meets_38 : decode cX0_meets 38 = .ok (.getfield 22, 3) := by decide +kernel
theorem dX0_meets_41 : decode cX0_meets 41 = .ok (.if_icmp .gt 18, 3) := by decide +kernel
theorem dX0_meets_44 : decode cX0_meets 44 = .ok (.aload_n 1, 1) := by decide +kernel
theorem dX0_meets_45 : decode cX0_meets 45 = .ok (.getfield 16, 3) := by decide +kernel
theorem dX0_meets_48 : decode cX0_meets 48 = .ok (.aload_n 0, 1) := by decide +kernel
theorem dX0_meets_49 : decode cX0_meets 49 = .ok (.getfield 22, 3) := by decide +kernel
theorem dX0_meets_52 : decode cX0_meets 52 = .ok (.if_icmp .gt 7, 3) := by decide +kernel
theorem dX0_meets_55 : decode cX0_meets 55 = .ok (.iconst 1, 1) := by decide +kernel
theorem dX0_meets_56 : decode cX0_meets 56 = .ok (.goto 4, 3) := by decide +kernel
theorem dX0_meets_59 : decode cX0_meets 59 = .ok (.iconst 0, 1) := by decide +kernel
theorem dX0_meets_60 : decode cX0_meets 60 = .ok (.ireturn, 1) := by decide +kernel
abbrev cX0_yieldsTo : ByteArray := prog_2_method_7_code
abbrev yX0_yieldsTo : MethodName := ⟨"RangeReaders$Area", "yieldsTo", "(IZ)Z"⟩
theorem hd_X0_yieldsTo : (yX0_yieldsTo).cls ≠ "java/lang/invoke/MethodHandle" ∧ (yX0_yieldsTo).cls ≠ "java/lang/invoke/VarHandle" ∧ (parseMethodDescriptor (yX0_yieldsTo).desc).map (fun d => d.parameters.length) = some 2 := by decide +kernel
theorem dX0_yieldsTo_0 : decode cX0_yieldsTo 0 = .ok (.aload_n 0, 1) := by decide +kernel
theorem dX0_yieldsTo_1 : decode cX0_yieldsTo 1 = .ok (.iload_n 2, 1) := by decide +kernel
theorem dX0_yieldsTo_2 : decode cX0_yieldsTo 2 = .ok (.invokevirtual 28, 3) := by decide +kernel
theorem dX0_yieldsTo_5 : decode cX0_yieldsTo 5 = .ok (.iconst 1, 1) := by decide +kernel
theorem dX0_yieldsTo_6 : decode cX0_yieldsTo 6 = .ok (.if_icmp .ne 19, 3) := by decide +kernel
theorem dX0_yieldsTo_9 : decode cX0_yieldsTo 9 = .ok (.aload_n 0, 1) := by decide +kernel
theorem dX0_yieldsTo_10 : decode cX0_yieldsTo 10 = .ok (.iload_n 2, 1) := by decide +kernel
theorem dX0_yieldsTo_11 : decode cX0_yieldsTo 11 = .ok (.invokevirtual 32, 3) := by decide +kernel
theorem dX0_yieldsTo_14 : decode cX0_yieldsTo 14 = .ok (.iload_n 2, 1) := by decide +kernel
theorem dX0_yieldsTo_15 : decode cX0_yieldsTo 15 = .ok (.invokestatic 35, 3) := by decide +kernel
theorem dX0_yieldsTo_18 : decode cX0_yieldsTo 18 = .ok (.if_icmp .ne 7, 3) := by decide +kernel
theorem dX0_yieldsTo_21 : decode cX0_yieldsTo 21 = .ok (.iconst 1, 1) := by decide +kernel
theorem dX0_yieldsTo_22 : decode cX0_yieldsTo 22 = .ok (.goto 4, 3) := by decide +kernel
theorem dX0_yieldsTo_25 : decode cX0_yieldsTo 25 = .ok (.iconst 0, 1) := by decide +kernel
theorem dX0_yieldsTo_26 : decode cX0_yieldsTo 26 = .ok (.istore_n 3, 1) := by decide +kernel
theorem dX0_yieldsTo_27 : decode cX0_yieldsTo 27 = .ok (.aload_n 0, 1) := by decide +kernel
theorem dX0_yieldsTo_28 : decode cX0_yieldsTo 28 = .ok (.getfield 7, 3) := by decide +kernel
theorem dX0_yieldsTo_31 : decode cX0_yieldsTo 31 = .ok (.iload_n 1, 1) := by decide +kernel
theorem dX0_yieldsTo_32 : decode cX0_yieldsTo 32 = .ok (.if_icmp .ne 11, 3) := by decide +kernel
theorem dX0_yieldsTo_35 : decode cX0_yieldsTo 35 = .ok (.iload_n 3, 1) := by decide +kernel
theorem dX0_yieldsTo_36 : decode cX0_yieldsTo 36 = .ok (.ifCond .ne 7, 3) := by decide +kernel
theorem dX0_yieldsTo_39 : decode cX0_yieldsTo 39 = .ok (.iconst 1, 1) := by decide +kernel
theorem dX0_yieldsTo_40 : decode cX0_yieldsTo 40 = .ok (.goto 4, 3) := by decide +kernel
theorem dX0_yieldsTo_43 : decode cX0_yieldsTo 43 = .ok (.iconst 0, 1) := by decide +kernel
theorem dX0_yieldsTo_44 : decode cX0_yieldsTo 44 = .ok (.ireturn, 1) := by decide +kernel
abbrev cX0_first : ByteArray := prog_2_method_3_code
abbrev yX0_first : MethodName := ⟨"RangeReaders$Area", "first", "(Z)I"⟩
theorem hd_X0_first : (yX0_first).cls ≠ "java/lang/invoke/MethodHandle" ∧ (yX0_first).cls ≠ "java/lang/invoke/VarHandle" ∧ (parseMethodDescriptor (yX0_first).desc).map (fun d => d.parameters.length) = some 1 := by decide +kernel
theorem dX0_first_0 : decode cX0_first 0 = .ok (.iload_n 1, 1) := by decide +kernel
theorem dX0_first_1 : decode cX0_first 1 = .ok (.ifCond .eq 10, 3) := by decide +kernel
theorem dX0_first_4 : decode cX0_first 4 = .ok (.aload_n 0, 1) := by decide +kernel
theorem dX0_first_5 : decode cX0_first 5 = .ok (.getfield 16, 3) := by decide +kernel
theorem dX0_first_8 : decode cX0_first 8 = .ok (.goto 7, 3) := by decide +kernel
theorem dX0_first_11 : decode cX0_first 11 = .ok (.aload_n 0, 1) := by decide +kernel
theorem dX0_first_12 : decode cX0_first 12 = .ok (.getfield 13, 3) := by decide +kernel
theorem dX0_first_15 : decode cX0_first 15 = .ok (.ireturn, 1) := by decide +kernel
abbrev cX0_last : ByteArray := prog_2_method_4_code
abbrev yX0_last : MethodName := ⟨"RangeReaders$Area", "last", "(Z)I"⟩
theorem hd_X0_last : (yX0_last).cls ≠ "java/lang/invoke/MethodHandle" ∧ (yX0_last).cls ≠ "java/lang/invoke/VarHandle" ∧ (parseMethodDescriptor (yX0_last).desc).map (fun d => d.parameters.length) = some 1 := by decide +kernel
theorem dX0_last_0 : decode cX0_last 0 = .ok (.iload_n 1, 1) := by decide +kernel
theorem dX0_last_1 : decode cX0_last 1 = .ok (.ifCond .eq 10, 3) := by decide +kernel
theorem dX0_last_4 : decode cX0_last 4 = .ok (.aload_n 0, 1) := by decide +kernel
theorem dX0_last_5 : decode cX0_last 5 = .ok (.getfield 22, 3) := by decide +kernel
theorem dX0_last_8 : decode cX0_last 8 = .ok (.goto 7, 3) := by decide +kernel
theorem dX0_last_11 : decode cX0_last 11 = .ok (.aload_n 0, 1) := by decide +kernel
theorem dX0_last_12 : decode cX0_last 12 = .ok (.getfield 19, 3) := by decide +kernel
theorem dX0_last_15 : decode cX0_last 15 = .ok (.ireturn, 1) := by decide +kernel
abbrev cX0_setLines : ByteArray := prog_2_method_5_code
abbrev yX0_setLines : MethodName := ⟨"RangeReaders$Area", "setLines", "(ZII)V"⟩
theorem hd_X0_setLines : (yX0_setLines).cls ≠ "java/lang/invoke/MethodHandle" ∧ (yX0_setLines).cls ≠ "java/lang/invoke/VarHandle" ∧ (parseMethodDescriptor (yX0_setLines).desc).map (fun d => d.parameters.length) = some 3 := by decide +kernel
theorem dX0_setLines_0 : decode cX0_setLines 0 = .ok (.iload_n 1, 1) := by decide +kernel
theorem dX0_setLines_1 : decode cX0_setLines 1 = .ok (.ifCond .eq 16, 3) := by decide +kernel
theorem dX0_setLines_4 : decode cX0_setLines 4 = .ok (.aload_n 0, 1) := by decide +kernel
theorem dX0_setLines_5 : decode cX0_setLines 5 = .ok (.iload_n 2, 1) := by decide +kernel
theorem dX0_setLines_6 : decode cX0_setLines 6 = .ok (.putfield 16, 3) := by decide +kernel
theorem dX0_setLines_9 : decode cX0_setLines 9 = .ok (.aload_n 0, 1) := by decide +kernel
theorem dX0_setLines_10 : decode cX0_setLines 10 = .ok (.iload_n 3, 1) := by decide +kernel
theorem dX0_setLines_11 : decode cX0_setLines 11 = .ok (.putfield 22, 3) := by decide +kernel
theorem dX0_setLines_14 : decode cX0_setLines 14 = .ok (.goto 13, 3) := by decide +kernel
theorem dX0_setLines_17 : decode cX0_setLines 17 = .ok (.aload_n 0, 1) := by decide +kernel
theorem dX0_setLines_18 : decode cX0_setLines 18 = .ok (.iload_n 2, 1) := by decide +kernel
theorem dX0_setLines_19 : decode cX0_setLines 19 = .ok (.putfield 13, 3) := by decide +kernel
theorem dX0_setLines_22 : decode cX0_setLines 22 = .ok (.aload_n 0, 1) := by decide +kernel
theorem dX0_setLines_23 : decode cX0_setLines 23 = .ok (.iload_n 3, 1) := by decide +kernel
theorem dX0_setLines_24 : decode cX0_setLines 24 = .ok (.putfield 19, 3) := by decide +kernel
theorem dX0_setLines_27 : decode cX0_setLines 27 = .ok (.return_, 1) := by decide +kernel
abbrev cX0_shift : ByteArray := prog_2_method_6_code
abbrev yX0_shift : MethodName := ⟨"RangeReaders$Area", "shift", "(III)V"⟩
theorem hd_X0_shift : (yX0_shift).cls ≠ "java/lang/invoke/MethodHandle" ∧ (yX0_shift).cls ≠ "java/lang/invoke/VarHandle" ∧ (parseMethodDescriptor (yX0_shift).desc).map (fun d => d.parameters.length) = some 3 := by decide +kernel
theorem dX0_shift_0 : decode cX0_shift 0 = .ok (.aload_n 0, 1) := by decide +kernel
theorem dX0_shift_1 : decode cX0_shift 1 = .ok (.iload_n 1, 1) := by decide +kernel
theorem dX0_shift_2 : decode cX0_shift 2 = .ok (.putfield 7, 3) := by decide +kernel
theorem dX0_shift_5 : decode cX0_shift 5 = .ok (.aload_n 0, 1) := by decide +kernel
theorem dX0_shift_6 : decode cX0_shift 6 = .ok (.dup, 1) := by decide +kernel
theorem dX0_shift_7 : decode cX0_shift 7 = .ok (.getfield 13, 3) := by decide +kernel
theorem dX0_shift_10 : decode cX0_shift 10 = .ok (.iload_n 2, 1) := by decide +kernel
theorem dX0_shift_11 : decode cX0_shift 11 = .ok (.iadd, 1) := by decide +kernel
theorem dX0_shift_12 : decode cX0_shift 12 = .ok (.putfield 13, 3) := by decide +kernel
theorem dX0_shift_15 : decode cX0_shift 15 = .ok (.aload_n 0, 1) := by decide +kernel
theorem dX0_shift_16 : decode cX0_shift 16 = .ok (.dup, 1) := by decide +kernel
theorem dX0_shift_17 : decode cX0_shift 17 = .ok (.getfield 19, 3) := by decide +kernel
theorem dX0_shift_20 : decode cX0_shift 20 = .ok (.iload_n 2, 1) := by decide +kernel
theorem dX0_shift_21 : decode cX0_shift 21 = .ok (.iadd, 1) := by decide +kernel
theorem dX0_shift_22 : decode cX0_shift 22 = .ok (.putfield 19, 3) := by decide +kernel
theorem dX0_shift_25 : decode cX0_shift 25 = .ok (.aload_n 0, 1) := by decide +kernel
theorem dX0_shift_26 : decode cX0_shift 26 = .ok (.dup, 1) := by decide +kernel
theorem dX0_shift_27 : decode cX0_shift 27 = .ok (.getfield 16, 3) := by decide +kernel
theorem dX0_shift_30 : decode cX0_shift 30 = .ok (.iload_n 3, 1) := by decide +kernel
theorem dX0_shift_31 : decode cX0_shift 31 = .ok (.iadd, 1) := by decide +kernel
theorem dX0_shift_32 : decode cX0_shift 32 = .ok (.putfield 16, 3) := by decide +kernel
theorem dX0_shift_35 : decode cX0_shift 35 = .ok (.aload_n 0, 1) := by decide +kernel
theorem dX0_shift_36 : decode cX0_shift 36 = .ok (.dup, 1) := by decide +kernel
theorem dX0_shift_37 : decode cX0_shift 37 = .ok (.getfield 22, 3) := by decide +kernel
theorem dX0_shift_40 : decode cX0_shift 40 = .ok (.iload_n 3, 1) := by decide +kernel
theorem dX0_shift_41 : decode cX0_shift 41 = .ok (.iadd, 1) := by decide +kernel
theorem dX0_shift_42 : decode cX0_shift 42 = .ok (.putfield 22, 3) := by decide +kernel
theorem dX0_shift_45 : decode cX0_shift 45 = .ok (.return_, 1) := by decide +kernel
abbrev cX0_liesIn : ByteArray := prog_2_method_9_code
abbrev yX0_liesIn : MethodName := ⟨"RangeReaders$Area", "liesIn", "(LRangeReaders$Area;)Z"⟩
theorem hd_X0_liesIn : (yX0_liesIn).cls ≠ "java/lang/invoke/MethodHandle" ∧ (yX0_liesIn).cls ≠ "java/lang/invoke/VarHandle" ∧ (parseMethodDescriptor (yX0_liesIn).desc).map (fun d => d.parameters.length) = some 1 := by decide +kernel
theorem dX0_liesIn_0 : decode cX0_liesIn 0 = .ok (.aload_n 0, 1) := by decide +kernel
theorem dX0_liesIn_1 : decode cX0_liesIn 1 = .ok (.getfield 7, 3) := by decide +kernel
theorem dX0_liesIn_4 : decode cX0_liesIn 4 = .ok (.aload_n 1, 1) := by decide +kernel
theorem dX0_liesIn_5 : decode cX0_liesIn 5 = .ok (.getfield 7, 3) := by decide +kernel
theorem dX0_liesIn_8 : decode cX0_liesIn 8 = .ok (.if_icmp .ne 51, 3) := by decide +kernel
theorem dX0_liesIn_11 : decode cX0_liesIn 11 = .ok (.aload_n 1, 1) := by decide +kernel
theorem dX0_liesIn_12 : decode cX0_liesIn 12 = .ok (.getfield 13, 3) := by decide +kernel
theorem dX0_liesIn_15 : decode cX0_liesIn 15 = .ok (.aload_n 0, 1) := by decide +kernel
theorem dX0_liesIn_16 : decode cX0_liesIn 16 = .ok (.getfield 13, 3) := by decide +kernel
theorem dX0_liesIn_19 : decode cX0_liesIn 19 = .ok (.if_icmp .gt 40, 3) := by decide +kernel
theorem dX0_liesIn_22 : decode cX0_liesIn 22 = .ok (.aload_n 0, 1) := by decide +kernel
theorem dX0_liesIn_23 : decode cX0_liesIn 23 = .ok (.getfield 19, 3) := by decide +kernel
theorem dX0_liesIn_26 : decode cX0_liesIn 26 = .ok (.aload_n 1, 1) := by decide +kernel
theorem dX0_liesIn_27 : decode cX0_liesIn 27 = .ok (.getfield 19, 3) := by decide +kernel
theorem dX0_liesIn_30 : decode cX0_liesIn 30 = .ok (.if_icmp .gt 29, 3) := by decide +kernel
theorem dX0_liesIn_33 : decode cX0_liesIn 33 = .ok (.aload_n 1, 1) := by decide +kernel
theorem dX0_liesIn_34 : decode cX0_liesIn 34 = .ok (.getfield 16, 3) := by decide +kernel
theorem dX0_liesIn_37 : decode cX0_liesIn 37 = .ok (.aload_n 0, 1) := by decide +kernel
theorem dX0_liesIn_38 : decode cX0_liesIn 38 = .ok (.getfield 16, 3) := by decide +kernel
theorem dX0_liesIn_41 : decode cX0_liesIn 41 = .ok (.if_icmp .gt 18, 3) := by decide +kernel
theorem dX0_liesIn_44 : decode cX0_liesIn 44 = .ok (.aload_n 0, 1) := by decide +kernel
theorem dX0_liesIn_45 : decode cX0_liesIn 45 = .ok (.getfield 22, 3) := by decide +kernel
theorem dX0_liesIn_48 : decode cX0_liesIn 48 = .ok (.aload_n 1, 1) := by decide +kernel
theorem dX0_liesIn_49 : decode cX0_liesIn 49 = .ok (.getfield 22, 3) := by decide +kernel
theorem dX0_liesIn_52 : decode cX0_liesIn 52 = .ok (.if_icmp .gt 7, 3) := by decide +kernel
theorem dX0_liesIn_55 : decode cX0_liesIn 55 = .ok (.iconst 1, 1) := by decide +kernel
theorem dX0_liesIn_56 : decode cX0_liesIn 56 = .ok (.goto 4, 3) := by decide +kernel
theorem dX0_liesIn_59 : decode cX0_liesIn 59 = .ok (.iconst 0, 1) := by decide +kernel
theorem dX0_liesIn_60 : decode cX0_liesIn 60 = .ok (.ireturn, 1) := by decide +kernel
abbrev cX1_init : ByteArray := prog_3_method_1_code
abbrev yX1_init : MethodName := ⟨"RangeReaders$Entry", "<init>", "(LRangeReaders$Area;I)V"⟩
theorem hd_X1_init : (yX1_init).cls ≠ "java/lang/invoke/MethodHandle" ∧ (yX1_init).cls ≠ "java/lang/invoke/VarHandle" ∧ (parseMethodDescriptor (yX1_init).desc).map (fun d => d.parameters.length) = some 2 := by decide +kernel
theorem dX1_init_0 : decode cX1_init 0 = .ok (.aload_n 0, 1) := by decide +kernel
theorem dX1_init_1 : decode cX1_init 1 = .ok (.invokespecial 1, 3) := by decide +kernel
theorem dX1_init_4 : decode cX1_init 4 = .ok (.aload_n 0, 1) := by decide +kernel
theorem dX1_init_5 : decode cX1_init 5 = .ok (.aload_n 1, 1) := by decide +kernel
theorem dX1_init_6 : decode cX1_init 6 = .ok (.putfield 7, 3) := by decide +kernel
theorem dX1_init_9 : decode cX1_init 9 = .ok (.aload_n 0, 1) := by decide +kernel
theorem dX1_init_10 : decode cX1_init 10 = .ok (.iload_n 2, 1) := by decide +kernel
theorem dX1_init_11 : decode cX1_init 11 = .ok (.putfield 13, 3) := by decide +kernel
theorem dX1_init_14 : decode cX1_init 14 = .ok (.return_, 1) := by decide +kernel
