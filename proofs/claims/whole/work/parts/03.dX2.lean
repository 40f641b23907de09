abbrev cX2_init : ByteArray := prog_1_method_1_code
abbrev yX2_init : MethodName := ⟨"RangeReaders", "<init>", "()V"⟩
theorem hd_X2_init : (yX2_init).cls ≠ "java/lang/invoke/MethodHandle" ∧ (yX2_init).cls ≠ "java/lang/invoke/VarHandle" ∧ (parseMethodDescriptor (yX2_init).desc).map (fun d => d.parameters.length) = some 0 := by decide +kernel
theorem dX2_init_0 : decode cX2_init 0 = .ok (.aload_n 0, 1) := by decide +kernel
theorem dX2_init_1 : decode cX2_init 1 = .ok (.invokespecial 1, 3) := by decide +kernel
theorem dX2_init_4 : decode cX2_init 4 = .ok (.aload_n 0, 1) := by decide +kernel
theorem dX2_init_5 : decode cX2_init 5 = .ok (.aconst_null, 1) := by decide +kernel
theorem dX2_init_6 : decode cX2_init 6 = .ok (.putfield 7, 3) := by decide +kernel
theorem dX2_init_9 : decode cX2_init 9 = .ok (.aload_n 0, 1) := by decide +kernel
theorem dX2_init_10 : decode cX2_init 10 = .ok (.bipush 16, 2) := by decide +kernel
theorem dX2_init_12 : decode cX2_init 12 = .ok (.anewarray 13, 3) := by decide +kernel
theorem dX2_init_15 : decode cX2_init 15 = .ok (.putfield 15, 3) := by decide +kernel
theorem dX2_init_18 : decode cX2_init 18 = .ok (.aload_n 0, 1) := by decide +kernel
theorem dX2_init_19 : decode cX2_init 19 = .ok (.iconst 0, 1) := by decide +kernel
theorem dX2_init_20 : decode cX2_init 20 = .ok (.putfield 19, 3) := by decide +kernel
theorem dX2_init_23 : decode cX2_init 23 = .ok (.aload_n 0, 1) := by decide +kernel
theorem dX2_init_24 : decode cX2_init 24 = .ok (.bipush 16, 2) := by decide +kernel
theorem dX2_init_26 : decode cX2_init 26 = .ok (.newarray .int, 2) := by decide +kernel
theorem dX2_init_28 : decode cX2_init 28 = .ok (.putfield 23, 3) := by decide +kernel
theorem dX2_init_31 : decode cX2_init 31 = .ok (.aload_n 0, 1) := by decide +kernel
theorem dX2_init_32 : decode cX2_init 32 = .ok (.iconst 0, 1) := by decide +kernel
theorem dX2_init_33 : decode cX2_init 33 = .ok (.putfield 27, 3) := by decide +kernel
theorem dX2_init_36 : decode cX2_init 36 = .ok (.return_, 1) := by decide +kernel
abbrev cX2_rectangle : ByteArray := prog_1_method_2_code
abbrev yX2_rectangle : MethodName := ⟨"RangeReaders", "rectangle", "(IIIII)Z"⟩
theorem hd_X2_rectangle : (yX2_rectangle).cls ≠ "java/lang/invoke/MethodHandle" ∧ (yX2_rectangle).cls ≠ "java/lang/invoke/VarHandle" ∧ (parseMethodDescriptor (yX2_rectangle).desc).map (fun d => d.parameters.length) = some 5 := by decide +kernel
theorem dX2_rectangle_0 : decode cX2_rectangle 0 = .ok (.iload_n 1, 1) := by decide +kernel
theorem dX2_rectangle_1 : decode cX2_rectangle 1 = .ok (.iload_n 2, 1) := by decide +kernel
theorem dX2_rectangle_2 : decode cX2_rectangle 2 = .ok (.iload_n 3, 1) := by decide +kernel
theorem dX2_rectangle_3 : decode cX2_rectangle 3 = .ok (.invokestatic 30, 3) := by decide +kernel
theorem dX2_rectangle_6 : decode cX2_rectangle 6 = .ok (.ifCond .eq 18, 3) := by decide +kernel
theorem dX2_rectangle_9 : decode cX2_rectangle 9 = .ok (.iload_n 1, 1) := by decide +kernel
theorem dX2_rectangle_10 : decode cX2_rectangle 10 = .ok (.iload 4, 2) := by decide +kernel
theorem dX2_rectangle_12 : decode cX2_rectangle 12 = .ok (.iload 5, 2) := by decide +kernel
theorem dX2_rectangle_14 : decode cX2_rectangle 14 = .ok (.invokestatic 30, 3) := by decide +kernel
theorem dX2_rectangle_17 : decode cX2_rectangle 17 = .ok (.ifCond .eq 7, 3) := by decide +kernel
theorem dX2_rectangle_20 : decode cX2_rectangle 20 = .ok (.iconst 1, 1) := by decide +kernel
theorem dX2_rectangle_21 : decode cX2_rectangle 21 = .ok (.goto 4, 3) := by decide +kernel
theorem dX2_rectangle_24 : decode cX2_rectangle 24 = .ok (.iconst 0, 1) := by decide +kernel
theorem dX2_rectangle_25 : decode cX2_rectangle 25 = .ok (.istore 6, 2) := by decide +kernel
theorem dX2_rectangle_27 : decode cX2_rectangle 27 = .ok (.iload 6, 2) := by decide +kernel
theorem dX2_rectangle_29 : decode cX2_rectangle 29 = .ok (.ifCond .eq 15, 3) := by decide +kernel
theorem dX2_rectangle_32 : decode cX2_rectangle 32 = .ok (.iload 4, 2) := by decide +kernel
theorem dX2_rectangle_34 : decode cX2_rectangle 34 = .ok (.iload_n 2, 1) := by decide +kernel
theorem dX2_rectangle_35 : decode cX2_rectangle 35 = .ok (.if_icmp .lt 9, 3) := by decide +kernel
theorem dX2_rectangle_38 : decode cX2_rectangle 38 = .ok (.iload 5, 2) := by decide +kernel
theorem dX2_rectangle_40 : decode cX2_rectangle 40 = .ok (.iload_n 3, 1) := by decide +kernel
theorem dX2_rectangle_41 : decode cX2_rectangle 41 = .ok (.if_icmp .ge 5, 3) := by decide +kernel
theorem dX2_rectangle_44 : decode cX2_rectangle 44 = .ok (.iconst 0, 1) := by decide +kernel
theorem dX2_rectangle_45 : decode cX2_rectangle 45 = .ok (.ireturn, 1) := by decide +kernel
theorem dX2_rectangle_46 : decode cX2_rectangle 46 = .ok (.aload_n 0, 1) := by decide +kernel
theorem dX2_rectangle_47 : decode cX2_rectangle 47 = .ok (.new 34, 3) := by decide +kernel
theorem dX2_rectangle_50 : decode cX2_rectangle 50 = .ok (.dup, 1) := by decide +kernel
theorem dX2_rectangle_51 : decode cX2_rectangle 51 = .ok (.iload_n 1, 1) := by decide +kernel
theorem dX2_rectangle_52 : decode cX2_rectangle 52 = .ok (.iload_n 2, 1) := by decide +kernel
theorem dX2_rectangle_53 : decode cX2_rectangle 53 = .ok (.iload_n 3, 1) := by decide +kernel
theorem dX2_rectangle_54 : decode cX2_rectangle 54 = .ok (.iload 4, 2) := by decide +kernel
theorem dX2_rectangle_56 : decode cX2_rectangle 56 = .ok (.iload 5, 2) := by decide +kernel
theorem dX2_rectangle_58 : decode cX2_rectangle 58 = .ok (.invokespecial 36, 3) := by decide +kernel
theorem dX2_rectangle_61 : decode cX2_rectangle 61 = .ok (.putfield 7, 3) := by decide +kernel
theorem dX2_rectangle_64 : decode cX2_rectangle 64 = .ok (.iconst 1, 1) := by decide +kernel
theorem dX2_rectangle_65 : decode cX2_rectangle 65 = .ok (.ireturn, 1) := by decide +kernel
abbrev cX2_isCell : ByteArray := prog_1_method_17_code
abbrev yX2_isCell : MethodName := ⟨"RangeReaders", "isCell", "(III)Z"⟩
theorem hd_X2_isCell : (yX2_isCell).cls ≠ "java/lang/invoke/MethodHandle" ∧ (yX2_isCell).cls ≠ "java/lang/invoke/VarHandle" ∧ (parseMethodDescriptor (yX2_isCell).desc).map (fun d => d.parameters.length) = some 3 := by decide +kernel
theorem dX2_isCell_0 : decode cX2_isCell 0 = .ok (.iload_n 0, 1) := by decide +kernel
theorem dX2_isCell_1 : decode cX2_isCell 1 = .ok (.invokestatic 149, 3) := by decide +kernel
theorem dX2_isCell_4 : decode cX2_isCell 4 = .ok (.ifCond .eq 23, 3) := by decide +kernel
theorem dX2_isCell_7 : decode cX2_isCell 7 = .ok (.iconst 0, 1) := by decide +kernel
theorem dX2_isCell_8 : decode cX2_isCell 8 = .ok (.iload_n 1, 1) := by decide +kernel
theorem dX2_isCell_9 : decode cX2_isCell 9 = .ok (.invokestatic 153, 3) := by decide +kernel
theorem dX2_isCell_12 : decode cX2_isCell 12 = .ok (.ifCond .eq 15, 3) := by decide +kernel
theorem dX2_isCell_15 : decode cX2_isCell 15 = .ok (.iconst 1, 1) := by decide +kernel
theorem dX2_isCell_16 : decode cX2_isCell 16 = .ok (.iload_n 2, 1) := by decide +kernel
theorem dX2_isCell_17 : decode cX2_isCell 17 = .ok (.invokestatic 153, 3) := by decide +kernel
theorem dX2_isCell_20 : decode cX2_isCell 20 = .ok (.ifCond .eq 7, 3) := by decide +kernel
theorem dX2_isCell_23 : decode cX2_isCell 23 = .ok (.iconst 1, 1) := by decide +kernel
theorem dX2_isCell_24 : decode cX2_isCell 24 = .ok (.goto 4, 3) := by decide +kernel
theorem dX2_isCell_27 : decode cX2_isCell 27 = .ok (.iconst 0, 1) := by decide +kernel
theorem dX2_isCell_28 : decode cX2_isCell 28 = .ok (.ireturn, 1) := by decide +kernel
abbrev cX2_isSheet : ByteArray := prog_1_method_14_code
abbrev yX2_isSheet : MethodName := ⟨"RangeReaders", "isSheet", "(I)Z"⟩
theorem hd_X2_isSheet : (yX2_isSheet).cls ≠ "java/lang/invoke/MethodHandle" ∧ (yX2_isSheet).cls ≠ "java/lang/invoke/VarHandle" ∧ (parseMethodDescriptor (yX2_isSheet).desc).map (fun d => d.parameters.length) = some 1 := by decide +kernel
theorem dX2_isSheet_0 : decode cX2_isSheet 0 = .ok (.iload_n 0, 1) := by decide +kernel
theorem dX2_isSheet_1 : decode cX2_isSheet 1 = .ok (.ifCond .lt 13, 3) := by decide +kernel
theorem dX2_isSheet_4 : decode cX2_isSheet 4 = .ok (.iload_n 0, 1) := by decide +kernel
theorem dX2_isSheet_5 : decode cX2_isSheet 5 = .ok (.bipush 8, 2) := by decide +kernel
theorem dX2_isSheet_7 : decode cX2_isSheet 7 = .ok (.if_icmp .ge 7, 3) := by decide +kernel
theorem dX2_isSheet_10 : decode cX2_isSheet 10 = .ok (.iconst 1, 1) := by decide +kernel
theorem dX2_isSheet_11 : decode cX2_isSheet 11 = .ok (.goto 4, 3) := by decide +kernel
theorem dX2_isSheet_14 : decode cX2_isSheet 14 = .ok (.iconst 0, 1) := by decide +kernel
theorem dX2_isSheet_15 : decode cX2_isSheet 15 = .ok (.ireturn, 1) := by decide +kernel
abbrev cX2_isLine : ByteArray := prog_1_method_16_code
abbrev yX2_isLine : MethodName := ⟨"RangeReaders", "isLine", "(ZI)Z"⟩
theorem hd_X2_isLine : (yX2_isLine).cls ≠ "java/lang/invoke/MethodHandle" ∧ (yX2_isLine).cls ≠ "java/lang/invoke/VarHandle" ∧ (parseMethodDescriptor (yX2_isLine).desc).map (fun d => d.parameters.length) = some 2 := by decide +kernel
theorem dX2_isLine_0 : decode cX2_isLine 0 = .ok (.iload_n 1, 1) := by decide +kernel
theorem dX2_isLine_1 : decode cX2_isLine 1 = .ok (.iconst 1, 1) := by decide +kernel
theorem dX2_isLine_2 : decode cX2_isLine 2 = .ok (.if_icmp .lt 15, 3) := by decide +kernel
theorem dX2_isLine_5 : decode cX2_isLine 5 = .ok (.iload_n 1, 1) := by decide +kernel
theorem dX2_isLine_6 : decode cX2_isLine 6 = .ok (.iload_n 0, 1) := by decide +kernel
theorem dX2_isLine_7 : decode cX2_isLine 7 = .ok (.invokestatic 109, 3) := by decide +kernel
theorem dX2_isLine_10 : decode cX2_isLine 10 = .ok (.if_icmp .gt 7, 3) := by decide +kernel
theorem dX2_isLine_13 : decode cX2_isLine 13 = .ok (.iconst 1, 1) := by decide +kernel
theorem dX2_isLine_14 : decode cX2_isLine 14 = .ok (.goto 4, 3) := by decide +kernel
theorem dX2_isLine_17 : decode cX2_isLine 17 = .ok (.iconst 0, 1) := by decide +kernel
theorem dX2_isLine_18 : decode cX2_isLine 18 = .ok (.ireturn, 1) := by decide +kernel
abbrev cX2_lastLine : ByteArray := prog_1_method_15_code
abbrev yX2_lastLine : MethodName := ⟨"RangeReaders", "lastLine", "(Z)I"⟩
theorem hd_X2_lastLine : (yX2_lastLine).cls ≠ "java/lang/invoke/MethodHandle" ∧ (yX2_lastLine).cls ≠ "java/lang/invoke/VarHandle" ∧ (parseMethodDescriptor (yX2_lastLine).desc).map (fun d => d.parameters.length) = some 1 := by decide +kernel
theorem dX2_lastLine_0 : decode cX2_lastLine 0 = .ok (.iload_n 0, 1) := by decide +kernel
theorem dX2_lastLine_1 : decode cX2_lastLine 1 = .ok (.ifCond .eq 9, 3) := by decide +kernel
theorem dX2_lastLine_4 : decode cX2_lastLine 4 = .ok (.sipush 16384, 3) := by decide +kernel
theorem dX2_lastLine_7 : decode cX2_lastLine 7 = .ok (.goto 5, 3) := by decide +kernel
theorem dX2_lastLine_10 : decode cX2_lastLine 10 = .ok (.ldc 148, 2) := by decide +kernel
theorem dX2_lastLine_12 : decode cX2_lastLine 12 = .ok (.ireturn, 1) := by decide +kernel
abbrev cX2_remove : ByteArray := prog_1_method_4_code
abbrev yX2_remove : MethodName := ⟨"RangeReaders", "remove", "(I)Z"⟩
theorem hd_X2_remove : (yX2_remove).cls ≠ "java/lang/invoke/MethodHandle" ∧ (yX2_remove).cls ≠ "java/lang/invoke/VarHandle" ∧ (parseMethodDescriptor (yX2_remove).desc).map (fun d => d.parameters.length) = some 1 := by decide +kernel
theorem dX2_remove_0 : decode cX2_remove 0 = .ok (.aload_n 0, 1) := by decide +kernel
theorem dX2_remove_1 : decode cX2_remove 1 = .ok (.iload_n 1, 1) := by decide +kernel
theorem dX2_remove_2 : decode cX2_remove 2 = .ok (.invokevirtual 68, 3) := by decide +kernel
theorem dX2_remove_5 : decode cX2_remove 5 = .ok (.ifnonnull 5, 3) := by decide +kernel
theorem dX2_remove_8 : decode cX2_remove 8 = .ok (.iconst 0, 1) := by decide +kernel
theorem dX2_remove_9 : decode cX2_remove 9 = .ok (.ireturn, 1) := by decide +kernel
theorem dX2_remove_10 : decode cX2_remove 10 = .ok (.aload_n 0, 1) := by decide +kernel
theorem dX2_remove_11 : decode cX2_remove 11 = .ok (.iload_n 1, 1) := by decide +kernel
theorem dX2_remove_12 : decode cX2_remove 12 = .ok (.invokevirtual 72, 3) := by decide +kernel
theorem dX2_remove_15 : decode cX2_remove 15 = .ok (.iconst 1, 1) := by decide +kernel
theorem dX2_remove_16 : decode cX2_remove 16 = .ok (.ireturn, 1) := by decide +kernel
abbrev cX2_entryAt : ByteArray := prog_1_method_19_code
abbrev yX2_entryAt : MethodName := ⟨"RangeReaders", "entryAt", "(I)LRangeReaders$Entry;"⟩
theorem hd_X2_entryAt : (yX2_entryAt).cls ≠ "java/lang/invoke/MethodHandle" ∧ (yX2_entryAt).cls ≠ "java/lang/invoke/VarHandle" ∧ (parseMethodDescriptor (yX2_entryAt).desc).map (fun d => d.parameters.length) = some 1 := by decide +kernel
theorem dX2_entryAt_0 : decode cX2_entryAt 0 = .ok (.iload_n 1, 1) := by decide +kernel
theorem dX2_entryAt_1 : decode cX2_entryAt 1 = .ok (.ifCond .lt 21, 3) := by decide +kernel
theorem dX2_entryAt_4 : decode cX2_entryAt 4 = .ok (.iload_n 1, 1) := by decide +kernel
theorem dX2_entryAt_5 : decode cX2_entryAt 5 = .ok (.aload_n 0, 1) := by decide +kernel
theorem dX2_entryAt_6 : decode cX2_entryAt 6 = .ok (.getfield 15, 3) := by decide +kernel
theorem dX2_entryAt_9 : decode cX2_entryAt 9 = .ok (.arraylength, 1) := by decide +kernel
theorem dX2_entryAt_10 : decode cX2_entryAt 10 = .ok (.if_icmp .ge 12, 3) := by decide +kernel
theorem dX2_entryAt_13 : decode cX2_entryAt 13 = .ok (.aload_n 0, 1) := by decide +kernel
theorem dX2_entryAt_14 : decode cX2_entryAt 14 = .ok (.getfield 15, 3) := by decide +kernel
theorem dX2_entryAt_17 : decode cX2_entryAt 17 = .ok (.iload_n 1, 1) := by decide +kernel
theorem dX2_entryAt_18 : decode cX2_entryAt 18 = .ok (.aaload, 1) := by decide +kernel
theorem dX2_entryAt_19 : decode cX2_entryAt 19 = .ok (.goto 4, 3) := by decide +kernel
theorem dX2_entryAt_22 : decode cX2_entryAt 22 = .ok (.aconst_null, 1) := by decide +kernel
theorem dX2_entryAt_23 : decode cX2_entryAt 23 = .ok (.areturn, 1) := by decide +kernel
abbrev cX2_release : ByteArray := prog_1_method_20_code
abbrev yX2_release : MethodName := ⟨"RangeReaders", "release", "(I)V"⟩
theorem hd_X2_release : (yX2_release).cls ≠ "java/lang/invoke/MethodHandle" ∧ (yX2_release).cls ≠ "java/lang/invoke/VarHandle" ∧ (parseMethodDescriptor (yX2_release).desc).map (fun d => d.parameters.length) = some 1 := by decide +kernel
theorem dX2_release_0 : decode cX2_release 0 = .ok (.iload_n 1, 1) := by decide +kernel
theorem dX2_release_1 : decode cX2_release 1 = .ok (.ifCond .lt 38, 3) := by decide +kernel
theorem dX2_release_4 : decode cX2_release 4 = .ok (.iload_n 1, 1) := by decide +kernel
theorem dX2_release_5 : decode cX2_release 5 = .ok (.aload_n 0, 1) := by decide +kernel
theorem dX2_release_6 : decode cX2_release 6 = .ok (.getfield 15, 3) := by decide +kernel
theorem dX2_release_9 : decode cX2_release 9 = .ok (.arraylength, 1) := by decide +kernel
theorem dX2_release_10 : decode cX2_release 10 = .ok (.if_icmp .ge 29, 3) := by decide +kernel
theorem dX2_release_13 : decode cX2_release 13 = .ok (.aload_n 0, 1) := by decide +kernel
theorem dX2_release_14 : decode cX2_release 14 = .ok (.getfield 15, 3) := by decide +kernel
theorem dX2_release_17 : decode cX2_release 17 = .ok (.iload_n 1, 1) := by decide +kernel
theorem dX2_release_18 : decode cX2_release 18 = .ok (.aaload, 1) := by decide +kernel
theorem dX2_release_19 : decode cX2_release 19 = .ok (.ifnull 20, 3) := by decide +kernel
theorem dX2_release_22 : decode cX2_release 22 = .ok (.aload_n 0, 1) := by decide +kernel
theorem dX2_release_23 : decode cX2_release 23 = .ok (.getfield 15, 3) := by decide +kernel
theorem dX2_release_26 : decode cX2_release 26 = .ok (.iload_n 1, 1) := by decide +kernel
theorem dX2_release_27 : decode cX2_release 27 = .ok (.aconst_null, 1) := by decide +kernel
theorem dX2_release_28 : decode cX2_release 28 = .ok (.aastore, 1) := by decide +kernel
theorem dX2_release_29 : decode cX2_release 29 = .ok (.aload_n 0, 1) := by decide +kernel
theorem dX2_release_30 : decode cX2_release 30 = .ok (.dup, 1) := by decide +kernel
theorem dX2_release_31 : decode cX2_release 31 = .ok (.getfield 19, 3) := by decide +kernel
theorem dX2_release_34 : decode cX2_release 34 = .ok (.iconst 1, 1) := by decide +kernel
theorem dX2_release_35 : decode cX2_release 35 = .ok (.isub, 1) := by decide +kernel
theorem dX2_release_36 : decode cX2_release 36 = .ok (.putfield 19, 3) := by decide +kernel
theorem dX2_release_39 : decode cX2_release 39 = .ok (.return_, 1) := by decide +kernel
abbrev cX2_drop : ByteArray := prog_1_method_5_code
abbrev yX2_drop : MethodName := ⟨"RangeReaders", "drop", "(I)I"⟩
theorem hd_X2_drop : (yX2_drop).cls ≠ "java/lang/invoke/MethodHandle" ∧ (yX2_drop).cls ≠ "java/lang/invoke/VarHandle" ∧ (parseMethodDescriptor (yX2_drop).desc).map (fun d => d.parameters.length) = some 1 := by decide +kernel
theorem dX2_drop_0 : decode cX2_drop 0 = .ok (.iconst 0, 1) := by decide +kernel
theorem dX2_drop_1 : decode cX2_drop 1 = .ok (.istore_n 2, 1) := by decide +kernel
theorem dX2_drop_2 : decode cX2_drop 2 = .ok (.iconst 0, 1) := by decide +kernel
theorem dX2_drop_3 : decode cX2_drop 3 = .ok (.istore_n 3, 1) := by decide +kernel
theorem dX2_drop_4 : decode cX2_drop 4 = .ok (.iload_n 3, 1) := by decide +kernel
theorem dX2_drop_5 : decode cX2_drop 5 = .ok (.aload_n 0, 1) := by decide +kernel
theorem dX2_drop_6 : decode cX2_drop 6 = .ok (.getfield 15, 3) := by decide +kernel
theorem dX2_drop_9 : decode cX2_drop 9 = .ok (.arraylength, 1) := by decide +kernel
theorem dX2_drop_10 : decode cX2_drop 10 = .ok (.if_icmp .ge 39, 3) := by decide +kernel
theorem dX2_drop_13 : decode cX2_drop 13 = .ok (.aload_n 0, 1) := by decide +kernel
theorem dX2_drop_14 : decode cX2_drop 14 = .ok (.getfield 15, 3) := by decide +kernel
theorem dX2_drop_17 : decode cX2_drop 17 = .ok (.iload_n 3, 1) := by decide +kernel
theorem dX2_drop_18 : decode cX2_drop 18 = .ok (.aaload, 1) := by decide +kernel
theorem dX2_drop_19 : decode cX2_drop 19 = .ok (.astore 4, 2) := by decide +kernel
theorem dX2_drop_21 : decode cX2_drop 21 = .ok (.aload 4, 2) := by decide +kernel
theorem dX2_drop_23 : decode cX2_drop 23 = .ok (.ifnull 20, 3) := by decide +kernel
theorem dX2_drop_26 : decode cX2_drop 26 = .ok (.aload 4, 2) := by decide +kernel
theorem dX2_drop_28 : decode cX2_drop 28 = .ok (.getfield 76, 3) := by decide +kernel
theorem dX2_drop_31 : decode cX2_drop 31 = .ok (.iload_n 1, 1) := by decide +kernel
theorem dX2_drop_32 : decode cX2_drop 32 = .ok (.if_icmp .ne 11, 3) := by decide +kernel
theorem dX2_drop_35 : decode cX2_drop 35 = .ok (.aload_n 0, 1) := by decide +kernel
theorem dX2_drop_36 : decode cX2_drop 36 = .ok (.iload_n 3, 1) := by decide +kernel
theorem dX2_drop_37 : decode cX2_drop 37 = .ok (.invokevirtual 72, 3) := by decide +kernel
theorem dX2_drop_40 : decode cX2_drop 40 = .ok (.iinc 2 1, 3) := by decide +kernel
theorem dX2_drop_43 : decode cX2_drop 43 = .ok (.iinc 3 1, 3) := by decide +kernel
theorem dX2_drop_46 : decode cX2_drop 46 = .ok (.goto (-42), 3) := by decide +kernel
theorem dX2_drop_49 : decode cX2_drop 49 = .ok (.iload_n 2, 1) := by decide +kernel
theorem dX2_drop_50 : decode cX2_drop 50 = .ok (.ireturn, 1) := by decide +kernel
abbrev cX2_met : ByteArray := prog_1_method_8_code
abbrev yX2_met : MethodName := ⟨"RangeReaders", "met", "(I)I"⟩
theorem hd_X2_met : (yX2_met).cls ≠ "java/lang/invoke/MethodHandle" ∧ (yX2_met).cls ≠ "java/lang/invoke/VarHandle" ∧ (parseMethodDescriptor (yX2_met).desc).map (fun d => d.parameters.length) = some 1 := by decide +kernel
theorem dX2_met_0 : decode cX2_met 0 = .ok (.iload_n 1, 1) := by decide +kernel
theorem dX2_met_1 : decode cX2_met 1 = .ok (.ifCond .lt 20, 3) := by decide +kernel
theorem dX2_met_4 : decode cX2_met 4 = .ok (.iload_n 1, 1) := by decide +kernel
theorem dX2_met_5 : decode cX2_met 5 = .ok (.aload_n 0, 1) := by decide +kernel
theorem dX2_met_6 : decode cX2_met 6 = .ok (.getfield 27, 3) := by decide +kernel
theorem dX2_met_9 : decode cX2_met 9 = .ok (.if_icmp .ge 12, 3) := by decide +kernel
theorem dX2_met_12 : decode cX2_met 12 = .ok (.iload_n 1, 1) := by decide +kernel
theorem dX2_met_13 : decode cX2_met 13 = .ok (.aload_n 0, 1) := by decide +kernel
theorem dX2_met_14 : decode cX2_met 14 = .ok (.getfield 23, 3) := by decide +kernel
theorem dX2_met_17 : decode cX2_met 17 = .ok (.arraylength, 1) := by decide +kernel
theorem dX2_met_18 : decode cX2_met 18 = .ok (.if_icmp .lt 5, 3) := by decide +kernel
theorem dX2_met_21 : decode cX2_met 21 = .ok (.iconst (-1), 1) := by decide +kernel
theorem dX2_met_22 : decode cX2_met 22 = .ok (.ireturn, 1) := by decide +kernel
theorem dX2_met_23 : decode cX2_met 23 = .ok (.aload_n 0, 1) := by decide +kernel
theorem dX2_met_24 : decode cX2_met 24 = .ok (.getfield 23, 3) := by decide +kernel
theorem dX2_met_27 : decode cX2_met 27 = .ok (.iload_n 1, 1) := by decide +kernel
theorem dX2_met_28 : decode cX2_met 28 = .ok (.iaload, 1) := by decide +kernel
theorem dX2_met_29 : decode cX2_met 29 = .ok (.ireturn, 1) := by decide +kernel
abbrev cX2_entry : ByteArray := prog_1_method_9_code
abbrev yX2_entry : MethodName := ⟨"RangeReaders", "entry", "(II)I"⟩
theorem hd_X2_entry : (yX2_entry).cls ≠ "java/lang/invoke/MethodHandle" ∧ (yX2_entry).cls ≠ "java/lang/invoke/VarHandle" ∧ (parseMethodDescriptor (yX2_entry).desc).map (fun d => d.parameters.length) = some 2 := by decide +kernel
theorem dX2_entry_0 : decode cX2_entry 0 = .ok (.aload_n 0, 1) := by decide +kernel
theorem dX2_entry_1 : decode cX2_entry 1 = .ok (.iload_n 1, 1) := by decide +kernel
theorem dX2_entry_2 : decode cX2_entry 2 = .ok (.invokevirtual 68, 3) := by decide +kernel
theorem dX2_entry_5 : decode cX2_entry 5 = .ok (.astore_n 3, 1) := by decide +kernel
theorem dX2_entry_6 : decode cX2_entry 6 = .ok (.aload_n 3, 1) := by decide +kernel
theorem dX2_entry_7 : decode cX2_entry 7 = .ok (.ifnonnull 5, 3) := by decide +kernel
theorem dX2_entry_10 : decode cX2_entry 10 = .ok (.iconst (-1), 1) := by decide +kernel
theorem dX2_entry_11 : decode cX2_entry 11 = .ok (.ireturn, 1) := by decide +kernel
theorem dX2_entry_12 : decode cX2_entry 12 = .ok (.iload_n 2, 1) := by decide +kernel
theorem dX2_entry_13 : decode cX2_entry 13 = .ok (.tableswitch 84 0 5 #[39, 47, 55, 63, 71, 79], 39) := by decide +kernel
theorem dX2_entry_52 : decode cX2_entry 52 = .ok (.aload_n 3, 1) := by decide +kernel
theorem dX2_entry_53 : decode cX2_entry 53 = .ok (.getfield 85, 3) := by decide +kernel
theorem dX2_entry_56 : decode cX2_entry 56 = .ok (.getfield 88, 3) := by decide +kernel
theorem dX2_entry_59 : decode cX2_entry 59 = .ok (.ireturn, 1) := by decide +kernel
theorem dX2_entry_60 : decode cX2_entry 60 = .ok (.aload_n 3, 1) := by decide +kernel
theorem dX2_entry_61 : decode cX2_entry 61 = .ok (.getfield 85, 3) := by decide +kernel
theorem dX2_entry_64 : decode cX2_entry 64 = .ok (.getfield 91, 3) := by decide +kernel
theorem dX2_entry_67 : decode cX2_entry 67 = .ok (.ireturn, 1) := by decide +kernel
theorem dX2_entry_68 : decode cX2_entry 68 = .ok (.aload_n 3, 1) := by decide +kernel
theorem dX2_entry_69 : decode cX2_entry 69 = .ok (.getfield 85, 3) := by decide +kernel
theorem dX2_entry_72 : decode cX2_entry 72 = .ok (.getfield 94, 3) := by decide +kernel
theorem dX2_entry_75 : decode cX2_entry 75 = .ok (.ireturn, 1) := by decide +kernel
theorem dX2_entry_76 : decode cX2_entry 76 = .ok (.aload_n 3, 1) := by decide +kernel
theorem dX2_entry_77 : decode cX2_entry 77 = .ok (.getfield 85, 3) := by decide +kernel
theorem dX2_entry_80 : decode cX2_entry 80 = .ok (.getfield 97, 3) := by decide +kernel
theorem dX2_entry_83 : decode cX2_entry 83 = .ok (.ireturn, 1) := by decide +kernel
theorem dX2_entry_84 : decode cX2_entry 84 = .ok (.aload_n 3, 1) := by decide +kernel
theorem dX2_entry_85 : decode cX2_entry 85 = .ok (.getfield 85, 3) := by decide +kernel
theorem dX2_entry_88 : decode cX2_entry 88 = .ok (.getfield 100, 3) := by decide +kernel
theorem dX2_entry_91 : decode cX2_entry 91 = .ok (.ireturn, 1) := by decide +kernel
theorem dX2_entry_92 : decode cX2_entry 92 = .ok (.aload_n 3, 1) := by decide +kernel
theorem dX2_entry_93 : decode cX2_entry 93 = .ok (.getfield 76, 3) := by decide +kernel
theorem dX2_entry_96 : decode cX2_entry 96 = .ok (.ireturn, 1) := by decide +kernel
theorem dX2_entry_97 : decode cX2_entry 97 = .ok (.iconst (-1), 1) := by decide +kernel
theorem dX2_entry_98 : decode cX2_entry 98 = .ok (.ireturn, 1) := by decide +kernel
abbrev cX2_count : ByteArray := prog_1_method_10_code
abbrev yX2_count : MethodName := ⟨"RangeReaders", "count", "()I"⟩
theorem hd_X2_count : (yX2_count).cls ≠ "java/lang/invoke/MethodHandle" ∧ (yX2_count).cls ≠ "java/lang/invoke/VarHandle" ∧ (parseMethodDescriptor (yX2_count).desc).map (fun d => d.parameters.length) = some 0 := by decide +kernel
theorem dX2_count_0 : decode cX2_count 0 = .ok (.aload_n 0, 1) := by decide +kernel
theorem dX2_count_1 : decode cX2_count 1 = .ok (.getfield 19, 3) := by decide +kernel
theorem dX2_count_4 : decode cX2_count 4 = .ok (.ireturn, 1) := by decide +kernel
abbrev cX2_add : ByteArray := prog_1_method_3_code
abbrev yX2_add : MethodName := ⟨"RangeReaders", "add", "(I)I"⟩
theorem hd_X2_add : (yX2_add).cls ≠ "java/lang/invoke/MethodHandle" ∧ (yX2_add).cls ≠ "java/lang/invoke/VarHandle" ∧ (parseMethodDescriptor (yX2_add).desc).map (fun d => d.parameters.length) = some 1 := by decide +kernel
theorem dX2_add_0 : decode cX2_add 0 = .ok (.aload_n 0, 1) := by decide +kernel
theorem dX2_add_1 : decode cX2_add 1 = .ok (.getfield 7, 3) := by decide +kernel
theorem dX2_add_4 : decode cX2_add 4 = .ok (.ifnonnull 13, 3) := by decide +kernel
theorem dX2_add_7 : decode cX2_add 7 = .ok (.new 39, 3) := by decide +kernel
theorem dX2_add_10 : decode cX2_add 10 = .ok (.dup, 1) := by decide +kernel
theorem dX2_add_11 : decode cX2_add 11 = .ok (.ldc 41, 2) := by decide +kernel
theorem dX2_add_13 : decode cX2_add 13 = .ok (.invokespecial 43, 3) := by decide +kernel
theorem dX2_add_16 : decode cX2_add 16 = .ok (.athrow, 1) := by decide +kernel
theorem dX2_add_17 : decode cX2_add 17 = .ok (.iload_n 1, 1) := by decide +kernel
theorem dX2_add_18 : decode cX2_add 18 = .ok (.ifCond .lt 10, 3) := by decide +kernel
theorem dX2_add_21 : decode cX2_add 21 = .ok (.iload_n 1, 1) := by decide +kernel
theorem dX2_add_22 : decode cX2_add 22 = .ok (.sipush 16384, 3) := by decide +kernel
theorem dX2_add_25 : decode cX2_add 25 = .ok (.if_icmp .lt 13, 3) := by decide +kernel
theorem dX2_add_28 : decode cX2_add 28 = .ok (.new 39, 3) := by decide +kernel
theorem dX2_add_31 : decode cX2_add 31 = .ok (.dup, 1) := by decide +kernel
theorem dX2_add_32 : decode cX2_add 32 = .ok (.ldc 46, 2) := by decide +kernel
theorem dX2_add_34 : decode cX2_add 34 = .ok (.invokespecial 43, 3) := by decide +kernel
theorem dX2_add_37 : decode cX2_add 37 = .ok (.athrow, 1) := by decide +kernel
theorem dX2_add_38 : decode cX2_add 38 = .ok (.aload_n 0, 1) := by decide +kernel
theorem dX2_add_39 : decode cX2_add 39 = .ok (.getfield 19, 3) := by decide +kernel
theorem dX2_add_42 : decode cX2_add 42 = .ok (.ldc 48, 2) := by decide +kernel
theorem dX2_add_44 : decode cX2_add 44 = .ok (.if_icmp .lt 13, 3) := by decide +kernel
theorem dX2_add_47 : decode cX2_add 47 = .ok (.new 49, 3) := by decide +kernel
theorem dX2_add_50 : decode cX2_add 50 = .ok (.dup, 1) := by decide +kernel
theorem dX2_add_51 : decode cX2_add 51 = .ok (.ldc 51, 2) := by decide +kernel
theorem dX2_add_53 : decode cX2_add 53 = .ok (.invokespecial 53, 3) := by decide +kernel
theorem dX2_add_56 : decode cX2_add 56 = .ok (.athrow, 1) := by decide +kernel
theorem dX2_add_57 : decode cX2_add 57 = .ok (.aload_n 0, 1) := by decide +kernel
theorem dX2_add_58 : decode cX2_add 58 = .ok (.invokevirtual 54, 3) := by decide +kernel
theorem dX2_add_61 : decode cX2_add 61 = .ok (.aload_n 0, 1) := by decide +kernel
theorem dX2_add_62 : decode cX2_add 62 = .ok (.invokevirtual 57, 3) := by decide +kernel
theorem dX2_add_65 : decode cX2_add 65 = .ok (.istore_n 2, 1) := by decide +kernel
theorem dX2_add_66 : decode cX2_add 66 = .ok (.iload_n 2, 1) := by decide +kernel
theorem dX2_add_67 : decode cX2_add 67 = .ok (.aload_n 0, 1) := by decide +kernel
theorem dX2_add_68 : decode cX2_add 68 = .ok (.getfield 15, 3) := by decide +kernel
theorem dX2_add_71 : decode cX2_add 71 = .ok (.arraylength, 1) := by decide +kernel
theorem dX2_add_72 : decode cX2_add 72 = .ok (.if_icmp .ge 34, 3) := by decide +kernel
theorem dX2_add_75 : decode cX2_add 75 = .ok (.aload_n 0, 1) := by decide +kernel
theorem dX2_add_76 : decode cX2_add 76 = .ok (.getfield 15, 3) := by decide +kernel
theorem dX2_add_79 : decode cX2_add 79 = .ok (.iload_n 2, 1) := by decide +kernel
theorem dX2_add_80 : decode cX2_add 80 = .ok (.new 13, 3) := by decide +kernel
theorem dX2_add_83 : decode cX2_add 83 = .ok (.dup, 1) := by decide +kernel
theorem dX2_add_84 : decode cX2_add 84 = .ok (.aload_n 0, 1) := by decide +kernel
theorem dX2_add_85 : decode cX2_add 85 = .ok (.getfield 7, 3) := by decide +kernel
theorem dX2_add_88 : decode cX2_add 88 = .ok (.invokevirtual 61, 3) := by decide +kernel
theorem dX2_add_91 : decode cX2_add 91 = .ok (.iload_n 1, 1) := by decide +kernel
theorem dX2_add_92 : decode cX2_add 92 = .ok (.invokespecial 65, 3) := by decide +kernel
theorem dX2_add_95 : decode cX2_add 95 = .ok (.aastore, 1) := by decide +kernel
theorem dX2_add_96 : decode cX2_add 96 = .ok (.aload_n 0, 1) := by decide +kernel
theorem dX2_add_97 : decode cX2_add 97 = .ok (.dup, 1) := by decide +kernel
theorem dX2_add_98 : decode cX2_add 98 = .ok (.getfield 19, 3) := by decide +kernel
theorem dX2_add_101 : decode cX2_add 101 = .ok (.iconst 1, 1) := by decide +kernel
theorem dX2_add_102 : decode cX2_add 102 = .ok (.iadd, 1) := by decide +kernel
theorem dX2_add_103 : decode cX2_add 103 = .ok (.putfield 19, 3) := by decide +kernel
theorem dX2_add_106 : decode cX2_add 106 = .ok (.iload_n 2, 1) := by decide +kernel
theorem dX2_add_107 : decode cX2_add 107 = .ok (.ireturn, 1) := by decide +kernel
abbrev cX2_makeRoom : ByteArray := prog_1_method_21_code
abbrev yX2_makeRoom : MethodName := ⟨"RangeReaders", "makeRoom", "()V"⟩
theorem hd_X2_makeRoom : (yX2_makeRoom).cls ≠ "java/lang/invoke/MethodHandle" ∧ (yX2_makeRoom).cls ≠ "java/lang/invoke/VarHandle" ∧ (parseMethodDescriptor (yX2_makeRoom).desc).map (fun d => d.parameters.length) = some 0 := by decide +kernel
theorem dX2_makeRoom_0 : decode cX2_makeRoom 0 = .ok (.aload_n 0, 1) := by decide +kernel
theorem dX2_makeRoom_1 : decode cX2_makeRoom 1 = .ok (.getfield 19, 3) := by decide +kernel
theorem dX2_makeRoom_4 : decode cX2_makeRoom 4 = .ok (.aload_n 0, 1) := by decide +kernel
theorem dX2_makeRoom_5 : decode cX2_makeRoom 5 = .ok (.getfield 15, 3) := by decide +kernel
theorem dX2_makeRoom_8 : decode cX2_makeRoom 8 = .ok (.arraylength, 1) := by decide +kernel
theorem dX2_makeRoom_9 : decode cX2_makeRoom 9 = .ok (.if_icmp .ge 4, 3) := by decide +kernel
theorem dX2_makeRoom_12 : decode cX2_makeRoom 12 = .ok (.return_, 1) := by decide +kernel
theorem dX2_makeRoom_13 : decode cX2_makeRoom 13 = .ok (.iconst 2, 1) := by decide +kernel
theorem dX2_makeRoom_14 : decode cX2_makeRoom 14 = .ok (.aload_n 0, 1) := by decide +kernel
theorem dX2_makeRoom_15 : decode cX2_makeRoom 15 = .ok (.getfield 19, 3) := by decide +kernel
theorem dX2_makeRoom_18 : decode cX2_makeRoom 18 = .ok (.imul, 1) := by decide +kernel
theorem dX2_makeRoom_19 : decode cX2_makeRoom 19 = .ok (.ldc 48, 2) := by decide +kernel
theorem dX2_makeRoom_21 : decode cX2_makeRoom 21 = .ok (.invokestatic 123, 3) := by decide +kernel
theorem dX2_makeRoom_24 : decode cX2_makeRoom 24 = .ok (.anewarray 13, 3) := by decide +kernel
theorem dX2_makeRoom_27 : decode cX2_makeRoom 27 = .ok (.astore_n 1, 1) := by decide +kernel
theorem dX2_makeRoom_28 : decode cX2_makeRoom 28 = .ok (.iconst 0, 1) := by decide +kernel
theorem dX2_makeRoom_29 : decode cX2_makeRoom 29 = .ok (.istore_n 2, 1) := by decide +kernel
theorem dX2_makeRoom_30 : decode cX2_makeRoom 30 = .ok (.iload_n 2, 1) := by decide +kernel
theorem dX2_makeRoom_31 : decode cX2_makeRoom 31 = .ok (.aload_n 0, 1) := by decide +kernel
theorem dX2_makeRoom_32 : decode cX2_makeRoom 32 = .ok (.getfield 15, 3) := by decide +kernel
theorem dX2_makeRoom_35 : decode cX2_makeRoom 35 = .ok (.arraylength, 1) := by decide +kernel
theorem dX2_makeRoom_36 : decode cX2_makeRoom 36 = .ok (.if_icmp .ge 24, 3) := by decide +kernel
theorem dX2_makeRoom_39 : decode cX2_makeRoom 39 = .ok (.iload_n 2, 1) := by decide +kernel
theorem dX2_makeRoom_40 : decode cX2_makeRoom 40 = .ok (.aload_n 1, 1) := by decide +kernel
theorem dX2_makeRoom_41 : decode cX2_makeRoom 41 = .ok (.arraylength, 1) := by decide +kernel
theorem dX2_makeRoom_42 : decode cX2_makeRoom 42 = .ok (.if_icmp .ge 18, 3) := by decide +kernel
theorem dX2_makeRoom_45 : decode cX2_makeRoom 45 = .ok (.aload_n 1, 1) := by decide +kernel
theorem dX2_makeRoom_46 : decode cX2_makeRoom 46 = .ok (.iload_n 2, 1) := by decide +kernel
theorem dX2_makeRoom_47 : decode cX2_makeRoom 47 = .ok (.aload_n 0, 1) := by decide +kernel
theorem dX2_makeRoom_48 : decode cX2_makeRoom 48 = .ok (.getfield 15, 3) := by decide +kernel
theorem dX2_makeRoom_51 : decode cX2_makeRoom 51 = .ok (.iload_n 2, 1) := by decide +kernel
theorem dX2_makeRoom_52 : decode cX2_makeRoom 52 = .ok (.aaload, 1) := by decide +kernel
theorem dX2_makeRoom_53 : decode cX2_makeRoom 53 = .ok (.aastore, 1) := by decide +kernel
theorem dX2_makeRoom_54 : decode cX2_makeRoom 54 = .ok (.iinc 2 1, 3) := by decide +kernel
theorem dX2_makeRoom_57 : decode cX2_makeRoom 57 = .ok (.goto (-27), 3) := by decide +kernel
theorem dX2_makeRoom_60 : decode cX2_makeRoom 60 = .ok (.aload_n 0, 1) := by decide +kernel
theorem dX2_makeRoom_61 : decode cX2_makeRoom 61 = .ok (.aload_n 1, 1) := by decide +kernel
theorem dX2_makeRoom_62 : decode cX2_makeRoom 62 = .ok (.putfield 15, 3) := by decide +kernel
theorem dX2_makeRoom_65 : decode cX2_makeRoom 65 = .ok (.return_, 1) := by decide +kernel
abbrev cX2_lowestFree : ByteArray := prog_1_method_22_code
abbrev yX2_lowestFree : MethodName := ⟨"RangeReaders", "lowestFree", "()I"⟩
theorem hd_X2_lowestFree : (yX2_lowestFree).cls ≠ "java/lang/invoke/MethodHandle" ∧ (yX2_lowestFree).cls ≠ "java/lang/invoke/VarHandle" ∧ (parseMethodDescriptor (yX2_lowestFree).desc).map (fun d => d.parameters.length) = some 0 := by decide +kernel
theorem dX2_lowestFree_0 : decode cX2_lowestFree 0 = .ok (.iconst 0, 1) := by decide +kernel
theorem dX2_lowestFree_1 : decode cX2_lowestFree 1 = .ok (.istore_n 1, 1) := by decide +kernel
theorem dX2_lowestFree_2 : decode cX2_lowestFree 2 = .ok (.iload_n 1, 1) := by decide +kernel
theorem dX2_lowestFree_3 : decode cX2_lowestFree 3 = .ok (.aload_n 0, 1) := by decide +kernel
theorem dX2_lowestFree_4 : decode cX2_lowestFree 4 = .ok (.getfield 15, 3) := by decide +kernel
theorem dX2_lowestFree_7 : decode cX2_lowestFree 7 = .ok (.arraylength, 1) := by decide +kernel
theorem dX2_lowestFree_8 : decode cX2_lowestFree 8 = .ok (.if_icmp .ge 18, 3) := by decide +kernel
theorem dX2_lowestFree_11 : decode cX2_lowestFree 11 = .ok (.aload_n 0, 1) := by decide +kernel
theorem dX2_lowestFree_12 : decode cX2_lowestFree 12 = .ok (.getfield 15, 3) := by decide +kernel
theorem dX2_lowestFree_15 : decode cX2_lowestFree 15 = .ok (.iload_n 1, 1) := by decide +kernel
theorem dX2_lowestFree_16 : decode cX2_lowestFree 16 = .ok (.aaload, 1) := by decide +kernel
theorem dX2_lowestFree_17 : decode cX2_lowestFree 17 = .ok (.ifnull 9, 3) := by decide +kernel
theorem dX2_lowestFree_20 : decode cX2_lowestFree 20 = .ok (.iinc 1 1, 3) := by decide +kernel
theorem dX2_lowestFree_23 : decode cX2_lowestFree 23 = .ok (.goto (-21), 3) := by decide +kernel
theorem dX2_lowestFree_26 : decode cX2_lowestFree 26 = .ok (.iload_n 1, 1) := by decide +kernel
theorem dX2_lowestFree_27 : decode cX2_lowestFree 27 = .ok (.ireturn, 1) := by decide +kernel
abbrev cX2_readers : ByteArray := prog_1_method_6_code
abbrev yX2_readers : MethodName := ⟨"RangeReaders", "readers", "(III)I"⟩
theorem hd_X2_readers : (yX2_readers).cls ≠ "java/lang/invoke/MethodHandle" ∧ (yX2_readers).cls ≠ "java/lang/invoke/VarHandle" ∧ (parseMethodDescriptor (yX2_readers).desc).map (fun d => d.parameters.length) = some 3 := by decide +kernel
theorem dX2_readers_0 : decode cX2_readers 0 = .ok (.iload_n 1, 1) := by decide +kernel
theorem dX2_readers_1 : decode cX2_readers 1 = .ok (.iload_n 2, 1) := by decide +kernel
theorem dX2_readers_2 : decode cX2_readers 2 = .ok (.iload_n 3, 1) := by decide +kernel
theorem dX2_readers_3 : decode cX2_readers 3 = .ok (.invokestatic 30, 3) := by decide +kernel
theorem dX2_readers_6 : decode cX2_readers 6 = .ok (.ifCond .ne 13, 3) := by decide +kernel
theorem dX2_readers_9 : decode cX2_readers 9 = .ok (.new 39, 3) := by decide +kernel
theorem dX2_readers_12 : decode cX2_readers 12 = .ok (.dup, 1) := by decide +kernel
theorem dX2_readers_13 : decode cX2_readers 13 = .ok (.ldc 79, 2) := by decide +kernel
theorem dX2_readers_15 : decode cX2_readers 15 = .ok (.invokespecial 43, 3) := by decide +kernel
theorem dX2_readers_18 : decode cX2_readers 18 = .ok (.athrow, 1) := by decide +kernel
theorem dX2_readers_19 : decode cX2_readers 19 = .ok (.aload_n 0, 1) := by decide +kernel
theorem dX2_readers_20 : decode cX2_readers 20 = .ok (.new 34, 3) := by decide +kernel
theorem dX2_readers_23 : decode cX2_readers 23 = .ok (.dup, 1) := by decide +kernel
theorem dX2_readers_24 : decode cX2_readers 24 = .ok (.iload_n 1, 1) := by decide +kernel
theorem dX2_readers_25 : decode cX2_readers 25 = .ok (.iload_n 2, 1) := by decide +kernel
theorem dX2_readers_26 : decode cX2_readers 26 = .ok (.iload_n 3, 1) := by decide +kernel
theorem dX2_readers_27 : decode cX2_readers 27 = .ok (.iload_n 2, 1) := by decide +kernel
theorem dX2_readers_28 : decode cX2_readers 28 = .ok (.iload_n 3, 1) := by decide +kernel
theorem dX2_readers_29 : decode cX2_readers 29 = .ok (.invokespecial 36, 3) := by decide +kernel
theorem dX2_readers_32 : decode cX2_readers 32 = .ok (.invokevirtual 81, 3) := by decide +kernel
theorem dX2_readers_35 : decode cX2_readers 35 = .ok (.aload_n 0, 1) := by decide +kernel
theorem dX2_readers_36 : decode cX2_readers 36 = .ok (.getfield 27, 3) := by decide +kernel
theorem dX2_readers_39 : decode cX2_readers 39 = .ok (.ireturn, 1) := by decide +kernel
abbrev cX2_findMeeting : ByteArray := prog_1_method_23_code
abbrev yX2_findMeeting : MethodName := ⟨"RangeReaders", "findMeeting", "(LRangeReaders$Area;)V"⟩
theorem hd_X2_findMeeting : (yX2_findMeeting).cls ≠ "java/lang/invoke/MethodHandle" ∧ (yX2_findMeeting).cls ≠ "java/lang/invoke/VarHandle" ∧ (parseMethodDescriptor (yX2_findMeeting).desc).map (fun d => d.parameters.length) = some 1 := by decide +kernel
theorem dX2_findMeeting_0 : decode cX2_findMeeting 0 = .ok (.aload_n 0, 1) := by decide +kernel
theorem dX2_findMeeting_1 : decode cX2_findMeeting 1 = .ok (.getfield 23, 3) := by decide +kernel
theorem dX2_findMeeting_4 : decode cX2_findMeeting 4 = .ok (.arraylength, 1) := by decide +kernel
theorem dX2_findMeeting_5 : decode cX2_findMeeting 5 = .ok (.aload_n 0, 1) := by decide +kernel
theorem dX2_findMeeting_6 : decode cX2_findMeeting 6 = .ok (.getfield 15, 3) := by decide +kernel
theorem dX2_findMeeting_9 : decode cX2_findMeeting 9 = .ok (.arraylength, 1) := by decide +kernel
theorem dX2_findMeeting_10 : decode cX2_findMeeting 10 = .ok (.if_icmp .ge 14, 3) := by decide +kernel
theorem dX2_findMeeting_13 : decode cX2_findMeeting 13 = .ok (.aload_n 0, 1) := by decide +kernel
theorem dX2_findMeeting_14 : decode cX2_findMeeting 14 = .ok (.aload_n 0, 1) := by decide +kernel
theorem dX2_findMeeting_15 : decode cX2_findMeeting 15 = .ok (.getfield 15, 3) := by decide +kernel
theorem dX2_findMeeting_18 : decode cX2_findMeeting 18 = .ok (.arraylength, 1) := by decide +kernel
theorem dX2_findMeeting_19 : decode cX2_findMeeting 19 = .ok (.newarray .int, 2) := by decide +kernel
theorem dX2_findMeeting_21 : decode cX2_findMeeting 21 = .ok (.putfield 23, 3) := by decide +kernel
theorem dX2_findMeeting_24 : decode cX2_findMeeting 24 = .ok (.aload_n 0, 1) := by decide +kernel
theorem dX2_findMeeting_25 : decode cX2_findMeeting 25 = .ok (.iconst 0, 1) := by decide +kernel
theorem dX2_findMeeting_26 : decode cX2_findMeeting 26 = .ok (.putfield 27, 3) := by decide +kernel
theorem dX2_findMeeting_29 : decode cX2_findMeeting 29 = .ok (.iconst 0, 1) := by decide +kernel
theorem dX2_findMeeting_30 : decode cX2_findMeeting 30 = .ok (.istore_n 2, 1) := by decide +kernel
theorem dX2_findMeeting_31 : decode cX2_findMeeting 31 = .ok (.iload_n 2, 1) := by decide +kernel
theorem dX2_findMeeting_32 : decode cX2_findMeeting 32 = .ok (.aload_n 0, 1) := by decide +kernel
theorem dX2_findMeeting_33 : decode cX2_findMeeting 33 = .ok (.getfield 15, 3) := by decide +kernel
theorem dX2_findMeeting_36 : decode cX2_findMeeting 36 = .ok (.arraylength, 1) := by decide +kernel
theorem dX2_findMeeting_37 : decode cX2_findMeeting 37 = .ok (.if_icmp .ge 63, 3) := by decide +kernel
theorem dX2_findMeeting_40 : decode cX2_findMeeting 40 = .ok (.aload_n 0, 1) := by decide +kernel
theorem dX2_findMeeting_41 : decode cX2_findMeeting 41 = .ok (.getfield 15, 3) := by decide +kernel
theorem dX2_findMeeting_44 : decode cX2_findMeeting 44 = .ok (.iload_n 2, 1) := by decide +kernel
theorem dX2_findMeeting_45 : decode cX2_findMeeting 45 = .ok (.aaload, 1) := by decide +kernel
theorem dX2_findMeeting_46 : decode cX2_findMeeting 46 = .ok (.astore_n 3, 1) := by decide +kernel
theorem dX2_findMeeting_47 : decode cX2_findMeeting 47 = .ok (.aload_n 3, 1) := by decide +kernel
theorem dX2_findMeeting_48 : decode cX2_findMeeting 48 = .ok (.ifnull 46, 3) := by decide +kernel
theorem dX2_findMeeting_51 : decode cX2_findMeeting 51 = .ok (.aload_n 3, 1) := by decide +kernel
theorem dX2_findMeeting_52 : decode cX2_findMeeting 52 = .ok (.getfield 85, 3) := by decide +kernel
theorem dX2_findMeeting_55 : decode cX2_findMeeting 55 = .ok (.aload_n 1, 1) := by decide +kernel
theorem dX2_findMeeting_56 : decode cX2_findMeeting 56 = .ok (.invokevirtual 157, 3) := by decide +kernel
theorem dX2_findMeeting_59 : decode cX2_findMeeting 59 = .ok (.ifCond .eq 35, 3) := by decide +kernel
theorem dX2_findMeeting_62 : decode cX2_findMeeting 62 = .ok (.aload_n 0, 1) := by decide +kernel
theorem dX2_findMeeting_63 : decode cX2_findMeeting 63 = .ok (.getfield 27, 3) := by decide +kernel
theorem dX2_findMeeting_66 : decode cX2_findMeeting 66 = .ok (.aload_n 0, 1) := by decide +kernel
theorem dX2_findMeeting_67 : decode cX2_findMeeting 67 = .ok (.getfield 23, 3) := by decide +kernel
theorem dX2_findMeeting_70 : decode cX2_findMeeting 70 = .ok (.arraylength, 1) := by decide +kernel
theorem dX2_findMeeting_71 : decode cX2_findMeeting 71 = .ok (.if_icmp .ge 23, 3) := by decide +kernel
theorem dX2_findMeeting_74 : decode cX2_findMeeting 74 = .ok (.aload_n 0, 1) := by decide +kernel
theorem dX2_findMeeting_75 : decode cX2_findMeeting 75 = .ok (.getfield 23, 3) := by decide +kernel
theorem dX2_findMeeting_78 : decode cX2_findMeeting 78 = .ok (.aload_n 0, 1) := by decide +kernel
theorem dX2_findMeeting_79 : decode cX2_findMeeting 79 = .ok (.getfield 27, 3) := by decide +kernel
theorem dX2_findMeeting_82 : decode cX2_findMeeting 82 = .ok (.iload_n 2, 1) := by decide +kernel
theorem dX2_findMeeting_83 : decode cX2_findMeeting 83 = .ok (.iastore, 1) := by decide +kernel
theorem dX2_findMeeting_84 : decode cX2_findMeeting 84 = .ok (.aload_n 0, 1) := by decide +kernel
theorem dX2_findMeeting_85 : decode cX2_findMeeting 85 = .ok (.dup, 1) := by decide +kernel
theorem dX2_findMeeting_86 : decode cX2_findMeeting 86 = .ok (.getfield 27, 3) := by decide +kernel
theorem dX2_findMeeting_89 : decode cX2_findMeeting 89 = .ok (.iconst 1, 1) := by decide +kernel
theorem dX2_findMeeting_90 : decode cX2_findMeeting 90 = .ok (.iadd, 1) := by decide +kernel
theorem dX2_findMeeting_91 : decode cX2_findMeeting 91 = .ok (.putfield 27, 3) := by decide +kernel
theorem dX2_findMeeting_94 : decode cX2_findMeeting 94 = .ok (.iinc 2 1, 3) := by decide +kernel
theorem dX2_findMeeting_97 : decode cX2_findMeeting 97 = .ok (.goto (-66), 3) := by decide +kernel
theorem dX2_findMeeting_100 : decode cX2_findMeeting 100 = .ok (.return_, 1) := by decide +kernel
abbrev cX2_meet : ByteArray := prog_1_method_7_code
abbrev yX2_meet : MethodName := ⟨"RangeReaders", "meet", "()I"⟩
theorem hd_X2_meet : (yX2_meet).cls ≠ "java/lang/invoke/MethodHandle" ∧ (yX2_meet).cls ≠ "java/lang/invoke/VarHandle" ∧ (parseMethodDescriptor (yX2_meet).desc).map (fun d => d.parameters.length) = some 0 := by decide +kernel
theorem dX2_meet_0 : decode cX2_meet 0 = .ok (.aload_n 0, 1) := by decide +kernel
theorem dX2_meet_1 : decode cX2_meet 1 = .ok (.getfield 7, 3) := by decide +kernel
theorem dX2_meet_4 : decode cX2_meet 4 = .ok (.ifnonnull 13, 3) := by decide +kernel
theorem dX2_meet_7 : decode cX2_meet 7 = .ok (.new 49, 3) := by decide +kernel
theorem dX2_meet_10 : decode cX2_meet 10 = .ok (.dup, 1) := by decide +kernel
theorem dX2_meet_11 : decode cX2_meet 11 = .ok (.ldc 41, 2) := by decide +kernel
theorem dX2_meet_13 : decode cX2_meet 13 = .ok (.invokespecial 53, 3) := by decide +kernel
theorem dX2_meet_16 : decode cX2_meet 16 = .ok (.athrow, 1) := by decide +kernel
theorem dX2_meet_17 : decode cX2_meet 17 = .ok (.aload_n 0, 1) := by decide +kernel
theorem dX2_meet_18 : decode cX2_meet 18 = .ok (.aload_n 0, 1) := by decide +kernel
theorem dX2_meet_19 : decode cX2_meet 19 = .ok (.getfield 7, 3) := by decide +kernel
theorem dX2_meet_22 : decode cX2_meet 22 = .ok (.invokevirtual 81, 3) := by decide +kernel
theorem dX2_meet_25 : decode cX2_meet 25 = .ok (.aload_n 0, 1) := by decide +kernel
theorem dX2_meet_26 : decode cX2_meet 26 = .ok (.getfield 27, 3) := by decide +kernel
theorem dX2_meet_29 : decode cX2_meet 29 = .ok (.ireturn, 1) := by decide +kernel
abbrev cX2_insert : ByteArray := prog_1_method_11_code
abbrev yX2_insert : MethodName := ⟨"RangeReaders", "insert", "(IZII)I"⟩
theorem hd_X2_insert : (yX2_insert).cls ≠ "java/lang/invoke/MethodHandle" ∧ (yX2_insert).cls ≠ "java/lang/invoke/VarHandle" ∧ (parseMethodDescriptor (yX2_insert).desc).map (fun d => d.parameters.length) = some 4 := by decide +kernel
theorem dX2_insert_0 : decode cX2_insert 0 = .ok (.iload_n 1, 1) := by decide +kernel
theorem dX2_insert_1 : decode cX2_insert 1 = .ok (.iload_n 2, 1) := by decide +kernel
theorem dX2_insert_2 : decode cX2_insert 2 = .ok (.iload_n 3, 1) := by decide +kernel
theorem dX2_insert_3 : decode cX2_insert 3 = .ok (.iload 4, 2) := by decide +kernel
theorem dX2_insert_5 : decode cX2_insert 5 = .ok (.invokestatic 103, 3) := by decide +kernel
theorem dX2_insert_8 : decode cX2_insert 8 = .ok (.ifCond .ne 13, 3) := by decide +kernel
theorem dX2_insert_11 : decode cX2_insert 11 = .ok (.new 39, 3) := by decide +kernel
theorem dX2_insert_14 : decode cX2_insert 14 = .ok (.dup, 1) := by decide +kernel
theorem dX2_insert_15 : decode cX2_insert 15 = .ok (.ldc 107, 2) := by decide +kernel
theorem dX2_insert_17 : decode cX2_insert 17 = .ok (.invokespecial 43, 3) := by decide +kernel
theorem dX2_insert_20 : decode cX2_insert 20 = .ok (.athrow, 1) := by decide +kernel
theorem dX2_insert_21 : decode cX2_insert 21 = .ok (.iload_n 2, 1) := by decide +kernel
theorem dX2_insert_22 : decode cX2_insert 22 = .ok (.invokestatic 109, 3) := by decide +kernel
theorem dX2_insert_25 : decode cX2_insert 25 = .ok (.istore 5, 2) := by decide +kernel
theorem dX2_insert_27 : decode cX2_insert 27 = .ok (.iconst 0, 1) := by decide +kernel
theorem dX2_insert_28 : decode cX2_insert 28 = .ok (.istore 6, 2) := by decide +kernel
theorem dX2_insert_30 : decode cX2_insert 30 = .ok (.iconst 0, 1) := by decide +kernel
theorem dX2_insert_31 : decode cX2_insert 31 = .ok (.istore 7, 2) := by decide +kernel
theorem dX2_insert_33 : decode cX2_insert 33 = .ok (.iload 7, 2) := by decide +kernel
theorem dX2_insert_35 : decode cX2_insert 35 = .ok (.aload_n 0, 1) := by decide +kernel
theorem dX2_insert_36 : decode cX2_insert 36 = .ok (.getfield 15, 3) := by decide +kernel
theorem dX2_insert_39 : decode cX2_insert 39 = .ok (.arraylength, 1) := by decide +kernel
theorem dX2_insert_40 : decode cX2_insert 40 = .ok (.if_icmp .ge 115, 3) := by decide +kernel
theorem dX2_insert_43 : decode cX2_insert 43 = .ok (.aload_n 0, 1) := by decide +kernel
theorem dX2_insert_44 : decode cX2_insert 44 = .ok (.getfield 15, 3) := by decide +kernel
theorem dX2_insert_47 : decode cX2_insert 47 = .ok (.iload 7, 2) := by decide +kernel
theorem dX2_insert_49 : decode cX2_insert 49 = .ok (.aaload, 1) := by decide +kernel
theorem dX2_insert_50 : decode cX2_insert 50 = .ok (.astore 8, 2) := by decide +kernel
theorem dX2_insert_52 : decode cX2_insert 52 = .ok (.aload 8, 2) := by decide +kernel
theorem dX2_insert_54 : decode cX2_insert 54 = .ok (.ifnull 95, 3) := by decide +kernel
theorem dX2_insert_57 : decode cX2_insert 57 = .ok (.aload 8, 2) := by decide +kernel
theorem dX2_insert_59 : decode cX2_insert 59 = .ok (.getfield 85, 3) := by decide +kernel
theorem dX2_insert_62 : decode cX2_insert 62 = .ok (.iload_n 1, 1) := by decide +kernel
theorem dX2_insert_63 : decode cX2_insert 63 = .ok (.iload_n 2, 1) := by decide +kernel
theorem dX2_insert_64 : decode cX2_insert 64 = .ok (.invokevirtual 113, 3) := by decide +kernel
theorem dX2_insert_67 : decode cX2_insert 67 = .ok (.ifCond .eq 82, 3) := by decide +kernel
theorem dX2_insert_70 : decode cX2_insert 70 = .ok (.aload 8, 2) := by decide +kernel
theorem dX2_insert_72 : decode cX2_insert 72 = .ok (.getfield 85, 3) := by decide +kernel
theorem dX2_insert_75 : decode cX2_insert 75 = .ok (.iload_n 2, 1) := by decide +kernel
theorem dX2_insert_76 : decode cX2_insert 76 = .ok (.invokevirtual 117, 3) := by decide +kernel
theorem dX2_insert_79 : decode cX2_insert 79 = .ok (.istore 9, 2) := by decide +kernel
theorem dX2_insert_81 : decode cX2_insert 81 = .ok (.aload 8, 2) := by decide +kernel
theorem dX2_insert_83 : decode cX2_insert 83 = .ok (.getfield 85, 3) := by decide +kernel
theorem dX2_insert_86 : decode cX2_insert 86 = .ok (.iload_n 2, 1) := by decide +kernel
theorem dX2_insert_87 : decode cX2_insert 87 = .ok (.invokevirtual 120, 3) := by decide +kernel
theorem dX2_insert_90 : decode cX2_insert 90 = .ok (.istore 10, 2) := by decide +kernel
theorem dX2_insert_92 : decode cX2_insert 92 = .ok (.iload 9, 2) := by decide +kernel
theorem dX2_insert_94 : decode cX2_insert 94 = .ok (.iload_n 3, 1) := by decide +kernel
theorem dX2_insert_95 : decode cX2_insert 95 = .ok (.if_icmp .ge 8, 3) := by decide +kernel
theorem dX2_insert_98 : decode cX2_insert 98 = .ok (.iload 9, 2) := by decide +kernel
theorem dX2_insert_100 : decode cX2_insert 100 = .ok (.goto 8, 3) := by decide +kernel
theorem dX2_insert_103 : decode cX2_insert 103 = .ok (.iload 9, 2) := by decide +kernel
theorem dX2_insert_105 : decode cX2_insert 105 = .ok (.iload 4, 2) := by decide +kernel
theorem dX2_insert_107 : decode cX2_insert 107 = .ok (.iadd, 1) := by decide +kernel
theorem dX2_insert_108 : decode cX2_insert 108 = .ok (.istore 11, 2) := by decide +kernel
theorem dX2_insert_110 : decode cX2_insert 110 = .ok (.iload 10, 2) := by decide +kernel
theorem dX2_insert_112 : decode cX2_insert 112 = .ok (.iload_n 3, 1) := by decide +kernel
theorem dX2_insert_113 : decode cX2_insert 113 = .ok (.if_icmp .ge 8, 3) := by decide +kernel
theorem dX2_insert_116 : decode cX2_insert 116 = .ok (.iload 10, 2) := by decide +kernel
theorem dX2_insert_118 : decode cX2_insert 118 = .ok (.goto 13, 3) := by decide +kernel
theorem dX2_insert_121 : decode cX2_insert 121 = .ok (.iload 10, 2) := by decide +kernel
theorem dX2_insert_123 : decode cX2_insert 123 = .ok (.iload 4, 2) := by decide +kernel
theorem dX2_insert_125 : decode cX2_insert 125 = .ok (.iadd, 1) := by decide +kernel
theorem dX2_insert_126 : decode cX2_insert 126 = .ok (.iload 5, 2) := by decide +kernel
theorem dX2_insert_128 : decode cX2_insert 128 = .ok (.invokestatic 123, 3) := by decide +kernel
theorem dX2_insert_131 : decode cX2_insert 131 = .ok (.istore 12, 2) := by decide +kernel
theorem dX2_insert_133 : decode cX2_insert 133 = .ok (.iload 6, 2) := by decide +kernel
theorem dX2_insert_135 : decode cX2_insert 135 = .ok (.aload_n 0, 1) := by decide +kernel
theorem dX2_insert_136 : decode cX2_insert 136 = .ok (.iload 7, 2) := by decide +kernel
theorem dX2_insert_138 : decode cX2_insert 138 = .ok (.iload_n 2, 1) := by decide +kernel
theorem dX2_insert_139 : decode cX2_insert 139 = .ok (.iload 11, 2) := by decide +kernel
theorem dX2_insert_141 : decode cX2_insert 141 = .ok (.iload 12, 2) := by decide +kernel
theorem dX2_insert_143 : decode cX2_insert 143 = .ok (.invokevirtual 129, 3) := by decide +kernel
theorem dX2_insert_146 : decode cX2_insert 146 = .ok (.iadd, 1) := by decide +kernel
theorem dX2_insert_147 : decode cX2_insert 147 = .ok (.istore 6, 2) := by decide +kernel
theorem dX2_insert_149 : decode cX2_insert 149 = .ok (.iinc 7 1, 3) := by decide +kernel
theorem dX2_insert_152 : decode cX2_insert 152 = .ok (.goto (-119), 3) := by decide +kernel
theorem dX2_insert_155 : decode cX2_insert 155 = .ok (.iload 6, 2) := by decide +kernel
theorem dX2_insert_157 : decode cX2_insert 157 = .ok (.ireturn, 1) := by decide +kernel
abbrev cX2_areLines : ByteArray := prog_1_method_18_code
abbrev yX2_areLines : MethodName := ⟨"RangeReaders", "areLines", "(IZII)Z"⟩
theorem hd_X2_areLines : (yX2_areLines).cls ≠ "java/lang/invoke/MethodHandle" ∧ (yX2_areLines).cls ≠ "java/lang/invoke/VarHandle" ∧ (parseMethodDescriptor (yX2_areLines).desc).map (fun d => d.parameters.length) = some 4 := by decide +kernel
theorem dX2_areLines_0 : decode cX2_areLines 0 = .ok (.iload_n 0, 1) := by decide +kernel
theorem dX2_areLines_1 : decode cX2_areLines 1 = .ok (.invokestatic 149, 3) := by decide +kernel
theorem dX2_areLines_4 : decode cX2_areLines 4 = .ok (.ifCond .eq 27, 3) := by decide +kernel
theorem dX2_areLines_7 : decode cX2_areLines 7 = .ok (.iload_n 1, 1) := by decide +kernel
theorem dX2_areLines_8 : decode cX2_areLines 8 = .ok (.iload_n 2, 1) := by decide +kernel
theorem dX2_areLines_9 : decode cX2_areLines 9 = .ok (.invokestatic 153, 3) := by decide +kernel
theorem dX2_areLines_12 : decode cX2_areLines 12 = .ok (.ifCond .eq 19, 3) := by decide +kernel
theorem dX2_areLines_15 : decode cX2_areLines 15 = .ok (.iload_n 3, 1) := by decide +kernel
theorem dX2_areLines_16 : decode cX2_areLines 16 = .ok (.iconst 1, 1) := by decide +kernel
theorem dX2_areLines_17 : decode cX2_areLines 17 = .ok (.if_icmp .lt 14, 3) := by decide +kernel
theorem dX2_areLines_20 : decode cX2_areLines 20 = .ok (.iload_n 3, 1) := by decide +kernel
theorem dX2_areLines_21 : decode cX2_areLines 21 = .ok (.sipush 16384, 3) := by decide +kernel
theorem dX2_areLines_24 : decode cX2_areLines 24 = .ok (.if_icmp .gt 7, 3) := by decide +kernel
theorem dX2_areLines_27 : decode cX2_areLines 27 = .ok (.iconst 1, 1) := by decide +kernel
theorem dX2_areLines_28 : decode cX2_areLines 28 = .ok (.goto 4, 3) := by decide +kernel
theorem dX2_areLines_31 : decode cX2_areLines 31 = .ok (.iconst 0, 1) := by decide +kernel
theorem dX2_areLines_32 : decode cX2_areLines 32 = .ok (.ireturn, 1) := by decide +kernel
abbrev cX2_putLines : ByteArray := prog_1_method_24_code
abbrev yX2_putLines : MethodName := ⟨"RangeReaders", "putLines", "(IZII)I"⟩
theorem hd_X2_putLines : (yX2_putLines).cls ≠ "java/lang/invoke/MethodHandle" ∧ (yX2_putLines).cls ≠ "java/lang/invoke/VarHandle" ∧ (parseMethodDescriptor (yX2_putLines).desc).map (fun d => d.parameters.length) = some 4 := by decide +kernel
theorem dX2_putLines_0 : decode cX2_putLines 0 = .ok (.aload_n 0, 1) := by decide +kernel
theorem dX2_putLines_1 : decode cX2_putLines 1 = .ok (.iload_n 1, 1) := by decide +kernel
theorem dX2_putLines_2 : decode cX2_putLines 2 = .ok (.invokevirtual 68, 3) := by decide +kernel
theorem dX2_putLines_5 : decode cX2_putLines 5 = .ok (.astore 5, 2) := by decide +kernel
theorem dX2_putLines_7 : decode cX2_putLines 7 = .ok (.aload 5, 2) := by decide +kernel
theorem dX2_putLines_9 : decode cX2_putLines 9 = .ok (.ifnonnull 5, 3) := by decide +kernel
theorem dX2_putLines_12 : decode cX2_putLines 12 = .ok (.iconst 0, 1) := by decide +kernel
theorem dX2_putLines_13 : decode cX2_putLines 13 = .ok (.ireturn, 1) := by decide +kernel
theorem dX2_putLines_14 : decode cX2_putLines 14 = .ok (.aload 5, 2) := by decide +kernel
theorem dX2_putLines_16 : decode cX2_putLines 16 = .ok (.getfield 85, 3) := by decide +kernel
theorem dX2_putLines_19 : decode cX2_putLines 19 = .ok (.astore 6, 2) := by decide +kernel
theorem dX2_putLines_21 : decode cX2_putLines 21 = .ok (.iload_n 3, 1) := by decide +kernel
theorem dX2_putLines_22 : decode cX2_putLines 22 = .ok (.aload 6, 2) := by decide +kernel
theorem dX2_putLines_24 : decode cX2_putLines 24 = .ok (.iload_n 2, 1) := by decide +kernel
theorem dX2_putLines_25 : decode cX2_putLines 25 = .ok (.invokevirtual 117, 3) := by decide +kernel
theorem dX2_putLines_28 : decode cX2_putLines 28 = .ok (.if_icmp .ne 16, 3) := by decide +kernel
theorem dX2_putLines_31 : decode cX2_putLines 31 = .ok (.iload 4, 2) := by decide +kernel
theorem dX2_putLines_33 : decode cX2_putLines 33 = .ok (.aload 6, 2) := by decide +kernel
theorem dX2_putLines_35 : decode cX2_putLines 35 = .ok (.iload_n 2, 1) := by decide +kernel
theorem dX2_putLines_36 : decode cX2_putLines 36 = .ok (.invokevirtual 120, 3) := by decide +kernel
theorem dX2_putLines_39 : decode cX2_putLines 39 = .ok (.if_icmp .ne 5, 3) := by decide +kernel
theorem dX2_putLines_42 : decode cX2_putLines 42 = .ok (.iconst 0, 1) := by decide +kernel
theorem dX2_putLines_43 : decode cX2_putLines 43 = .ok (.ireturn, 1) := by decide +kernel
theorem dX2_putLines_44 : decode cX2_putLines 44 = .ok (.iload_n 3, 1) := by decide +kernel
theorem dX2_putLines_45 : decode cX2_putLines 45 = .ok (.iload 4, 2) := by decide +kernel
theorem dX2_putLines_47 : decode cX2_putLines 47 = .ok (.if_icmp .le 11, 3) := by decide +kernel
theorem dX2_putLines_50 : decode cX2_putLines 50 = .ok (.aload_n 0, 1) := by decide +kernel
theorem dX2_putLines_51 : decode cX2_putLines 51 = .ok (.iload_n 1, 1) := by decide +kernel
theorem dX2_putLines_52 : decode cX2_putLines 52 = .ok (.invokevirtual 72, 3) := by decide +kernel
theorem dX2_putLines_55 : decode cX2_putLines 55 = .ok (.goto 12, 3) := by decide +kernel
theorem dX2_putLines_58 : decode cX2_putLines 58 = .ok (.aload 6, 2) := by decide +kernel
theorem dX2_putLines_60 : decode cX2_putLines 60 = .ok (.iload_n 2, 1) := by decide +kernel
theorem dX2_putLines_61 : decode cX2_putLines 61 = .ok (.iload_n 3, 1) := by decide +kernel
theorem dX2_putLines_62 : decode cX2_putLines 62 = .ok (.iload 4, 2) := by decide +kernel
theorem dX2_putLines_64 : decode cX2_putLines 64 = .ok (.invokevirtual 161, 3) := by decide +kernel
theorem dX2_putLines_67 : decode cX2_putLines 67 = .ok (.iconst 1, 1) := by decide +kernel
theorem dX2_putLines_68 : decode cX2_putLines 68 = .ok (.ireturn, 1) := by decide +kernel
abbrev cX2_delete : ByteArray := prog_1_method_12_code
abbrev yX2_delete : MethodName := ⟨"RangeReaders", "delete", "(IZII)I"⟩
theorem hd_X2_delete : (yX2_delete).cls ≠ "java/lang/invoke/MethodHandle" ∧ (yX2_delete).cls ≠ "java/lang/invoke/VarHandle" ∧ (parseMethodDescriptor (yX2_delete).desc).map (fun d => d.parameters.length) = some 4 := by decide +kernel
theorem dX2_delete_0 : decode cX2_delete 0 = .ok (.iload_n 1, 1) := by decide +kernel
theorem dX2_delete_1 : decode cX2_delete 1 = .ok (.iload_n 2, 1) := by decide +kernel
theorem dX2_delete_2 : decode cX2_delete 2 = .ok (.iload_n 3, 1) := by decide +kernel
theorem dX2_delete_3 : decode cX2_delete 3 = .ok (.iload 4, 2) := by decide +kernel
theorem dX2_delete_5 : decode cX2_delete 5 = .ok (.invokestatic 103, 3) := by decide +kernel
theorem dX2_delete_8 : decode cX2_delete 8 = .ok (.ifCond .ne 13, 3) := by decide +kernel
theorem dX2_delete_11 : decode cX2_delete 11 = .ok (.new 39, 3) := by decide +kernel
theorem dX2_delete_14 : decode cX2_delete 14 = .ok (.dup, 1) := by decide +kernel
theorem dX2_delete_15 : decode cX2_delete 15 = .ok (.ldc 107, 2) := by decide +kernel
theorem dX2_delete_17 : decode cX2_delete 17 = .ok (.invokespecial 43, 3) := by decide +kernel
theorem dX2_delete_20 : decode cX2_delete 20 = .ok (.athrow, 1) := by decide +kernel
theorem dX2_delete_21 : decode cX2_delete 21 = .ok (.iconst 0, 1) := by decide +kernel
theorem dX2_delete_22 : decode cX2_delete 22 = .ok (.istore 5, 2) := by decide +kernel
theorem dX2_delete_24 : decode cX2_delete 24 = .ok (.iconst 0, 1) := by decide +kernel
theorem dX2_delete_25 : decode cX2_delete 25 = .ok (.istore 6, 2) := by decide +kernel
theorem dX2_delete_27 : decode cX2_delete 27 = .ok (.iload 6, 2) := by decide +kernel
theorem dX2_delete_29 : decode cX2_delete 29 = .ok (.aload_n 0, 1) := by decide +kernel
theorem dX2_delete_30 : decode cX2_delete 30 = .ok (.getfield 15, 3) := by decide +kernel
theorem dX2_delete_33 : decode cX2_delete 33 = .ok (.arraylength, 1) := by decide +kernel
theorem dX2_delete_34 : decode cX2_delete 34 = .ok (.if_icmp .ge 120, 3) := by decide +kernel
theorem dX2_delete_37 : decode cX2_delete 37 = .ok (.aload_n 0, 1) := by decide +kernel
theorem dX2_delete_38 : decode cX2_delete 38 = .ok (.getfield 15, 3) := by decide +kernel
theorem dX2_delete_41 : decode cX2_delete 41 = .ok (.iload 6, 2) := by decide +kernel
theorem dX2_delete_43 : decode cX2_delete 43 = .ok (.aaload, 1) := by decide +kernel
theorem dX2_delete_44 : decode cX2_delete 44 = .ok (.astore 7, 2) := by decide +kernel
theorem dX2_delete_46 : decode cX2_delete 46 = .ok (.aload 7, 2) := by decide +kernel
theorem dX2_delete_48 : decode cX2_delete 48 = .ok (.ifnull 100, 3) := by decide +kernel
theorem dX2_delete_51 : decode cX2_delete 51 = .ok (.aload 7, 2) := by decide +kernel
theorem dX2_delete_53 : decode cX2_delete 53 = .ok (.getfield 85, 3) := by decide +kernel
theorem dX2_delete_56 : decode cX2_delete 56 = .ok (.iload_n 1, 1) := by decide +kernel
theorem dX2_delete_57 : decode cX2_delete 57 = .ok (.iload_n 2, 1) := by decide +kernel
theorem dX2_delete_58 : decode cX2_delete 58 = .ok (.invokevirtual 113, 3) := by decide +kernel
theorem dX2_delete_61 : decode cX2_delete 61 = .ok (.ifCond .eq 87, 3) := by decide +kernel
theorem dX2_delete_64 : decode cX2_delete 64 = .ok (.aload 7, 2) := by decide +kernel
theorem dX2_delete_66 : decode cX2_delete 66 = .ok (.getfield 85, 3) := by decide +kernel
theorem dX2_delete_69 : decode cX2_delete 69 = .ok (.iload_n 2, 1) := by decide +kernel
theorem dX2_delete_70 : decode cX2_delete 70 = .ok (.invokevirtual 117, 3) := by decide +kernel
theorem dX2_delete_73 : decode cX2_delete 73 = .ok (.istore 8, 2) := by decide +kernel
theorem dX2_delete_75 : decode cX2_delete 75 = .ok (.aload 7, 2) := by decide +kernel
theorem dX2_delete_77 : decode cX2_delete 77 = .ok (.getfield 85, 3) := by decide +kernel
theorem dX2_delete_80 : decode cX2_delete 80 = .ok (.iload_n 2, 1) := by decide +kernel
theorem dX2_delete_81 : decode cX2_delete 81 = .ok (.invokevirtual 120, 3) := by decide +kernel
theorem dX2_delete_84 : decode cX2_delete 84 = .ok (.istore 9, 2) := by decide +kernel
theorem dX2_delete_86 : decode cX2_delete 86 = .ok (.iload 8, 2) := by decide +kernel
theorem dX2_delete_88 : decode cX2_delete 88 = .ok (.iload_n 3, 1) := by decide +kernel
theorem dX2_delete_89 : decode cX2_delete 89 = .ok (.if_icmp .ge 8, 3) := by decide +kernel
theorem dX2_delete_92 : decode cX2_delete 92 = .ok (.iload 8, 2) := by decide +kernel
theorem dX2_delete_94 : decode cX2_delete 94 = .ok (.goto 12, 3) := by decide +kernel
theorem dX2_delete_97 : decode cX2_delete 97 = .ok (.iload 8, 2) := by decide +kernel
theorem dX2_delete_99 : decode cX2_delete 99 = .ok (.iload 4, 2) := by decide +kernel
theorem dX2_delete_101 : decode cX2_delete 101 = .ok (.isub, 1) := by decide +kernel
theorem dX2_delete_102 : decode cX2_delete 102 = .ok (.iload_n 3, 1) := by decide +kernel
theorem dX2_delete_103 : decode cX2_delete 103 = .ok (.invokestatic 133, 3) := by decide +kernel
theorem dX2_delete_106 : decode cX2_delete 106 = .ok (.istore 10, 2) := by decide +kernel
theorem dX2_delete_108 : decode cX2_delete 108 = .ok (.iload 9, 2) := by decide +kernel
theorem dX2_delete_110 : decode cX2_delete 110 = .ok (.iload_n 3, 1) := by decide +kernel
theorem dX2_delete_111 : decode cX2_delete 111 = .ok (.if_icmp .ge 8, 3) := by decide +kernel
theorem dX2_delete_114 : decode cX2_delete 114 = .ok (.iload 9, 2) := by decide +kernel
theorem dX2_delete_116 : decode cX2_delete 116 = .ok (.goto 14, 3) := by decide +kernel
theorem dX2_delete_119 : decode cX2_delete 119 = .ok (.iload 9, 2) := by decide +kernel
theorem dX2_delete_121 : decode cX2_delete 121 = .ok (.iload 4, 2) := by decide +kernel
theorem dX2_delete_123 : decode cX2_delete 123 = .ok (.isub, 1) := by decide +kernel
theorem dX2_delete_124 : decode cX2_delete 124 = .ok (.iload_n 3, 1) := by decide +kernel
theorem dX2_delete_125 : decode cX2_delete 125 = .ok (.iconst 1, 1) := by decide +kernel
theorem dX2_delete_126 : decode cX2_delete 126 = .ok (.isub, 1) := by decide +kernel
theorem dX2_delete_127 : decode cX2_delete 127 = .ok (.invokestatic 133, 3) := by decide +kernel
theorem dX2_delete_130 : decode cX2_delete 130 = .ok (.istore 11, 2) := by decide +kernel
theorem dX2_delete_132 : decode cX2_delete 132 = .ok (.iload 5, 2) := by decide +kernel
theorem dX2_delete_134 : decode cX2_delete 134 = .ok (.aload_n 0, 1) := by decide +kernel
theorem dX2_delete_135 : decode cX2_delete 135 = .ok (.iload 6, 2) := by decide +kernel
theorem dX2_delete_137 : decode cX2_delete 137 = .ok (.iload_n 2, 1) := by decide +kernel
theorem dX2_delete_138 : decode cX2_delete 138 = .ok (.iload 10, 2) := by decide +kernel
theorem dX2_delete_140 : decode cX2_delete 140 = .ok (.iload 11, 2) := by decide +kernel
theorem dX2_delete_142 : decode cX2_delete 142 = .ok (.invokevirtual 129, 3) := by decide +kernel
theorem dX2_delete_145 : decode cX2_delete 145 = .ok (.iadd, 1) := by decide +kernel
theorem dX2_delete_146 : decode cX2_delete 146 = .ok (.istore 5, 2) := by decide +kernel
theorem dX2_delete_148 : decode cX2_delete 148 = .ok (.iinc 6 1, 3) := by decide +kernel
theorem dX2_delete_151 : decode cX2_delete 151 = .ok (.goto (-124), 3) := by decide +kernel
theorem dX2_delete_154 : decode cX2_delete 154 = .ok (.iload 5, 2) := by decide +kernel
theorem dX2_delete_156 : decode cX2_delete 156 = .ok (.ireturn, 1) := by decide +kernel
abbrev cX2_move : ByteArray := prog_1_method_13_code
abbrev yX2_move : MethodName := ⟨"RangeReaders", "move", "(III)I"⟩
theorem hd_X2_move : (yX2_move).cls ≠ "java/lang/invoke/MethodHandle" ∧ (yX2_move).cls ≠ "java/lang/invoke/VarHandle" ∧ (parseMethodDescriptor (yX2_move).desc).map (fun d => d.parameters.length) = some 3 := by decide +kernel
theorem dX2_move_0 : decode cX2_move 0 = .ok (.iload_n 1, 1) := by decide +kernel
theorem dX2_move_1 : decode cX2_move 1 = .ok (.iload_n 2, 1) := by decide +kernel
theorem dX2_move_2 : decode cX2_move 2 = .ok (.iload_n 3, 1) := by decide +kernel
theorem dX2_move_3 : decode cX2_move 3 = .ok (.invokestatic 30, 3) := by decide +kernel
theorem dX2_move_6 : decode cX2_move 6 = .ok (.ifCond .ne 13, 3) := by decide +kernel
theorem dX2_move_9 : decode cX2_move 9 = .ok (.new 39, 3) := by decide +kernel
theorem dX2_move_12 : decode cX2_move 12 = .ok (.dup, 1) := by decide +kernel
theorem dX2_move_13 : decode cX2_move 13 = .ok (.ldc 136, 2) := by decide +kernel
theorem dX2_move_15 : decode cX2_move 15 = .ok (.invokespecial 43, 3) := by decide +kernel
theorem dX2_move_18 : decode cX2_move 18 = .ok (.athrow, 1) := by decide +kernel
theorem dX2_move_19 : decode cX2_move 19 = .ok (.aload_n 0, 1) := by decide +kernel
theorem dX2_move_20 : decode cX2_move 20 = .ok (.getfield 7, 3) := by decide +kernel
theorem dX2_move_23 : decode cX2_move 23 = .ok (.ifnonnull 13, 3) := by decide +kernel
theorem dX2_move_26 : decode cX2_move 26 = .ok (.new 49, 3) := by decide +kernel
theorem dX2_move_29 : decode cX2_move 29 = .ok (.dup, 1) := by decide +kernel
theorem dX2_move_30 : decode cX2_move 30 = .ok (.ldc 41, 2) := by decide +kernel
theorem dX2_move_32 : decode cX2_move 32 = .ok (.invokespecial 53, 3) := by decide +kernel
theorem dX2_move_35 : decode cX2_move 35 = .ok (.athrow, 1) := by decide +kernel
theorem dX2_move_36 : decode cX2_move 36 = .ok (.aload_n 0, 1) := by decide +kernel
theorem dX2_move_37 : decode cX2_move 37 = .ok (.getfield 7, 3) := by decide +kernel
theorem dX2_move_40 : decode cX2_move 40 = .ok (.invokevirtual 61, 3) := by decide +kernel
theorem dX2_move_43 : decode cX2_move 43 = .ok (.astore 4, 2) := by decide +kernel
theorem dX2_move_45 : decode cX2_move 45 = .ok (.aload 4, 2) := by decide +kernel
theorem dX2_move_47 : decode cX2_move 47 = .ok (.iload_n 1, 1) := by decide +kernel
theorem dX2_move_48 : decode cX2_move 48 = .ok (.iload_n 2, 1) := by decide +kernel
theorem dX2_move_49 : decode cX2_move 49 = .ok (.aload_n 0, 1) := by decide +kernel
theorem dX2_move_50 : decode cX2_move 50 = .ok (.getfield 7, 3) := by decide +kernel
theorem dX2_move_53 : decode cX2_move 53 = .ok (.getfield 91, 3) := by decide +kernel
theorem dX2_move_56 : decode cX2_move 56 = .ok (.isub, 1) := by decide +kernel
theorem dX2_move_57 : decode cX2_move 57 = .ok (.iload_n 3, 1) := by decide +kernel
theorem dX2_move_58 : decode cX2_move 58 = .ok (.aload_n 0, 1) := by decide +kernel
theorem dX2_move_59 : decode cX2_move 59 = .ok (.getfield 7, 3) := by decide +kernel
theorem dX2_move_62 : decode cX2_move 62 = .ok (.getfield 94, 3) := by decide +kernel
theorem dX2_move_65 : decode cX2_move 65 = .ok (.isub, 1) := by decide +kernel
theorem dX2_move_66 : decode cX2_move 66 = .ok (.invokevirtual 138, 3) := by decide +kernel
theorem dX2_move_69 : decode cX2_move 69 = .ok (.iload_n 1, 1) := by decide +kernel
theorem dX2_move_70 : decode cX2_move 70 = .ok (.aload 4, 2) := by decide +kernel
theorem dX2_move_72 : decode cX2_move 72 = .ok (.getfield 97, 3) := by decide +kernel
theorem dX2_move_75 : decode cX2_move 75 = .ok (.aload 4, 2) := by decide +kernel
theorem dX2_move_77 : decode cX2_move 77 = .ok (.getfield 100, 3) := by decide +kernel
theorem dX2_move_80 : decode cX2_move 80 = .ok (.invokestatic 30, 3) := by decide +kernel
theorem dX2_move_83 : decode cX2_move 83 = .ok (.ifCond .ne 13, 3) := by decide +kernel
theorem dX2_move_86 : decode cX2_move 86 = .ok (.new 39, 3) := by decide +kernel
theorem dX2_move_89 : decode cX2_move 89 = .ok (.dup, 1) := by decide +kernel
theorem dX2_move_90 : decode cX2_move 90 = .ok (.ldc 142, 2) := by decide +kernel
theorem dX2_move_92 : decode cX2_move 92 = .ok (.invokespecial 43, 3) := by decide +kernel
theorem dX2_move_95 : decode cX2_move 95 = .ok (.athrow, 1) := by decide +kernel
theorem dX2_move_96 : decode cX2_move 96 = .ok (.aload_n 0, 1) := by decide +kernel
theorem dX2_move_97 : decode cX2_move 97 = .ok (.aload_n 0, 1) := by decide +kernel
theorem dX2_move_98 : decode cX2_move 98 = .ok (.getfield 7, 3) := by decide +kernel
theorem dX2_move_101 : decode cX2_move 101 = .ok (.aload 4, 2) := by decide +kernel
theorem dX2_move_103 : decode cX2_move 103 = .ok (.invokevirtual 144, 3) := by decide +kernel
theorem dX2_move_106 : decode cX2_move 106 = .ok (.ireturn, 1) := by decide +kernel
abbrev cX2_carry : ByteArray := prog_1_method_25_code
abbrev yX2_carry : MethodName := ⟨"RangeReaders", "carry", "(LRangeReaders$Area;LRangeReaders$Area;)I"⟩
theorem hd_X2_carry : (yX2_carry).cls ≠ "java/lang/invoke/MethodHandle" ∧ (yX2_carry).cls ≠ "java/lang/invoke/VarHandle" ∧ (parseMethodDescriptor (yX2_carry).desc).map (fun d => d.parameters.length) = some 2 := by decide +kernel
theorem dX2_carry_0 : decode cX2_carry 0 = .ok (.aload_n 2, 1) := by decide +kernel
theorem dX2_carry_1 : decode cX2_carry 1 = .ok (.getfield 91, 3) := by decide +kernel
theorem dX2_carry_4 : decode cX2_carry 4 = .ok (.aload_n 1, 1) := by decide +kernel
theorem dX2_carry_5 : decode cX2_carry 5 = .ok (.getfield 91, 3) := by decide +kernel
theorem dX2_carry_8 : decode cX2_carry 8 = .ok (.isub, 1) := by decide +kernel
theorem dX2_carry_9 : decode cX2_carry 9 = .ok (.istore_n 3, 1) := by decide +kernel
theorem dX2_carry_10 : decode cX2_carry 10 = .ok (.aload_n 2, 1) := by decide +kernel
theorem dX2_carry_11 : decode cX2_carry 11 = .ok (.getfield 94, 3) := by decide +kernel
theorem dX2_carry_14 : decode cX2_carry 14 = .ok (.aload_n 1, 1) := by decide +kernel
theorem dX2_carry_15 : decode cX2_carry 15 = .ok (.getfield 94, 3) := by decide +kernel
theorem dX2_carry_18 : decode cX2_carry 18 = .ok (.isub, 1) := by decide +kernel
theorem dX2_carry_19 : decode cX2_carry 19 = .ok (.istore 4, 2) := by decide +kernel
theorem dX2_carry_21 : decode cX2_carry 21 = .ok (.aload_n 2, 1) := by decide +kernel
theorem dX2_carry_22 : decode cX2_carry 22 = .ok (.getfield 88, 3) := by decide +kernel
theorem dX2_carry_25 : decode cX2_carry 25 = .ok (.aload_n 1, 1) := by decide +kernel
theorem dX2_carry_26 : decode cX2_carry 26 = .ok (.getfield 88, 3) := by decide +kernel
theorem dX2_carry_29 : decode cX2_carry 29 = .ok (.if_icmp .ne 14, 3) := by decide +kernel
theorem dX2_carry_32 : decode cX2_carry 32 = .ok (.iload_n 3, 1) := by decide +kernel
theorem dX2_carry_33 : decode cX2_carry 33 = .ok (.ifCond .ne 10, 3) := by decide +kernel
theorem dX2_carry_36 : decode cX2_carry 36 = .ok (.iload 4, 2) := by decide +kernel
theorem dX2_carry_38 : decode cX2_carry 38 = .ok (.ifCond .ne 5, 3) := by decide +kernel
theorem dX2_carry_41 : decode cX2_carry 41 = .ok (.iconst 0, 1) := by decide +kernel
theorem dX2_carry_42 : decode cX2_carry 42 = .ok (.ireturn, 1) := by decide +kernel
theorem dX2_carry_43 : decode cX2_carry 43 = .ok (.iconst 0, 1) := by decide +kernel
theorem dX2_carry_44 : decode cX2_carry 44 = .ok (.istore 5, 2) := by decide +kernel
theorem dX2_carry_46 : decode cX2_carry 46 = .ok (.iconst 0, 1) := by decide +kernel
theorem dX2_carry_47 : decode cX2_carry 47 = .ok (.istore 6, 2) := by decide +kernel
theorem dX2_carry_49 : decode cX2_carry 49 = .ok (.iload 6, 2) := by decide +kernel
theorem dX2_carry_51 : decode cX2_carry 51 = .ok (.aload_n 0, 1) := by decide +kernel
theorem dX2_carry_52 : decode cX2_carry 52 = .ok (.getfield 15, 3) := by decide +kernel
theorem dX2_carry_55 : decode cX2_carry 55 = .ok (.arraylength, 1) := by decide +kernel
theorem dX2_carry_56 : decode cX2_carry 56 = .ok (.if_icmp .ge 82, 3) := by decide +kernel
theorem dX2_carry_59 : decode cX2_carry 59 = .ok (.aload_n 0, 1) := by decide +kernel
theorem dX2_carry_60 : decode cX2_carry 60 = .ok (.getfield 15, 3) := by decide +kernel
theorem dX2_carry_63 : decode cX2_carry 63 = .ok (.iload 6, 2) := by decide +kernel
theorem dX2_carry_65 : decode cX2_carry 65 = .ok (.aaload, 1) := by decide +kernel
theorem dX2_carry_66 : decode cX2_carry 66 = .ok (.astore 7, 2) := by decide +kernel
theorem dX2_carry_68 : decode cX2_carry 68 = .ok (.aload 7, 2) := by decide +kernel
theorem dX2_carry_70 : decode cX2_carry 70 = .ok (.ifnull 36, 3) := by decide +kernel
theorem dX2_carry_73 : decode cX2_carry 73 = .ok (.aload 7, 2) := by decide +kernel
theorem dX2_carry_75 : decode cX2_carry 75 = .ok (.getfield 85, 3) := by decide +kernel
theorem dX2_carry_78 : decode cX2_carry 78 = .ok (.aload_n 1, 1) := by decide +kernel
theorem dX2_carry_79 : decode cX2_carry 79 = .ok (.invokevirtual 165, 3) := by decide +kernel
theorem dX2_carry_82 : decode cX2_carry 82 = .ok (.ifCond .eq 24, 3) := by decide +kernel
theorem dX2_carry_85 : decode cX2_carry 85 = .ok (.aload 7, 2) := by decide +kernel
theorem dX2_carry_87 : decode cX2_carry 87 = .ok (.getfield 85, 3) := by decide +kernel
theorem dX2_carry_90 : decode cX2_carry 90 = .ok (.aload_n 2, 1) := by decide +kernel
theorem dX2_carry_91 : decode cX2_carry 91 = .ok (.getfield 88, 3) := by decide +kernel
theorem dX2_carry_94 : decode cX2_carry 94 = .ok (.iload_n 3, 1) := by decide +kernel
theorem dX2_carry_95 : decode cX2_carry 95 = .ok (.iload 4, 2) := by decide +kernel
theorem dX2_carry_97 : decode cX2_carry 97 = .ok (.invokevirtual 138, 3) := by decide +kernel
theorem dX2_carry_100 : decode cX2_carry 100 = .ok (.iinc 5 1, 3) := by decide +kernel
theorem dX2_carry_103 : decode cX2_carry 103 = .ok (.goto 29, 3) := by decide +kernel
theorem dX2_carry_106 : decode cX2_carry 106 = .ok (.aload 7, 2) := by decide +kernel
theorem dX2_carry_108 : decode cX2_carry 108 = .ok (.ifnull 24, 3) := by decide +kernel
theorem dX2_carry_111 : decode cX2_carry 111 = .ok (.aload 7, 2) := by decide +kernel
theorem dX2_carry_113 : decode cX2_carry 113 = .ok (.getfield 85, 3) := by decide +kernel
theorem dX2_carry_116 : decode cX2_carry 116 = .ok (.aload_n 2, 1) := by decide +kernel
theorem dX2_carry_117 : decode cX2_carry 117 = .ok (.invokevirtual 165, 3) := by decide +kernel
theorem dX2_carry_120 : decode cX2_carry 120 = .ok (.ifCond .eq 12, 3) := by decide +kernel
theorem dX2_carry_123 : decode cX2_carry 123 = .ok (.aload_n 0, 1) := by decide +kernel
theorem dX2_carry_124 : decode cX2_carry 124 = .ok (.iload 6, 2) := by decide +kernel
theorem dX2_carry_126 : decode cX2_carry 126 = .ok (.invokevirtual 72, 3) := by decide +kernel
theorem dX2_carry_129 : decode cX2_carry 129 = .ok (.iinc 5 1, 3) := by decide +kernel
theorem dX2_carry_132 : decode cX2_carry 132 = .ok (.iinc 6 1, 3) := by decide +kernel
theorem dX2_carry_135 : decode cX2_carry 135 = .ok (.goto (-86), 3) := by decide +kernel
theorem dX2_carry_138 : decode cX2_carry 138 = .ok (.iload 5, 2) := by decide +kernel
theorem dX2_carry_140 : decode cX2_carry 140 = .ok (.ireturn, 1) := by decide +kernel
