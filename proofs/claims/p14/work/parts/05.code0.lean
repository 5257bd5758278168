theorem dX0_init_0 : decode cX0_init 0 = .ok (.aload_n 0, 1) := by decide +kernel
theorem dX0_init_1 : decode cX0_init 1 = .ok (.invokespecial 3, 3) := by decide +kernel
theorem dX0_init_4 : decode cX0_init 4 = .ok (.aload_n 0, 1) := by decide +kernel
theorem dX0_init_5 : decode cX0_init 5 = .ok (.aload_n 1, 1) := by decide +kernel
theorem dX0_init_6 : decode cX0_init 6 = .ok (.putfield 9, 3) := by decide +kernel
theorem dX0_init_9 : decode cX0_init 9 = .ok (.aload_n 0, 1) := by decide +kernel
theorem dX0_init_10 : decode cX0_init 10 = .ok (.aload_n 2, 1) := by decide +kernel
theorem dX0_init_11 : decode cX0_init 11 = .ok (.putfield 15, 3) := by decide +kernel
theorem dX0_init_14 : decode cX0_init 14 = .ok (.return_, 1) := by decide +kernel
theorem dX0_branchAndLink_0 : decode cX0_branchAndLink 0 = .ok (.aload_n 0, 1) := by decide +kernel
theorem dX0_branchAndLink_1 : decode cX0_branchAndLink 1 = .ok (.getfield 9, 3) := by decide +kernel
theorem dX0_branchAndLink_4 : decode cX0_branchAndLink 4 = .ok (.aload_n 0, 1) := by decide +kernel
theorem dX0_branchAndLink_5 : decode cX0_branchAndLink 5 = .ok (.getfield 15, 3) := by decide +kernel
theorem dX0_branchAndLink_8 : decode cX0_branchAndLink 8 = .ok (.getfield 19, 3) := by decide +kernel
theorem dX0_branchAndLink_11 : decode cX0_branchAndLink 11 = .ok (.aload_n 0, 1) := by decide +kernel
theorem dX0_branchAndLink_12 : decode cX0_branchAndLink 12 = .ok (.getfield 9, 3) := by decide +kernel
theorem dX0_branchAndLink_15 : decode cX0_branchAndLink 15 = .ok (.getfield 25, 3) := by decide +kernel
theorem dX0_branchAndLink_18 : decode cX0_branchAndLink 18 = .ok (.getfield 31, 3) := by decide +kernel
theorem dX0_branchAndLink_21 : decode cX0_branchAndLink 21 = .ok (.l2i, 1) := by decide +kernel
theorem dX0_branchAndLink_22 : decode cX0_branchAndLink 22 = .ok (.invokevirtual 37, 3) := by decide +kernel
theorem dX0_branchAndLink_25 : decode cX0_branchAndLink 25 = .ok (.aload_n 0, 1) := by decide +kernel
theorem dX0_branchAndLink_26 : decode cX0_branchAndLink 26 = .ok (.iload_n 1, 1) := by decide +kernel
theorem dX0_branchAndLink_27 : decode cX0_branchAndLink 27 = .ok (.iload_n 2, 1) := by decide +kernel
theorem dX0_branchAndLink_28 : decode cX0_branchAndLink 28 = .ok (.invokevirtual 41, 3) := by decide +kernel
theorem dX0_branchAndLink_31 : decode cX0_branchAndLink 31 = .ok (.return_, 1) := by decide +kernel
theorem dX0_branchOnCount_0 : decode cX0_branchOnCount 0 = .ok (.aload_n 0, 1) := by decide +kernel
theorem dX0_branchOnCount_1 : decode cX0_branchOnCount 1 = .ok (.getfield 9, 3) := by decide +kernel
theorem dX0_branchOnCount_4 : decode cX0_branchOnCount 4 = .ok (.aload_n 0, 1) := by decide +kernel
theorem dX0_branchOnCount_5 : decode cX0_branchOnCount 5 = .ok (.getfield 15, 3) := by decide +kernel
theorem dX0_branchOnCount_8 : decode cX0_branchOnCount 8 = .ok (.getfield 19, 3) := by decide +kernel
theorem dX0_branchOnCount_11 : decode cX0_branchOnCount 11 = .ok (.invokevirtual 45, 3) := by decide +kernel
theorem dX0_branchOnCount_14 : decode cX0_branchOnCount 14 = .ok (.iconst 1, 1) := by decide +kernel
theorem dX0_branchOnCount_15 : decode cX0_branchOnCount 15 = .ok (.isub, 1) := by decide +kernel
theorem dX0_branchOnCount_16 : decode cX0_branchOnCount 16 = .ok (.istore_n 3, 1) := by decide +kernel
theorem dX0_branchOnCount_17 : decode cX0_branchOnCount 17 = .ok (.aload_n 0, 1) := by decide +kernel
theorem dX0_branchOnCount_18 : decode cX0_branchOnCount 18 = .ok (.getfield 9, 3) := by decide +kernel
theorem dX0_branchOnCount_21 : decode cX0_branchOnCount 21 = .ok (.aload_n 0, 1) := by decide +kernel
theorem dX0_branchOnCount_22 : decode cX0_branchOnCount 22 = .ok (.getfield 15, 3) := by decide +kernel
theorem dX0_branchOnCount_25 : decode cX0_branchOnCount 25 = .ok (.getfield 19, 3) := by decide +kernel
theorem dX0_branchOnCount_28 : decode cX0_branchOnCount 28 = .ok (.iload_n 3, 1) := by decide +kernel
theorem dX0_branchOnCount_29 : decode cX0_branchOnCount 29 = .ok (.invokevirtual 37, 3) := by decide +kernel
theorem dX0_branchOnCount_32 : decode cX0_branchOnCount 32 = .ok (.aload_n 0, 1) := by decide +kernel
theorem dX0_branchOnCount_33 : decode cX0_branchOnCount 33 = .ok (.iload_n 1, 1) := by decide +kernel
theorem dX0_branchOnCount_34 : decode cX0_branchOnCount 34 = .ok (.ifCond .eq 11, 3) := by decide +kernel
theorem dX0_branchOnCount_37 : decode cX0_branchOnCount 37 = .ok (.iload_n 3, 1) := by decide +kernel
theorem dX0_branchOnCount_38 : decode cX0_branchOnCount 38 = .ok (.ifCond .eq 7, 3) := by decide +kernel
theorem dX0_branchOnCount_41 : decode cX0_branchOnCount 41 = .ok (.iconst 1, 1) := by decide +kernel
theorem dX0_branchOnCount_42 : decode cX0_branchOnCount 42 = .ok (.goto 4, 3) := by decide +kernel
theorem dX0_branchOnCount_45 : decode cX0_branchOnCount 45 = .ok (.iconst 0, 1) := by decide +kernel
theorem dX0_branchOnCount_46 : decode cX0_branchOnCount 46 = .ok (.iload_n 2, 1) := by decide +kernel
theorem dX0_branchOnCount_47 : decode cX0_branchOnCount 47 = .ok (.invokevirtual 41, 3) := by decide +kernel
theorem dX0_branchOnCount_50 : decode cX0_branchOnCount 50 = .ok (.return_, 1) := by decide +kernel
theorem dX0_branchOnCondition_0 : decode cX0_branchOnCondition 0 = .ok (.aload_n 0, 1) := by decide +kernel
theorem dX0_branchOnCondition_1 : decode cX0_branchOnCondition 1 = .ok (.getfield 15, 3) := by decide +kernel
theorem dX0_branchOnCondition_4 : decode cX0_branchOnCondition 4 = .ok (.getfield 19, 3) := by decide +kernel
theorem dX0_branchOnCondition_7 : decode cX0_branchOnCondition 7 = .ok (.aload_n 0, 1) := by decide +kernel
theorem dX0_branchOnCondition_8 : decode cX0_branchOnCondition 8 = .ok (.getfield 9, 3) := by decide +kernel
theorem dX0_branchOnCondition_11 : decode cX0_branchOnCondition 11 = .ok (.getfield 25, 3) := by decide +kernel
theorem dX0_branchOnCondition_14 : decode cX0_branchOnCondition 14 = .ok (.invokevirtual 49, 3) := by decide +kernel
theorem dX0_branchOnCondition_17 : decode cX0_branchOnCondition 17 = .ok (.ishl, 1) := by decide +kernel
theorem dX0_branchOnCondition_18 : decode cX0_branchOnCondition 18 = .ok (.bipush 8, 2) := by decide +kernel
theorem dX0_branchOnCondition_20 : decode cX0_branchOnCondition 20 = .ok (.iand, 1) := by decide +kernel
theorem dX0_branchOnCondition_21 : decode cX0_branchOnCondition 21 = .ok (.ifCond .eq 7, 3) := by decide +kernel
theorem dX0_branchOnCondition_24 : decode cX0_branchOnCondition 24 = .ok (.iconst 1, 1) := by decide +kernel
theorem dX0_branchOnCondition_25 : decode cX0_branchOnCondition 25 = .ok (.goto 4, 3) := by decide +kernel
theorem dX0_branchOnCondition_28 : decode cX0_branchOnCondition 28 = .ok (.iconst 0, 1) := by decide +kernel
theorem dX0_branchOnCondition_29 : decode cX0_branchOnCondition 29 = .ok (.istore_n 3, 1) := by decide +kernel
theorem dX0_branchOnCondition_30 : decode cX0_branchOnCondition 30 = .ok (.aload_n 0, 1) := by decide +kernel
theorem dX0_branchOnCondition_31 : decode cX0_branchOnCondition 31 = .ok (.iload_n 1, 1) := by decide +kernel
theorem dX0_branchOnCondition_32 : decode cX0_branchOnCondition 32 = .ok (.ifCond .eq 11, 3) := by decide +kernel
theorem dX0_branchOnCondition_35 : decode cX0_branchOnCondition 35 = .ok (.iload_n 3, 1) := by decide +kernel
theorem dX0_branchOnCondition_36 : decode cX0_branchOnCondition 36 = .ok (.ifCond .eq 7, 3) := by decide +kernel
theorem dX0_branchOnCondition_39 : decode cX0_branchOnCondition 39 = .ok (.iconst 1, 1) := by decide +kernel
theorem dX0_branchOnCondition_40 : decode cX0_branchOnCondition 40 = .ok (.goto 4, 3) := by decide +kernel
theorem dX0_branchOnCondition_43 : decode cX0_branchOnCondition 43 = .ok (.iconst 0, 1) := by decide +kernel
theorem dX0_branchOnCondition_44 : decode cX0_branchOnCondition 44 = .ok (.iload_n 2, 1) := by decide +kernel
theorem dX0_branchOnCondition_45 : decode cX0_branchOnCondition 45 = .ok (.invokevirtual 41, 3) := by decide +kernel
theorem dX0_branchOnCondition_48 : decode cX0_branchOnCondition 48 = .ok (.return_, 1) := by decide +kernel
theorem dX0_branchOnIndex_0 : decode cX0_branchOnIndex 0 = .ok (.aload_n 0, 1) := by decide +kernel
theorem dX0_branchOnIndex_1 : decode cX0_branchOnIndex 1 = .ok (.getfield 9, 3) := by decide +kernel
theorem dX0_branchOnIndex_4 : decode cX0_branchOnIndex 4 = .ok (.aload_n 0, 1) := by decide +kernel
theorem dX0_branchOnIndex_5 : decode cX0_branchOnIndex 5 = .ok (.getfield 15, 3) := by decide +kernel
theorem dX0_branchOnIndex_8 : decode cX0_branchOnIndex 8 = .ok (.getfield 53, 3) := by decide +kernel
theorem dX0_branchOnIndex_11 : decode cX0_branchOnIndex 11 = .ok (.iconst 1, 1) := by decide +kernel
theorem dX0_branchOnIndex_12 : decode cX0_branchOnIndex 12 = .ok (.ior, 1) := by decide +kernel
theorem dX0_branchOnIndex_13 : decode cX0_branchOnIndex 13 = .ok (.invokevirtual 45, 3) := by decide +kernel
theorem dX0_branchOnIndex_16 : decode cX0_branchOnIndex 16 = .ok (.istore_n 2, 1) := by decide +kernel
theorem dX0_branchOnIndex_17 : decode cX0_branchOnIndex 17 = .ok (.aload_n 0, 1) := by decide +kernel
theorem dX0_branchOnIndex_18 : decode cX0_branchOnIndex 18 = .ok (.getfield 9, 3) := by decide +kernel
theorem dX0_branchOnIndex_21 : decode cX0_branchOnIndex 21 = .ok (.aload_n 0, 1) := by decide +kernel
theorem dX0_branchOnIndex_22 : decode cX0_branchOnIndex 22 = .ok (.getfield 15, 3) := by decide +kernel
theorem dX0_branchOnIndex_25 : decode cX0_branchOnIndex 25 = .ok (.getfield 19, 3) := by decide +kernel
theorem dX0_branchOnIndex_28 : decode cX0_branchOnIndex 28 = .ok (.invokevirtual 45, 3) := by decide +kernel
theorem dX0_branchOnIndex_31 : decode cX0_branchOnIndex 31 = .ok (.aload_n 0, 1) := by decide +kernel
theorem dX0_branchOnIndex_32 : decode cX0_branchOnIndex 32 = .ok (.getfield 9, 3) := by decide +kernel
theorem dX0_branchOnIndex_35 : decode cX0_branchOnIndex 35 = .ok (.aload_n 0, 1) := by decide +kernel
theorem dX0_branchOnIndex_36 : decode cX0_branchOnIndex 36 = .ok (.getfield 15, 3) := by decide +kernel
theorem dX0_branchOnIndex_39 : decode cX0_branchOnIndex 39 = .ok (.getfield 53, 3) := by decide +kernel
theorem dX0_branchOnIndex_42 : decode cX0_branchOnIndex 42 = .ok (.invokevirtual 45, 3) := by decide +kernel
theorem dX0_branchOnIndex_45 : decode cX0_branchOnIndex 45 = .ok (.iadd, 1) := by decide +kernel
theorem dX0_branchOnIndex_46 : decode cX0_branchOnIndex 46 = .ok (.istore_n 3, 1) := by decide +kernel
theorem dX0_branchOnIndex_47 : decode cX0_branchOnIndex 47 = .ok (.aload_n 0, 1) := by decide +kernel
theorem dX0_branchOnIndex_48 : decode cX0_branchOnIndex 48 = .ok (.getfield 9, 3) := by decide +kernel
theorem dX0_branchOnIndex_51 : decode cX0_branchOnIndex 51 = .ok (.aload_n 0, 1) := by decide +kernel
theorem dX0_branchOnIndex_52 : decode cX0_branchOnIndex 52 = .ok (.getfield 15, 3) := by decide +kernel
theorem dX0_branchOnIndex_55 : decode cX0_branchOnIndex 55 = .ok (.getfield 19, 3) := by decide +kernel
theorem dX0_branchOnIndex_58 : decode cX0_branchOnIndex 58 = .ok (.iload_n 3, 1) := by decide +kernel
theorem dX0_branchOnIndex_59 : decode cX0_branchOnIndex 59 = .ok (.invokevirtual 37, 3) := by decide +kernel
theorem dX0_branchOnIndex_62 : decode cX0_branchOnIndex 62 = .ok (.aload_n 0, 1) := by decide +kernel
theorem dX0_branchOnIndex_63 : decode cX0_branchOnIndex 63 = .ok (.iload_n 3, 1) := by decide +kernel
theorem dX0_branchOnIndex_64 : decode cX0_branchOnIndex 64 = .ok (.iload_n 2, 1) := by decide +kernel
theorem dX0_branchOnIndex_65 : decode cX0_branchOnIndex 65 = .ok (.if_icmp .le 7, 3) := by decide +kernel
theorem dX0_branchOnIndex_68 : decode cX0_branchOnIndex 68 = .ok (.iconst 1, 1) := by decide +kernel
theorem dX0_branchOnIndex_69 : decode cX0_branchOnIndex 69 = .ok (.goto 4, 3) := by decide +kernel
theorem dX0_branchOnIndex_72 : decode cX0_branchOnIndex 72 = .ok (.iconst 0, 1) := by decide +kernel
theorem dX0_branchOnIndex_73 : decode cX0_branchOnIndex 73 = .ok (.iload_n 1, 1) := by decide +kernel
theorem dX0_branchOnIndex_74 : decode cX0_branchOnIndex 74 = .ok (.if_icmp .ne 7, 3) := by decide +kernel
theorem dX0_branchOnIndex_77 : decode cX0_branchOnIndex 77 = .ok (.iconst 1, 1) := by decide +kernel
theorem dX0_branchOnIndex_78 : decode cX0_branchOnIndex 78 = .ok (.goto 4, 3) := by decide +kernel
theorem dX0_branchOnIndex_81 : decode cX0_branchOnIndex 81 = .ok (.iconst 0, 1) := by decide +kernel
theorem dX0_branchOnIndex_82 : decode cX0_branchOnIndex 82 = .ok (.aload_n 0, 1) := by decide +kernel
theorem dX0_branchOnIndex_83 : decode cX0_branchOnIndex 83 = .ok (.getfield 15, 3) := by decide +kernel
theorem dX0_branchOnIndex_86 : decode cX0_branchOnIndex 86 = .ok (.getfield 56, 3) := by decide +kernel
theorem dX0_branchOnIndex_89 : decode cX0_branchOnIndex 89 = .ok (.invokevirtual 41, 3) := by decide +kernel
theorem dX0_branchOnIndex_92 : decode cX0_branchOnIndex 92 = .ok (.return_, 1) := by decide +kernel
theorem dX0_goOnAtIf_0 : decode cX0_goOnAtIf 0 = .ok (.iload_n 1, 1) := by decide +kernel
theorem dX0_goOnAtIf_1 : decode cX0_goOnAtIf 1 = .ok (.ifCond .eq 14, 3) := by decide +kernel
theorem dX0_goOnAtIf_4 : decode cX0_goOnAtIf 4 = .ok (.aload_n 0, 1) := by decide +kernel
theorem dX0_goOnAtIf_5 : decode cX0_goOnAtIf 5 = .ok (.getfield 9, 3) := by decide +kernel
theorem dX0_goOnAtIf_8 : decode cX0_goOnAtIf 8 = .ok (.getfield 25, 3) := by decide +kernel
theorem dX0_goOnAtIf_11 : decode cX0_goOnAtIf 11 = .ok (.iload_n 2, 1) := by decide +kernel
theorem dX0_goOnAtIf_12 : decode cX0_goOnAtIf 12 = .ok (.invokevirtual 59, 3) := by decide +kernel
theorem dX0_goOnAtIf_15 : decode cX0_goOnAtIf 15 = .ok (.return_, 1) := by decide +kernel
theorem dX0_setProgramMask_0 : decode cX0_setProgramMask 0 = .ok (.aload_n 0, 1) := by decide +kernel
theorem dX0_setProgramMask_1 : decode cX0_setProgramMask 1 = .ok (.getfield 9, 3) := by decide +kernel
theorem dX0_setProgramMask_4 : decode cX0_setProgramMask 4 = .ok (.getfield 25, 3) := by decide +kernel
theorem dX0_setProgramMask_7 : decode cX0_setProgramMask 7 = .ok (.aload_n 0, 1) := by decide +kernel
theorem dX0_setProgramMask_8 : decode cX0_setProgramMask 8 = .ok (.getfield 9, 3) := by decide +kernel
theorem dX0_setProgramMask_11 : decode cX0_setProgramMask 11 = .ok (.aload_n 0, 1) := by decide +kernel
theorem dX0_setProgramMask_12 : decode cX0_setProgramMask 12 = .ok (.getfield 15, 3) := by decide +kernel
theorem dX0_setProgramMask_15 : decode cX0_setProgramMask 15 = .ok (.getfield 19, 3) := by decide +kernel
theorem dX0_setProgramMask_18 : decode cX0_setProgramMask 18 = .ok (.invokevirtual 45, 3) := by decide +kernel
theorem dX0_setProgramMask_21 : decode cX0_setProgramMask 21 = .ok (.bipush 24, 2) := by decide +kernel
theorem dX0_setProgramMask_23 : decode cX0_setProgramMask 23 = .ok (.ishr, 1) := by decide +kernel
theorem dX0_setProgramMask_24 : decode cX0_setProgramMask 24 = .ok (.invokevirtual 63, 3) := by decide +kernel
theorem dX0_setProgramMask_27 : decode cX0_setProgramMask 27 = .ok (.return_, 1) := by decide +kernel
theorem dX0_setKey_0 : decode cX0_setKey 0 = .ok (.aload_n 0, 1) := by decide +kernel
theorem dX0_setKey_1 : decode cX0_setKey 1 = .ok (.invokevirtual 66, 3) := by decide +kernel
theorem dX0_setKey_4 : decode cX0_setKey 4 = .ok (.istore_n 1, 1) := by decide +kernel
theorem dX0_setKey_5 : decode cX0_setKey 5 = .ok (.aload_n 0, 1) := by decide +kernel
theorem dX0_setKey_6 : decode cX0_setKey 6 = .ok (.getfield 9, 3) := by decide +kernel
theorem dX0_setKey_9 : decode cX0_setKey 9 = .ok (.invokevirtual 69, 3) := by decide +kernel
theorem dX0_setKey_12 : decode cX0_setKey 12 = .ok (.ifCond .eq 33, 3) := by decide +kernel
theorem dX0_setKey_15 : decode cX0_setKey 15 = .ok (.aload_n 0, 1) := by decide +kernel
theorem dX0_setKey_16 : decode cX0_setKey 16 = .ok (.getfield 9, 3) := by decide +kernel
theorem dX0_setKey_19 : decode cX0_setKey 19 = .ok (.getfield 73, 3) := by decide +kernel
theorem dX0_setKey_22 : decode cX0_setKey 22 = .ok (.iload_n 1, 1) := by decide +kernel
theorem dX0_setKey_23 : decode cX0_setKey 23 = .ok (.aload_n 0, 1) := by decide +kernel
theorem dX0_setKey_24 : decode cX0_setKey 24 = .ok (.getfield 9, 3) := by decide +kernel
theorem dX0_setKey_27 : decode cX0_setKey 27 = .ok (.aload_n 0, 1) := by decide +kernel
theorem dX0_setKey_28 : decode cX0_setKey 28 = .ok (.getfield 15, 3) := by decide +kernel
theorem dX0_setKey_31 : decode cX0_setKey 31 = .ok (.getfield 19, 3) := by decide +kernel
theorem dX0_setKey_34 : decode cX0_setKey 34 = .ok (.invokevirtual 45, 3) := by decide +kernel
theorem dX0_setKey_37 : decode cX0_setKey 37 = .ok (.iconst 3, 1) := by decide +kernel
theorem dX0_setKey_38 : decode cX0_setKey 38 = .ok (.ishr, 1) := by decide +kernel
theorem dX0_setKey_39 : decode cX0_setKey 39 = .ok (.bipush 31, 2) := by decide +kernel
theorem dX0_setKey_41 : decode cX0_setKey 41 = .ok (.iand, 1) := by decide +kernel
theorem dX0_setKey_42 : decode cX0_setKey 42 = .ok (.invokevirtual 77, 3) := by decide +kernel
theorem dX0_setKey_45 : decode cX0_setKey 45 = .ok (.return_, 1) := by decide +kernel
theorem dX0_insertKey_0 : decode cX0_insertKey 0 = .ok (.aload_n 0, 1) := by decide +kernel
theorem dX0_insertKey_1 : decode cX0_insertKey 1 = .ok (.invokevirtual 66, 3) := by decide +kernel
theorem dX0_insertKey_4 : decode cX0_insertKey 4 = .ok (.istore_n 1, 1) := by decide +kernel
theorem dX0_insertKey_5 : decode cX0_insertKey 5 = .ok (.aload_n 0, 1) := by decide +kernel
theorem dX0_insertKey_6 : decode cX0_insertKey 6 = .ok (.getfield 9, 3) := by decide +kernel
theorem dX0_insertKey_9 : decode cX0_insertKey 9 = .ok (.invokevirtual 69, 3) := by decide +kernel
theorem dX0_insertKey_12 : decode cX0_insertKey 12 = .ok (.ifCond .eq 30, 3) := by decide +kernel
theorem dX0_insertKey_15 : decode cX0_insertKey 15 = .ok (.aload_n 0, 1) := by decide +kernel
theorem dX0_insertKey_16 : decode cX0_insertKey 16 = .ok (.getfield 9, 3) := by decide +kernel
theorem dX0_insertKey_19 : decode cX0_insertKey 19 = .ok (.aload_n 0, 1) := by decide +kernel
theorem dX0_insertKey_20 : decode cX0_insertKey 20 = .ok (.getfield 15, 3) := by decide +kernel
theorem dX0_insertKey_23 : decode cX0_insertKey 23 = .ok (.getfield 19, 3) := by decide +kernel
theorem dX0_insertKey_26 : decode cX0_insertKey 26 = .ok (.aload_n 0, 1) := by decide +kernel
theorem dX0_insertKey_27 : decode cX0_insertKey 27 = .ok (.getfield 9, 3) := by decide +kernel
theorem dX0_insertKey_30 : decode cX0_insertKey 30 = .ok (.getfield 73, 3) := by decide +kernel
theorem dX0_insertKey_33 : decode cX0_insertKey 33 = .ok (.iload_n 1, 1) := by decide +kernel
theorem dX0_insertKey_34 : decode cX0_insertKey 34 = .ok (.invokevirtual 82, 3) := by decide +kernel
theorem dX0_insertKey_37 : decode cX0_insertKey 37 = .ok (.iconst 3, 1) := by decide +kernel
theorem dX0_insertKey_38 : decode cX0_insertKey 38 = .ok (.ishl, 1) := by decide +kernel
theorem dX0_insertKey_39 : decode cX0_insertKey 39 = .ok (.invokevirtual 85, 3) := by decide +kernel
theorem dX0_insertKey_42 : decode cX0_insertKey 42 = .ok (.return_, 1) := by decide +kernel
theorem dX0_demandBlock_0 : decode cX0_demandBlock 0 = .ok (.aload_n 0, 1) := by decide +kernel
theorem dX0_demandBlock_1 : decode cX0_demandBlock 1 = .ok (.getfield 9, 3) := by decide +kernel
theorem dX0_demandBlock_4 : decode cX0_demandBlock 4 = .ok (.aload_n 0, 1) := by decide +kernel
theorem dX0_demandBlock_5 : decode cX0_demandBlock 5 = .ok (.getfield 15, 3) := by decide +kernel
theorem dX0_demandBlock_8 : decode cX0_demandBlock 8 = .ok (.getfield 53, 3) := by decide +kernel
theorem dX0_demandBlock_11 : decode cX0_demandBlock 11 = .ok (.invokevirtual 45, 3) := by decide +kernel
theorem dX0_demandBlock_14 : decode cX0_demandBlock 14 = .ok (.ldc 88, 2) := by decide +kernel
theorem dX0_demandBlock_16 : decode cX0_demandBlock 16 = .ok (.iand, 1) := by decide +kernel
theorem dX0_demandBlock_17 : decode cX0_demandBlock 17 = .ok (.istore_n 1, 1) := by decide +kernel
theorem dX0_demandBlock_18 : decode cX0_demandBlock 18 = .ok (.aload_n 0, 1) := by decide +kernel
theorem dX0_demandBlock_19 : decode cX0_demandBlock 19 = .ok (.getfield 9, 3) := by decide +kernel
theorem dX0_demandBlock_22 : decode cX0_demandBlock 22 = .ok (.invokevirtual 89, 3) := by decide +kernel
theorem dX0_demandBlock_25 : decode cX0_demandBlock 25 = .ok (.aload_n 0, 1) := by decide +kernel
theorem dX0_demandBlock_26 : decode cX0_demandBlock 26 = .ok (.getfield 9, 3) := by decide +kernel
theorem dX0_demandBlock_29 : decode cX0_demandBlock 29 = .ok (.iload_n 1, 1) := by decide +kernel
theorem dX0_demandBlock_30 : decode cX0_demandBlock 30 = .ok (.bipush 16, 2) := by decide +kernel
theorem dX0_demandBlock_32 : decode cX0_demandBlock 32 = .ok (.invokevirtual 92, 3) := by decide +kernel
theorem dX0_demandBlock_35 : decode cX0_demandBlock 35 = .ok (.iload_n 1, 1) := by decide +kernel
theorem dX0_demandBlock_36 : decode cX0_demandBlock 36 = .ok (.sipush 8192, 3) := by decide +kernel
theorem dX0_demandBlock_39 : decode cX0_demandBlock 39 = .ok (.if_icmp .lt 11, 3) := by decide +kernel
theorem dX0_demandBlock_42 : decode cX0_demandBlock 42 = .ok (.aload_n 0, 1) := by decide +kernel
theorem dX0_demandBlock_43 : decode cX0_demandBlock 43 = .ok (.getfield 9, 3) := by decide +kernel
theorem dX0_demandBlock_46 : decode cX0_demandBlock 46 = .ok (.iconst 5, 1) := by decide +kernel
theorem dX0_demandBlock_47 : decode cX0_demandBlock 47 = .ok (.invokevirtual 95, 3) := by decide +kernel
theorem dX0_demandBlock_50 : decode cX0_demandBlock 50 = .ok (.iload_n 1, 1) := by decide +kernel
theorem dX0_demandBlock_51 : decode cX0_demandBlock 51 = .ok (.sipush 2048, 3) := by decide +kernel
theorem dX0_demandBlock_54 : decode cX0_demandBlock 54 = .ok (.idiv, 1) := by decide +kernel
theorem dX0_demandBlock_55 : decode cX0_demandBlock 55 = .ok (.ireturn, 1) := by decide +kernel
theorem dX0_setSystemMask_0 : decode cX0_setSystemMask 0 = .ok (.aload_n 0, 1) := by decide +kernel
theorem dX0_setSystemMask_1 : decode cX0_setSystemMask 1 = .ok (.getfield 9, 3) := by decide +kernel
theorem dX0_setSystemMask_4 : decode cX0_setSystemMask 4 = .ok (.invokevirtual 89, 3) := by decide +kernel
theorem dX0_setSystemMask_7 : decode cX0_setSystemMask 7 = .ok (.aload_n 0, 1) := by decide +kernel
theorem dX0_setSystemMask_8 : decode cX0_setSystemMask 8 = .ok (.getfield 9, 3) := by decide +kernel
theorem dX0_setSystemMask_11 : decode cX0_setSystemMask 11 = .ok (.aload_n 0, 1) := by decide +kernel
theorem dX0_setSystemMask_12 : decode cX0_setSystemMask 12 = .ok (.getfield 15, 3) := by decide +kernel
theorem dX0_setSystemMask_15 : decode cX0_setSystemMask 15 = .ok (.getfield 56, 3) := by decide +kernel
theorem dX0_setSystemMask_18 : decode cX0_setSystemMask 18 = .ok (.iconst 1, 1) := by decide +kernel
theorem dX0_setSystemMask_19 : decode cX0_setSystemMask 19 = .ok (.iconst 0, 1) := by decide +kernel
theorem dX0_setSystemMask_20 : decode cX0_setSystemMask 20 = .ok (.invokevirtual 98, 3) := by decide +kernel
theorem dX0_setSystemMask_23 : decode cX0_setSystemMask 23 = .ok (.aload_n 0, 1) := by decide +kernel
theorem dX0_setSystemMask_24 : decode cX0_setSystemMask 24 = .ok (.getfield 9, 3) := by decide +kernel
theorem dX0_setSystemMask_27 : decode cX0_setSystemMask 27 = .ok (.invokevirtual 69, 3) := by decide +kernel
theorem dX0_setSystemMask_30 : decode cX0_setSystemMask 30 = .ok (.ifCond .eq 30, 3) := by decide +kernel
theorem dX0_setSystemMask_33 : decode cX0_setSystemMask 33 = .ok (.aload_n 0, 1) := by decide +kernel
theorem dX0_setSystemMask_34 : decode cX0_setSystemMask 34 = .ok (.getfield 9, 3) := by decide +kernel
theorem dX0_setSystemMask_37 : decode cX0_setSystemMask 37 = .ok (.getfield 25, 3) := by decide +kernel
theorem dX0_setSystemMask_40 : decode cX0_setSystemMask 40 = .ok (.aload_n 0, 1) := by decide +kernel
theorem dX0_setSystemMask_41 : decode cX0_setSystemMask 41 = .ok (.getfield 9, 3) := by decide +kernel
theorem dX0_setSystemMask_44 : decode cX0_setSystemMask 44 = .ok (.getfield 73, 3) := by decide +kernel
theorem dX0_setSystemMask_47 : decode cX0_setSystemMask 47 = .ok (.aload_n 0, 1) := by decide +kernel
theorem dX0_setSystemMask_48 : decode cX0_setSystemMask 48 = .ok (.getfield 15, 3) := by decide +kernel
theorem dX0_setSystemMask_51 : decode cX0_setSystemMask 51 = .ok (.getfield 56, 3) := by decide +kernel
theorem dX0_setSystemMask_54 : decode cX0_setSystemMask 54 = .ok (.invokevirtual 102, 3) := by decide +kernel
theorem dX0_setSystemMask_57 : decode cX0_setSystemMask 57 = .ok (.invokevirtual 105, 3) := by decide +kernel
theorem dX0_setSystemMask_60 : decode cX0_setSystemMask 60 = .ok (.return_, 1) := by decide +kernel
theorem dX0_loadStatus_0 : decode cX0_loadStatus 0 = .ok (.aload_n 0, 1) := by decide +kernel
theorem dX0_loadStatus_1 : decode cX0_loadStatus 1 = .ok (.getfield 9, 3) := by decide +kernel
theorem dX0_loadStatus_4 : decode cX0_loadStatus 4 = .ok (.invokevirtual 89, 3) := by decide +kernel
theorem dX0_loadStatus_7 : decode cX0_loadStatus 7 = .ok (.aload_n 0, 1) := by decide +kernel
theorem dX0_loadStatus_8 : decode cX0_loadStatus 8 = .ok (.getfield 9, 3) := by decide +kernel
theorem dX0_loadStatus_11 : decode cX0_loadStatus 11 = .ok (.aload_n 0, 1) := by decide +kernel
theorem dX0_loadStatus_12 : decode cX0_loadStatus 12 = .ok (.getfield 15, 3) := by decide +kernel
theorem dX0_loadStatus_15 : decode cX0_loadStatus 15 = .ok (.getfield 56, 3) := by decide +kernel
theorem dX0_loadStatus_18 : decode cX0_loadStatus 18 = .ok (.bipush 8, 2) := by decide +kernel
theorem dX0_loadStatus_20 : decode cX0_loadStatus 20 = .ok (.iconst 0, 1) := by decide +kernel
theorem dX0_loadStatus_21 : decode cX0_loadStatus 21 = .ok (.invokevirtual 98, 3) := by decide +kernel
theorem dX0_loadStatus_24 : decode cX0_loadStatus 24 = .ok (.aload_n 0, 1) := by decide +kernel
theorem dX0_loadStatus_25 : decode cX0_loadStatus 25 = .ok (.getfield 9, 3) := by decide +kernel
theorem dX0_loadStatus_28 : decode cX0_loadStatus 28 = .ok (.aload_n 0, 1) := by decide +kernel
theorem dX0_loadStatus_29 : decode cX0_loadStatus 29 = .ok (.getfield 15, 3) := by decide +kernel
theorem dX0_loadStatus_32 : decode cX0_loadStatus 32 = .ok (.getfield 56, 3) := by decide +kernel
theorem dX0_loadStatus_35 : decode cX0_loadStatus 35 = .ok (.bipush 8, 2) := by decide +kernel
theorem dX0_loadStatus_37 : decode cX0_loadStatus 37 = .ok (.invokevirtual 92, 3) := by decide +kernel
theorem dX0_loadStatus_40 : decode cX0_loadStatus 40 = .ok (.aload_n 0, 1) := by decide +kernel
theorem dX0_loadStatus_41 : decode cX0_loadStatus 41 = .ok (.getfield 9, 3) := by decide +kernel
theorem dX0_loadStatus_44 : decode cX0_loadStatus 44 = .ok (.invokevirtual 69, 3) := by decide +kernel
theorem dX0_loadStatus_47 : decode cX0_loadStatus 47 = .ok (.ifCond .eq 32, 3) := by decide +kernel
theorem dX0_loadStatus_50 : decode cX0_loadStatus 50 = .ok (.aload_n 0, 1) := by decide +kernel
theorem dX0_loadStatus_51 : decode cX0_loadStatus 51 = .ok (.getfield 9, 3) := by decide +kernel
theorem dX0_loadStatus_54 : decode cX0_loadStatus 54 = .ok (.getfield 25, 3) := by decide +kernel
theorem dX0_loadStatus_57 : decode cX0_loadStatus 57 = .ok (.aload_n 0, 1) := by decide +kernel
theorem dX0_loadStatus_58 : decode cX0_loadStatus 58 = .ok (.getfield 9, 3) := by decide +kernel
theorem dX0_loadStatus_61 : decode cX0_loadStatus 61 = .ok (.getfield 73, 3) := by decide +kernel
theorem dX0_loadStatus_64 : decode cX0_loadStatus 64 = .ok (.aload_n 0, 1) := by decide +kernel
theorem dX0_loadStatus_65 : decode cX0_loadStatus 65 = .ok (.getfield 15, 3) := by decide +kernel
theorem dX0_loadStatus_68 : decode cX0_loadStatus 68 = .ok (.getfield 56, 3) := by decide +kernel
theorem dX0_loadStatus_71 : decode cX0_loadStatus 71 = .ok (.bipush 8, 2) := by decide +kernel
theorem dX0_loadStatus_73 : decode cX0_loadStatus 73 = .ok (.invokevirtual 108, 3) := by decide +kernel
theorem dX0_loadStatus_76 : decode cX0_loadStatus 76 = .ok (.invokevirtual 112, 3) := by decide +kernel
theorem dX0_loadStatus_79 : decode cX0_loadStatus 79 = .ok (.return_, 1) := by decide +kernel
theorem dX1_init_0 : decode cX1_init 0 = .ok (.aload_n 0, 1) := by decide +kernel
theorem dX1_init_1 : decode cX1_init 1 = .ok (.invokespecial 1, 3) := by decide +kernel
theorem dX1_init_4 : decode cX1_init 4 = .ok (.aload_n 0, 1) := by decide +kernel
theorem dX1_init_5 : decode cX1_init 5 = .ok (.bipush 32, 2) := by decide +kernel
theorem dX1_init_7 : decode cX1_init 7 = .ok (.newarray .int, 2) := by decide +kernel
theorem dX1_init_9 : decode cX1_init 9 = .ok (.putfield 9, 3) := by decide +kernel
theorem dX1_init_12 : decode cX1_init 12 = .ok (.return_, 1) := by decide +kernel
theorem dX1_isSign_0 : decode cX1_isSign 0 = .ok (.iload_n 0, 1) := by decide +kernel
theorem dX1_isSign_1 : decode cX1_isSign 1 = .ok (.bipush 9, 2) := by decide +kernel
theorem dX1_isSign_3 : decode cX1_isSign 3 = .ok (.if_icmp .le 7, 3) := by decide +kernel
theorem dX1_isSign_6 : decode cX1_isSign 6 = .ok (.iconst 1, 1) := by decide +kernel
theorem dX1_isSign_7 : decode cX1_isSign 7 = .ok (.goto 4, 3) := by decide +kernel
theorem dX1_isSign_10 : decode cX1_isSign 10 = .ok (.iconst 0, 1) := by decide +kernel
theorem dX1_isSign_11 : decode cX1_isSign 11 = .ok (.ireturn, 1) := by decide +kernel
theorem dX1_isSignBelow_0 : decode cX1_isSignBelow 0 = .ok (.iload_n 0, 1) := by decide +kernel
theorem dX1_isSignBelow_1 : decode cX1_isSignBelow 1 = .ok (.bipush 11, 2) := by decide +kernel
theorem dX1_isSignBelow_3 : decode cX1_isSignBelow 3 = .ok (.if_icmp .eq 9, 3) := by decide +kernel
theorem dX1_isSignBelow_6 : decode cX1_isSignBelow 6 = .ok (.iload_n 0, 1) := by decide +kernel
theorem dX1_isSignBelow_7 : decode cX1_isSignBelow 7 = .ok (.bipush 13, 2) := by decide +kernel
theorem dX1_isSignBelow_9 : decode cX1_isSignBelow 9 = .ok (.if_icmp .ne 7, 3) := by decide +kernel
theorem dX1_isSignBelow_12 : decode cX1_isSignBelow 12 = .ok (.iconst 1, 1) := by decide +kernel
theorem dX1_isSignBelow_13 : decode cX1_isSignBelow 13 = .ok (.goto 4, 3) := by decide +kernel
theorem dX1_isSignBelow_16 : decode cX1_isSignBelow 16 = .ok (.iconst 0, 1) := by decide +kernel
theorem dX1_isSignBelow_17 : decode cX1_isSignBelow 17 = .ok (.ireturn, 1) := by decide +kernel
theorem dX1_take_0 : decode cX1_take 0 = .ok (.iload_n 2, 1) := by decide +kernel
theorem dX1_take_1 : decode cX1_take 1 = .ok (.iload_n 3, 1) := by decide +kernel
theorem dX1_take_2 : decode cX1_take 2 = .ok (.iadd, 1) := by decide +kernel
theorem dX1_take_3 : decode cX1_take 3 = .ok (.iconst 1, 1) := by decide +kernel
theorem dX1_take_4 : decode cX1_take 4 = .ok (.isub, 1) := by decide +kernel
theorem dX1_take_5 : decode cX1_take 5 = .ok (.istore 4, 2) := by decide +kernel
theorem dX1_take_7 : decode cX1_take 7 = .ok (.aload_n 1, 1) := by decide +kernel
theorem dX1_take_8 : decode cX1_take 8 = .ok (.iload 4, 2) := by decide +kernel
theorem dX1_take_10 : decode cX1_take 10 = .ok (.invokevirtual 13, 3) := by decide +kernel
theorem dX1_take_13 : decode cX1_take 13 = .ok (.bipush 15, 2) := by decide +kernel
theorem dX1_take_15 : decode cX1_take 15 = .ok (.iand, 1) := by decide +kernel
theorem dX1_take_16 : decode cX1_take 16 = .ok (.istore 5, 2) := by decide +kernel
theorem dX1_take_18 : decode cX1_take 18 = .ok (.iload 5, 2) := by decide +kernel
theorem dX1_take_20 : decode cX1_take 20 = .ok (.invokestatic 19, 3) := by decide +kernel
theorem dX1_take_23 : decode cX1_take 23 = .ok (.istore 6, 2) := by decide +kernel
theorem dX1_take_25 : decode cX1_take 25 = .ok (.aload_n 0, 1) := by decide +kernel
theorem dX1_take_26 : decode cX1_take 26 = .ok (.iload 5, 2) := by decide +kernel
theorem dX1_take_28 : decode cX1_take 28 = .ok (.invokestatic 23, 3) := by decide +kernel
theorem dX1_take_31 : decode cX1_take 31 = .ok (.putfield 26, 3) := by decide +kernel
theorem dX1_take_34 : decode cX1_take 34 = .ok (.aload_n 0, 1) := by decide +kernel
theorem dX1_take_35 : decode cX1_take 35 = .ok (.getfield 9, 3) := by decide +kernel
theorem dX1_take_38 : decode cX1_take 38 = .ok (.iconst 0, 1) := by decide +kernel
theorem dX1_take_39 : decode cX1_take 39 = .ok (.invokestatic 30, 3) := by decide +kernel
theorem dX1_take_42 : decode cX1_take 42 = .ok (.iconst 0, 1) := by decide +kernel
theorem dX1_take_43 : decode cX1_take 43 = .ok (.istore 7, 2) := by decide +kernel
theorem dX1_take_45 : decode cX1_take 45 = .ok (.iload 7, 2) := by decide +kernel
theorem dX1_take_47 : decode cX1_take 47 = .ok (.iconst 2, 1) := by decide +kernel
theorem dX1_take_48 : decode cX1_take 48 = .ok (.iload_n 3, 1) := by decide +kernel
theorem dX1_take_49 : decode cX1_take 49 = .ok (.imul, 1) := by decide +kernel
theorem dX1_take_50 : decode cX1_take 50 = .ok (.iconst 1, 1) := by decide +kernel
theorem dX1_take_51 : decode cX1_take 51 = .ok (.isub, 1) := by decide +kernel
theorem dX1_take_52 : decode cX1_take 52 = .ok (.if_icmp .ge 81, 3) := by decide +kernel
theorem dX1_take_55 : decode cX1_take 55 = .ok (.iload 7, 2) := by decide +kernel
theorem dX1_take_57 : decode cX1_take 57 = .ok (.bipush 32, 2) := by decide +kernel
theorem dX1_take_59 : decode cX1_take 59 = .ok (.if_icmp .ge 74, 3) := by decide +kernel
theorem dX1_take_62 : decode cX1_take 62 = .ok (.aload_n 1, 1) := by decide +kernel
theorem dX1_take_63 : decode cX1_take 63 = .ok (.iload 4, 2) := by decide +kernel
theorem dX1_take_65 : decode cX1_take 65 = .ok (.iload 7, 2) := by decide +kernel
theorem dX1_take_67 : decode cX1_take 67 = .ok (.iconst 1, 1) := by decide +kernel
theorem dX1_take_68 : decode cX1_take 68 = .ok (.iadd, 1) := by decide +kernel
theorem dX1_take_69 : decode cX1_take 69 = .ok (.iconst 2, 1) := by decide +kernel
theorem dX1_take_70 : decode cX1_take 70 = .ok (.idiv, 1) := by decide +kernel
theorem dX1_take_71 : decode cX1_take 71 = .ok (.isub, 1) := by decide +kernel
theorem dX1_take_72 : decode cX1_take 72 = .ok (.invokevirtual 13, 3) := by decide +kernel
theorem dX1_take_75 : decode cX1_take 75 = .ok (.istore 8, 2) := by decide +kernel
theorem dX1_take_77 : decode cX1_take 77 = .ok (.aload_n 0, 1) := by decide +kernel
theorem dX1_take_78 : decode cX1_take 78 = .ok (.getfield 9, 3) := by decide +kernel
theorem dX1_take_81 : decode cX1_take 81 = .ok (.iload 7, 2) := by decide +kernel
theorem dX1_take_83 : decode cX1_take 83 = .ok (.iload 7, 2) := by decide +kernel
theorem dX1_take_85 : decode cX1_take 85 = .ok (.iconst 2, 1) := by decide +kernel
theorem dX1_take_86 : decode cX1_take 86 = .ok (.irem, 1) := by decide +kernel
theorem dX1_take_87 : decode cX1_take 87 = .ok (.ifCond .ne 10, 3) := by decide +kernel
theorem dX1_take_90 : decode cX1_take 90 = .ok (.iload 8, 2) := by decide +kernel
theorem dX1_take_92 : decode cX1_take 92 = .ok (.iconst 4, 1) := by decide +kernel
theorem dX1_take_93 : decode cX1_take 93 = .ok (.ishr, 1) := by decide +kernel
theorem dX1_take_94 : decode cX1_take 94 = .ok (.goto 8, 3) := by decide +kernel
theorem dX1_take_97 : decode cX1_take 97 = .ok (.iload 8, 2) := by decide +kernel
theorem dX1_take_99 : decode cX1_take 99 = .ok (.bipush 15, 2) := by decide +kernel
theorem dX1_take_101 : decode cX1_take 101 = .ok (.iand, 1) := by decide +kernel
theorem dX1_take_102 : decode cX1_take 102 = .ok (.iastore, 1) := by decide +kernel
theorem dX1_take_103 : decode cX1_take 103 = .ok (.iload 6, 2) := by decide +kernel
theorem dX1_take_105 : decode cX1_take 105 = .ok (.ifCond .eq 19, 3) := by decide +kernel
theorem dX1_take_108 : decode cX1_take 108 = .ok (.aload_n 0, 1) := by decide +kernel
theorem dX1_take_109 : decode cX1_take 109 = .ok (.getfield 9, 3) := by decide +kernel
theorem dX1_take_112 : decode cX1_take 112 = .ok (.iload 7, 2) := by decide +kernel
theorem dX1_take_114 : decode cX1_take 114 = .ok (.iaload, 1) := by decide +kernel
theorem dX1_take_115 : decode cX1_take 115 = .ok (.bipush 9, 2) := by decide +kernel
theorem dX1_take_117 : decode cX1_take 117 = .ok (.if_icmp .gt 7, 3) := by decide +kernel
theorem dX1_take_120 : decode cX1_take 120 = .ok (.iconst 1, 1) := by decide +kernel
theorem dX1_take_121 : decode cX1_take 121 = .ok (.goto 4, 3) := by decide +kernel
theorem dX1_take_124 : decode cX1_take 124 = .ok (.iconst 0, 1) := by decide +kernel
theorem dX1_take_125 : decode cX1_take 125 = .ok (.istore 6, 2) := by decide +kernel
theorem dX1_take_127 : decode cX1_take 127 = .ok (.iinc 7 1, 3) := by decide +kernel
theorem dX1_take_130 : decode cX1_take 130 = .ok (.goto (-85), 3) := by decide +kernel
theorem dX1_take_133 : decode cX1_take 133 = .ok (.iload 6, 2) := by decide +kernel
theorem dX1_take_135 : decode cX1_take 135 = .ok (.ireturn, 1) := by decide +kernel
theorem dX1_give_0 : decode cX1_give 0 = .ok (.iload_n 2, 1) := by decide +kernel
theorem dX1_give_1 : decode cX1_give 1 = .ok (.iload_n 3, 1) := by decide +kernel
theorem dX1_give_2 : decode cX1_give 2 = .ok (.iadd, 1) := by decide +kernel
theorem dX1_give_3 : decode cX1_give 3 = .ok (.iconst 1, 1) := by decide +kernel
theorem dX1_give_4 : decode cX1_give 4 = .ok (.isub, 1) := by decide +kernel
theorem dX1_give_5 : decode cX1_give 5 = .ok (.istore 4, 2) := by decide +kernel
theorem dX1_give_7 : decode cX1_give 7 = .ok (.aload_n 1, 1) := by decide +kernel
theorem dX1_give_8 : decode cX1_give 8 = .ok (.iload 4, 2) := by decide +kernel
theorem dX1_give_10 : decode cX1_give 10 = .ok (.aload_n 0, 1) := by decide +kernel
theorem dX1_give_11 : decode cX1_give 11 = .ok (.iconst 0, 1) := by decide +kernel
theorem dX1_give_12 : decode cX1_give 12 = .ok (.invokevirtual 36, 3) := by decide +kernel
theorem dX1_give_15 : decode cX1_give 15 = .ok (.iconst 4, 1) := by decide +kernel
theorem dX1_give_16 : decode cX1_give 16 = .ok (.ishl, 1) := by decide +kernel
theorem dX1_give_17 : decode cX1_give 17 = .ok (.aload_n 0, 1) := by decide +kernel
theorem dX1_give_18 : decode cX1_give 18 = .ok (.getfield 26, 3) := by decide +kernel
theorem dX1_give_21 : decode cX1_give 21 = .ok (.ifCond .eq 8, 3) := by decide +kernel
theorem dX1_give_24 : decode cX1_give 24 = .ok (.bipush 13, 2) := by decide +kernel
theorem dX1_give_26 : decode cX1_give 26 = .ok (.goto 5, 3) := by decide +kernel
theorem dX1_give_29 : decode cX1_give 29 = .ok (.bipush 12, 2) := by decide +kernel
theorem dX1_give_31 : decode cX1_give 31 = .ok (.ior, 1) := by decide +kernel
theorem dX1_give_32 : decode cX1_give 32 = .ok (.invokevirtual 39, 3) := by decide +kernel
theorem dX1_give_35 : decode cX1_give 35 = .ok (.iconst 1, 1) := by decide +kernel
theorem dX1_give_36 : decode cX1_give 36 = .ok (.istore 5, 2) := by decide +kernel
theorem dX1_give_38 : decode cX1_give 38 = .ok (.iload 5, 2) := by decide +kernel
theorem dX1_give_40 : decode cX1_give 40 = .ok (.iload_n 3, 1) := by decide +kernel
theorem dX1_give_41 : decode cX1_give 41 = .ok (.if_icmp .ge 39, 3) := by decide +kernel
theorem dX1_give_44 : decode cX1_give 44 = .ok (.aload_n 1, 1) := by decide +kernel
theorem dX1_give_45 : decode cX1_give 45 = .ok (.iload 4, 2) := by decide +kernel
theorem dX1_give_47 : decode cX1_give 47 = .ok (.iload 5, 2) := by decide +kernel
theorem dX1_give_49 : decode cX1_give 49 = .ok (.isub, 1) := by decide +kernel
theorem dX1_give_50 : decode cX1_give 50 = .ok (.aload_n 0, 1) := by decide +kernel
theorem dX1_give_51 : decode cX1_give 51 = .ok (.iconst 2, 1) := by decide +kernel
theorem dX1_give_52 : decode cX1_give 52 = .ok (.iload 5, 2) := by decide +kernel
theorem dX1_give_54 : decode cX1_give 54 = .ok (.imul, 1) := by decide +kernel
theorem dX1_give_55 : decode cX1_give 55 = .ok (.invokevirtual 36, 3) := by decide +kernel
theorem dX1_give_58 : decode cX1_give 58 = .ok (.iconst 4, 1) := by decide +kernel
theorem dX1_give_59 : decode cX1_give 59 = .ok (.ishl, 1) := by decide +kernel
theorem dX1_give_60 : decode cX1_give 60 = .ok (.aload_n 0, 1) := by decide +kernel
theorem dX1_give_61 : decode cX1_give 61 = .ok (.iconst 2, 1) := by decide +kernel
theorem dX1_give_62 : decode cX1_give 62 = .ok (.iload 5, 2) := by decide +kernel
theorem dX1_give_64 : decode cX1_give 64 = .ok (.imul, 1) := by decide +kernel
theorem dX1_give_65 : decode cX1_give 65 = .ok (.iconst 1, 1) := by decide +kernel
theorem dX1_give_66 : decode cX1_give 66 = .ok (.isub, 1) := by decide +kernel
theorem dX1_give_67 : decode cX1_give 67 = .ok (.invokevirtual 36, 3) := by decide +kernel
theorem dX1_give_70 : decode cX1_give 70 = .ok (.ior, 1) := by decide +kernel
theorem dX1_give_71 : decode cX1_give 71 = .ok (.invokevirtual 39, 3) := by decide +kernel
theorem dX1_give_74 : decode cX1_give 74 = .ok (.iinc 5 1, 3) := by decide +kernel
theorem dX1_give_77 : decode cX1_give 77 = .ok (.goto (-39), 3) := by decide +kernel
theorem dX1_give_80 : decode cX1_give 80 = .ok (.return_, 1) := by decide +kernel
theorem dX1_digit_0 : decode cX1_digit 0 = .ok (.iload_n 1, 1) := by decide +kernel
theorem dX1_digit_1 : decode cX1_digit 1 = .ok (.ifCond .lt 18, 3) := by decide +kernel
theorem dX1_digit_4 : decode cX1_digit 4 = .ok (.iload_n 1, 1) := by decide +kernel
theorem dX1_digit_5 : decode cX1_digit 5 = .ok (.bipush 32, 2) := by decide +kernel
theorem dX1_digit_7 : decode cX1_digit 7 = .ok (.if_icmp .ge 12, 3) := by decide +kernel
theorem dX1_digit_10 : decode cX1_digit 10 = .ok (.aload_n 0, 1) := by decide +kernel
theorem dX1_digit_11 : decode cX1_digit 11 = .ok (.getfield 9, 3) := by decide +kernel
theorem dX1_digit_14 : decode cX1_digit 14 = .ok (.iload_n 1, 1) := by decide +kernel
theorem dX1_digit_15 : decode cX1_digit 15 = .ok (.iaload, 1) := by decide +kernel
theorem dX1_digit_16 : decode cX1_digit 16 = .ok (.goto 4, 3) := by decide +kernel
theorem dX1_digit_19 : decode cX1_digit 19 = .ok (.iconst 0, 1) := by decide +kernel
theorem dX1_digit_20 : decode cX1_digit 20 = .ok (.ireturn, 1) := by decide +kernel
theorem dX1_isLongerThan_0 : decode cX1_isLongerThan 0 = .ok (.iconst 0, 1) := by decide +kernel
theorem dX1_isLongerThan_1 : decode cX1_isLongerThan 1 = .ok (.istore_n 2, 1) := by decide +kernel
theorem dX1_isLongerThan_2 : decode cX1_isLongerThan 2 = .ok (.iload_n 1, 1) := by decide +kernel
theorem dX1_isLongerThan_3 : decode cX1_isLongerThan 3 = .ok (.iconst 0, 1) := by decide +kernel
theorem dX1_isLongerThan_4 : decode cX1_isLongerThan 4 = .ok (.invokestatic 43, 3) := by decide +kernel
theorem dX1_isLongerThan_7 : decode cX1_isLongerThan 7 = .ok (.istore_n 3, 1) := by decide +kernel
theorem dX1_isLongerThan_8 : decode cX1_isLongerThan 8 = .ok (.iload_n 3, 1) := by decide +kernel
theorem dX1_isLongerThan_9 : decode cX1_isLongerThan 9 = .ok (.bipush 32, 2) := by decide +kernel
theorem dX1_isLongerThan_11 : decode cX1_isLongerThan 11 = .ok (.if_icmp .ge 28, 3) := by decide +kernel
theorem dX1_isLongerThan_14 : decode cX1_isLongerThan 14 = .ok (.iload_n 2, 1) := by decide +kernel
theorem dX1_isLongerThan_15 : decode cX1_isLongerThan 15 = .ok (.ifCond .ne 12, 3) := by decide +kernel
theorem dX1_isLongerThan_18 : decode cX1_isLongerThan 18 = .ok (.aload_n 0, 1) := by decide +kernel
theorem dX1_isLongerThan_19 : decode cX1_isLongerThan 19 = .ok (.getfield 9, 3) := by decide +kernel
theorem dX1_isLongerThan_22 : decode cX1_isLongerThan 22 = .ok (.iload_n 3, 1) := by decide +kernel
theorem dX1_isLongerThan_23 : decode cX1_isLongerThan 23 = .ok (.iaload, 1) := by decide +kernel
theorem dX1_isLongerThan_24 : decode cX1_isLongerThan 24 = .ok (.ifCond .eq 7, 3) := by decide +kernel
theorem dX1_isLongerThan_27 : decode cX1_isLongerThan 27 = .ok (.iconst 1, 1) := by decide +kernel
theorem dX1_isLongerThan_28 : decode cX1_isLongerThan 28 = .ok (.goto 4, 3) := by decide +kernel
theorem dX1_isLongerThan_31 : decode cX1_isLongerThan 31 = .ok (.iconst 0, 1) := by decide +kernel
theorem dX1_isLongerThan_32 : decode cX1_isLongerThan 32 = .ok (.istore_n 2, 1) := by decide +kernel
theorem dX1_isLongerThan_33 : decode cX1_isLongerThan 33 = .ok (.iinc 3 1, 3) := by decide +kernel
theorem dX1_isLongerThan_36 : decode cX1_isLongerThan 36 = .ok (.goto (-28), 3) := by decide +kernel
theorem dX1_isLongerThan_39 : decode cX1_isLongerThan 39 = .ok (.iload_n 2, 1) := by decide +kernel
theorem dX1_isLongerThan_40 : decode cX1_isLongerThan 40 = .ok (.ireturn, 1) := by decide +kernel
theorem dX1_sign_0 : decode cX1_sign 0 = .ok (.aload_n 0, 1) := by decide +kernel
theorem dX1_sign_1 : decode cX1_sign 1 = .ok (.iconst 0, 1) := by decide +kernel
theorem dX1_sign_2 : decode cX1_sign 2 = .ok (.invokevirtual 49, 3) := by decide +kernel
theorem dX1_sign_5 : decode cX1_sign 5 = .ok (.ifCond .ne 7, 3) := by decide +kernel
theorem dX1_sign_8 : decode cX1_sign 8 = .ok (.iconst 0, 1) := by decide +kernel
theorem dX1_sign_9 : decode cX1_sign 9 = .ok (.goto 15, 3) := by decide +kernel
theorem dX1_sign_12 : decode cX1_sign 12 = .ok (.aload_n 0, 1) := by decide +kernel
theorem dX1_sign_13 : decode cX1_sign 13 = .ok (.getfield 26, 3) := by decide +kernel
theorem dX1_sign_16 : decode cX1_sign 16 = .ok (.ifCond .eq 7, 3) := by decide +kernel
theorem dX1_sign_19 : decode cX1_sign 19 = .ok (.iconst (-1), 1) := by decide +kernel
theorem dX1_sign_20 : decode cX1_sign 20 = .ok (.goto 4, 3) := by decide +kernel
theorem dX1_sign_23 : decode cX1_sign 23 = .ok (.iconst 1, 1) := by decide +kernel
theorem dX1_sign_24 : decode cX1_sign 24 = .ok (.ireturn, 1) := by decide +kernel
theorem dX1_setNumber_0 : decode cX1_setNumber 0 = .ok (.aload_n 0, 1) := by decide +kernel
theorem dX1_setNumber_1 : decode cX1_setNumber 1 = .ok (.lload_n 1, 1) := by decide +kernel
theorem dX1_setNumber_2 : decode cX1_setNumber 2 = .ok (.lconst 0, 1) := by decide +kernel
theorem dX1_setNumber_3 : decode cX1_setNumber 3 = .ok (.lcmp, 1) := by decide +kernel
theorem dX1_setNumber_4 : decode cX1_setNumber 4 = .ok (.ifCond .ge 7, 3) := by decide +kernel
theorem dX1_setNumber_7 : decode cX1_setNumber 7 = .ok (.iconst 1, 1) := by decide +kernel
theorem dX1_setNumber_8 : decode cX1_setNumber 8 = .ok (.goto 4, 3) := by decide +kernel
theorem dX1_setNumber_11 : decode cX1_setNumber 11 = .ok (.iconst 0, 1) := by decide +kernel
theorem dX1_setNumber_12 : decode cX1_setNumber 12 = .ok (.putfield 26, 3) := by decide +kernel
theorem dX1_setNumber_15 : decode cX1_setNumber 15 = .ok (.lload_n 1, 1) := by decide +kernel
theorem dX1_setNumber_16 : decode cX1_setNumber 16 = .ok (.lstore_n 3, 1) := by decide +kernel
theorem dX1_setNumber_17 : decode cX1_setNumber 17 = .ok (.iconst 0, 1) := by decide +kernel
theorem dX1_setNumber_18 : decode cX1_setNumber 18 = .ok (.istore 5, 2) := by decide +kernel
theorem dX1_setNumber_20 : decode cX1_setNumber 20 = .ok (.iload 5, 2) := by decide +kernel
theorem dX1_setNumber_22 : decode cX1_setNumber 22 = .ok (.bipush 32, 2) := by decide +kernel
theorem dX1_setNumber_24 : decode cX1_setNumber 24 = .ok (.if_icmp .ge 31, 3) := by decide +kernel
theorem dX1_setNumber_27 : decode cX1_setNumber 27 = .ok (.aload_n 0, 1) := by decide +kernel
theorem dX1_setNumber_28 : decode cX1_setNumber 28 = .ok (.getfield 9, 3) := by decide +kernel
theorem dX1_setNumber_31 : decode cX1_setNumber 31 = .ok (.iload 5, 2) := by decide +kernel
theorem dX1_setNumber_33 : decode cX1_setNumber 33 = .ok (.lload_n 3, 1) := by decide +kernel
theorem dX1_setNumber_34 : decode cX1_setNumber 34 = .ok (.ldc2_w 52, 3) := by decide +kernel
theorem dX1_setNumber_37 : decode cX1_setNumber 37 = .ok (.lrem, 1) := by decide +kernel
theorem dX1_setNumber_38 : decode cX1_setNumber 38 = .ok (.invokestatic 54, 3) := by decide +kernel
theorem dX1_setNumber_41 : decode cX1_setNumber 41 = .ok (.l2i, 1) := by decide +kernel
theorem dX1_setNumber_42 : decode cX1_setNumber 42 = .ok (.iastore, 1) := by decide +kernel
theorem dX1_setNumber_43 : decode cX1_setNumber 43 = .ok (.lload_n 3, 1) := by decide +kernel
theorem dX1_setNumber_44 : decode cX1_setNumber 44 = .ok (.ldc2_w 52, 3) := by decide +kernel
theorem dX1_setNumber_47 : decode cX1_setNumber 47 = .ok (.ldiv, 1) := by decide +kernel
theorem dX1_setNumber_48 : decode cX1_setNumber 48 = .ok (.lstore_n 3, 1) := by decide +kernel
theorem dX1_setNumber_49 : decode cX1_setNumber 49 = .ok (.iinc 5 1, 3) := by decide +kernel
theorem dX1_setNumber_52 : decode cX1_setNumber 52 = .ok (.goto (-32), 3) := by decide +kernel
theorem dX1_setNumber_55 : decode cX1_setNumber 55 = .ok (.return_, 1) := by decide +kernel
theorem dX1_size_0 : decode cX1_size 0 = .ok (.lconst 0, 1) := by decide +kernel
theorem dX1_size_1 : decode cX1_size 1 = .ok (.lstore_n 1, 1) := by decide +kernel
theorem dX1_size_2 : decode cX1_size 2 = .ok (.bipush 14, 2) := by decide +kernel
theorem dX1_size_4 : decode cX1_size 4 = .ok (.istore_n 3, 1) := by decide +kernel
theorem dX1_size_5 : decode cX1_size 5 = .ok (.iload_n 3, 1) := by decide +kernel
theorem dX1_size_6 : decode cX1_size 6 = .ok (.ifCond .lt 23, 3) := by decide +kernel
theorem dX1_size_9 : decode cX1_size 9 = .ok (.lload_n 1, 1) := by decide +kernel
theorem dX1_size_10 : decode cX1_size 10 = .ok (.ldc2_w 52, 3) := by decide +kernel
theorem dX1_size_13 : decode cX1_size 13 = .ok (.lmul, 1) := by decide +kernel
theorem dX1_size_14 : decode cX1_size 14 = .ok (.aload_n 0, 1) := by decide +kernel
theorem dX1_size_15 : decode cX1_size 15 = .ok (.getfield 9, 3) := by decide +kernel
theorem dX1_size_18 : decode cX1_size 18 = .ok (.iload_n 3, 1) := by decide +kernel
theorem dX1_size_19 : decode cX1_size 19 = .ok (.iaload, 1) := by decide +kernel
theorem dX1_size_20 : decode cX1_size 20 = .ok (.i2l, 1) := by decide +kernel
theorem dX1_size_21 : decode cX1_size 21 = .ok (.ladd, 1) := by decide +kernel
theorem dX1_size_22 : decode cX1_size 22 = .ok (.lstore_n 1, 1) := by decide +kernel
theorem dX1_size_23 : decode cX1_size 23 = .ok (.iinc 3 (-1), 3) := by decide +kernel
theorem dX1_size_26 : decode cX1_size 26 = .ok (.goto (-21), 3) := by decide +kernel
theorem dX1_size_29 : decode cX1_size 29 = .ok (.lload_n 1, 1) := by decide +kernel
theorem dX1_size_30 : decode cX1_size 30 = .ok (.lreturn, 1) := by decide +kernel
theorem dX1_add_0 : decode cX1_add 0 = .ok (.aload_n 0, 1) := by decide +kernel
theorem dX1_add_1 : decode cX1_add 1 = .ok (.getfield 26, 3) := by decide +kernel
theorem dX1_add_4 : decode cX1_add 4 = .ok (.aload_n 1, 1) := by decide +kernel
theorem dX1_add_5 : decode cX1_add 5 = .ok (.getfield 26, 3) := by decide +kernel
theorem dX1_add_8 : decode cX1_add 8 = .ok (.if_icmp .ne 13, 3) := by decide +kernel
theorem dX1_add_11 : decode cX1_add 11 = .ok (.aload_n 0, 1) := by decide +kernel
theorem dX1_add_12 : decode cX1_add 12 = .ok (.iconst 1, 1) := by decide +kernel
theorem dX1_add_13 : decode cX1_add 13 = .ok (.aload_n 1, 1) := by decide +kernel
theorem dX1_add_14 : decode cX1_add 14 = .ok (.iconst 1, 1) := by decide +kernel
theorem dX1_add_15 : decode cX1_add 15 = .ok (.invokevirtual 58, 3) := by decide +kernel
theorem dX1_add_18 : decode cX1_add 18 = .ok (.goto 36, 3) := by decide +kernel
theorem dX1_add_21 : decode cX1_add 21 = .ok (.aload_n 0, 1) := by decide +kernel
theorem dX1_add_22 : decode cX1_add 22 = .ok (.aload_n 1, 1) := by decide +kernel
theorem dX1_add_23 : decode cX1_add 23 = .ok (.invokevirtual 62, 3) := by decide +kernel
theorem dX1_add_26 : decode cX1_add 26 = .ok (.ifCond .eq 21, 3) := by decide +kernel
theorem dX1_add_29 : decode cX1_add 29 = .ok (.aload_n 0, 1) := by decide +kernel
theorem dX1_add_30 : decode cX1_add 30 = .ok (.iconst (-1), 1) := by decide +kernel
theorem dX1_add_31 : decode cX1_add 31 = .ok (.aload_n 1, 1) := by decide +kernel
theorem dX1_add_32 : decode cX1_add 32 = .ok (.iconst 1, 1) := by decide +kernel
theorem dX1_add_33 : decode cX1_add 33 = .ok (.invokevirtual 58, 3) := by decide +kernel
theorem dX1_add_36 : decode cX1_add 36 = .ok (.aload_n 0, 1) := by decide +kernel
theorem dX1_add_37 : decode cX1_add 37 = .ok (.aload_n 1, 1) := by decide +kernel
theorem dX1_add_38 : decode cX1_add 38 = .ok (.getfield 26, 3) := by decide +kernel
theorem dX1_add_41 : decode cX1_add 41 = .ok (.putfield 26, 3) := by decide +kernel
theorem dX1_add_44 : decode cX1_add 44 = .ok (.goto 10, 3) := by decide +kernel
theorem dX1_add_47 : decode cX1_add 47 = .ok (.aload_n 0, 1) := by decide +kernel
theorem dX1_add_48 : decode cX1_add 48 = .ok (.iconst 1, 1) := by decide +kernel
theorem dX1_add_49 : decode cX1_add 49 = .ok (.aload_n 1, 1) := by decide +kernel
theorem dX1_add_50 : decode cX1_add 50 = .ok (.iconst (-1), 1) := by decide +kernel
theorem dX1_add_51 : decode cX1_add 51 = .ok (.invokevirtual 58, 3) := by decide +kernel
theorem dX1_add_54 : decode cX1_add 54 = .ok (.aload_n 0, 1) := by decide +kernel
theorem dX1_add_55 : decode cX1_add 55 = .ok (.aload_n 0, 1) := by decide +kernel
theorem dX1_add_56 : decode cX1_add 56 = .ok (.getfield 26, 3) := by decide +kernel
theorem dX1_add_59 : decode cX1_add 59 = .ok (.ifCond .eq 15, 3) := by decide +kernel
theorem dX1_add_62 : decode cX1_add 62 = .ok (.aload_n 0, 1) := by decide +kernel
theorem dX1_add_63 : decode cX1_add 63 = .ok (.iconst 0, 1) := by decide +kernel
theorem dX1_add_64 : decode cX1_add 64 = .ok (.invokevirtual 49, 3) := by decide +kernel
theorem dX1_add_67 : decode cX1_add 67 = .ok (.ifCond .eq 7, 3) := by decide +kernel
theorem dX1_add_70 : decode cX1_add 70 = .ok (.iconst 1, 1) := by decide +kernel
theorem dX1_add_71 : decode cX1_add 71 = .ok (.goto 4, 3) := by decide +kernel
theorem dX1_add_74 : decode cX1_add 74 = .ok (.iconst 0, 1) := by decide +kernel
theorem dX1_add_75 : decode cX1_add 75 = .ok (.putfield 26, 3) := by decide +kernel
theorem dX1_add_78 : decode cX1_add 78 = .ok (.return_, 1) := by decide +kernel
theorem dX1_isSmallerThan_0 : decode cX1_isSmallerThan 0 = .ok (.iconst 0, 1) := by decide +kernel
theorem dX1_isSmallerThan_1 : decode cX1_isSmallerThan 1 = .ok (.istore_n 2, 1) := by decide +kernel
theorem dX1_isSmallerThan_2 : decode cX1_isSmallerThan 2 = .ok (.iconst 0, 1) := by decide +kernel
theorem dX1_isSmallerThan_3 : decode cX1_isSmallerThan 3 = .ok (.istore_n 3, 1) := by decide +kernel
theorem dX1_isSmallerThan_4 : decode cX1_isSmallerThan 4 = .ok (.iload_n 3, 1) := by decide +kernel
theorem dX1_isSmallerThan_5 : decode cX1_isSmallerThan 5 = .ok (.bipush 32, 2) := by decide +kernel
theorem dX1_isSmallerThan_7 : decode cX1_isSmallerThan 7 = .ok (.if_icmp .ge 42, 3) := by decide +kernel
theorem dX1_isSmallerThan_10 : decode cX1_isSmallerThan 10 = .ok (.aload_n 0, 1) := by decide +kernel
theorem dX1_isSmallerThan_11 : decode cX1_isSmallerThan 11 = .ok (.getfield 9, 3) := by decide +kernel
theorem dX1_isSmallerThan_14 : decode cX1_isSmallerThan 14 = .ok (.iload_n 3, 1) := by decide +kernel
theorem dX1_isSmallerThan_15 : decode cX1_isSmallerThan 15 = .ok (.iaload, 1) := by decide +kernel
theorem dX1_isSmallerThan_16 : decode cX1_isSmallerThan 16 = .ok (.aload_n 1, 1) := by decide +kernel
theorem dX1_isSmallerThan_17 : decode cX1_isSmallerThan 17 = .ok (.getfield 9, 3) := by decide +kernel
theorem dX1_isSmallerThan_20 : decode cX1_isSmallerThan 20 = .ok (.iload_n 3, 1) := by decide +kernel
theorem dX1_isSmallerThan_21 : decode cX1_isSmallerThan 21 = .ok (.iaload, 1) := by decide +kernel
theorem dX1_isSmallerThan_22 : decode cX1_isSmallerThan 22 = .ok (.if_icmp .ne 7, 3) := by decide +kernel
theorem dX1_isSmallerThan_25 : decode cX1_isSmallerThan 25 = .ok (.iload_n 2, 1) := by decide +kernel
theorem dX1_isSmallerThan_26 : decode cX1_isSmallerThan 26 = .ok (.goto 16, 3) := by decide +kernel
theorem dX1_isSmallerThan_29 : decode cX1_isSmallerThan 29 = .ok (.aload_n 0, 1) := by decide +kernel
theorem dX1_isSmallerThan_30 : decode cX1_isSmallerThan 30 = .ok (.getfield 9, 3) := by decide +kernel
theorem dX1_isSmallerThan_33 : decode cX1_isSmallerThan 33 = .ok (.iload_n 3, 1) := by decide +kernel
theorem dX1_isSmallerThan_34 : decode cX1_isSmallerThan 34 = .ok (.iaload, 1) := by decide +kernel
theorem dX1_isSmallerThan_35 : decode cX1_isSmallerThan 35 = .ok (.aload_n 1, 1) := by decide +kernel
theorem dX1_isSmallerThan_36 : decode cX1_isSmallerThan 36 = .ok (.getfield 9, 3) := by decide +kernel
theorem dX1_isSmallerThan_39 : decode cX1_isSmallerThan 39 = .ok (.iload_n 3, 1) := by decide +kernel
theorem dX1_isSmallerThan_40 : decode cX1_isSmallerThan 40 = .ok (.iaload, 1) := by decide +kernel
theorem dX1_isSmallerThan_41 : decode cX1_isSmallerThan 41 = .ok (.isub, 1) := by decide +kernel
theorem dX1_isSmallerThan_42 : decode cX1_isSmallerThan 42 = .ok (.istore_n 2, 1) := by decide +kernel
theorem dX1_isSmallerThan_43 : decode cX1_isSmallerThan 43 = .ok (.iinc 3 1, 3) := by decide +kernel
theorem dX1_isSmallerThan_46 : decode cX1_isSmallerThan 46 = .ok (.goto (-42), 3) := by decide +kernel
theorem dX1_isSmallerThan_49 : decode cX1_isSmallerThan 49 = .ok (.iload_n 2, 1) := by decide +kernel
theorem dX1_isSmallerThan_50 : decode cX1_isSmallerThan 50 = .ok (.ifCond .ge 7, 3) := by decide +kernel
theorem dX1_isSmallerThan_53 : decode cX1_isSmallerThan 53 = .ok (.iconst 1, 1) := by decide +kernel
theorem dX1_isSmallerThan_54 : decode cX1_isSmallerThan 54 = .ok (.goto 4, 3) := by decide +kernel
theorem dX1_isSmallerThan_57 : decode cX1_isSmallerThan 57 = .ok (.iconst 0, 1) := by decide +kernel
theorem dX1_isSmallerThan_58 : decode cX1_isSmallerThan 58 = .ok (.ireturn, 1) := by decide +kernel
theorem dX1_combine_0 : decode cX1_combine 0 = .ok (.iconst 0, 1) := by decide +kernel
theorem dX1_combine_1 : decode cX1_combine 1 = .ok (.istore 4, 2) := by decide +kernel
theorem dX1_combine_3 : decode cX1_combine 3 = .ok (.iconst 0, 1) := by decide +kernel
theorem dX1_combine_4 : decode cX1_combine 4 = .ok (.istore 5, 2) := by decide +kernel
theorem dX1_combine_6 : decode cX1_combine 6 = .ok (.iload 5, 2) := by decide +kernel
theorem dX1_combine_8 : decode cX1_combine 8 = .ok (.bipush 32, 2) := by decide +kernel
theorem dX1_combine_10 : decode cX1_combine 10 = .ok (.if_icmp .ge 56, 3) := by decide +kernel
theorem dX1_combine_13 : decode cX1_combine 13 = .ok (.iload_n 1, 1) := by decide +kernel
theorem dX1_combine_14 : decode cX1_combine 14 = .ok (.aload_n 0, 1) := by decide +kernel
theorem dX1_combine_15 : decode cX1_combine 15 = .ok (.getfield 9, 3) := by decide +kernel
theorem dX1_combine_18 : decode cX1_combine 18 = .ok (.iload 5, 2) := by decide +kernel
theorem dX1_combine_20 : decode cX1_combine 20 = .ok (.iaload, 1) := by decide +kernel
theorem dX1_combine_21 : decode cX1_combine 21 = .ok (.imul, 1) := by decide +kernel
theorem dX1_combine_22 : decode cX1_combine 22 = .ok (.iload_n 3, 1) := by decide +kernel
theorem dX1_combine_23 : decode cX1_combine 23 = .ok (.aload_n 2, 1) := by decide +kernel
theorem dX1_combine_24 : decode cX1_combine 24 = .ok (.getfield 9, 3) := by decide +kernel
theorem dX1_combine_27 : decode cX1_combine 27 = .ok (.iload 5, 2) := by decide +kernel
theorem dX1_combine_29 : decode cX1_combine 29 = .ok (.iaload, 1) := by decide +kernel
theorem dX1_combine_30 : decode cX1_combine 30 = .ok (.imul, 1) := by decide +kernel
theorem dX1_combine_31 : decode cX1_combine 31 = .ok (.iadd, 1) := by decide +kernel
theorem dX1_combine_32 : decode cX1_combine 32 = .ok (.iload 4, 2) := by decide +kernel
theorem dX1_combine_34 : decode cX1_combine 34 = .ok (.iadd, 1) := by decide +kernel
theorem dX1_combine_35 : decode cX1_combine 35 = .ok (.istore 6, 2) := by decide +kernel
theorem dX1_combine_37 : decode cX1_combine 37 = .ok (.aload_n 0, 1) := by decide +kernel
theorem dX1_combine_38 : decode cX1_combine 38 = .ok (.getfield 9, 3) := by decide +kernel
theorem dX1_combine_41 : decode cX1_combine 41 = .ok (.iload 5, 2) := by decide +kernel
theorem dX1_combine_43 : decode cX1_combine 43 = .ok (.iload 6, 2) := by decide +kernel
theorem dX1_combine_45 : decode cX1_combine 45 = .ok (.bipush 10, 2) := by decide +kernel
theorem dX1_combine_47 : decode cX1_combine 47 = .ok (.invokestatic 66, 3) := by decide +kernel
theorem dX1_combine_50 : decode cX1_combine 50 = .ok (.iastore, 1) := by decide +kernel
theorem dX1_combine_51 : decode cX1_combine 51 = .ok (.iload 6, 2) := by decide +kernel
theorem dX1_combine_53 : decode cX1_combine 53 = .ok (.bipush 10, 2) := by decide +kernel
theorem dX1_combine_55 : decode cX1_combine 55 = .ok (.invokestatic 69, 3) := by decide +kernel
theorem dX1_combine_58 : decode cX1_combine 58 = .ok (.istore 4, 2) := by decide +kernel
theorem dX1_combine_60 : decode cX1_combine 60 = .ok (.iinc 5 1, 3) := by decide +kernel
theorem dX1_combine_63 : decode cX1_combine 63 = .ok (.goto (-57), 3) := by decide +kernel
theorem dX1_combine_66 : decode cX1_combine 66 = .ok (.return_, 1) := by decide +kernel
theorem dX1_multiply_0 : decode cX1_multiply 0 = .ok (.lconst 0, 1) := by decide +kernel
theorem dX1_multiply_1 : decode cX1_multiply 1 = .ok (.lstore_n 3, 1) := by decide +kernel
theorem dX1_multiply_2 : decode cX1_multiply 2 = .ok (.iconst 0, 1) := by decide +kernel
theorem dX1_multiply_3 : decode cX1_multiply 3 = .ok (.istore 5, 2) := by decide +kernel
theorem dX1_multiply_5 : decode cX1_multiply 5 = .ok (.iload 5, 2) := by decide +kernel
theorem dX1_multiply_7 : decode cX1_multiply 7 = .ok (.bipush 32, 2) := by decide +kernel
theorem dX1_multiply_9 : decode cX1_multiply 9 = .ok (.if_icmp .ge 44, 3) := by decide +kernel
theorem dX1_multiply_12 : decode cX1_multiply 12 = .ok (.aload_n 0, 1) := by decide +kernel
theorem dX1_multiply_13 : decode cX1_multiply 13 = .ok (.getfield 9, 3) := by decide +kernel
theorem dX1_multiply_16 : decode cX1_multiply 16 = .ok (.iload 5, 2) := by decide +kernel
theorem dX1_multiply_18 : decode cX1_multiply 18 = .ok (.iaload, 1) := by decide +kernel
theorem dX1_multiply_19 : decode cX1_multiply 19 = .ok (.i2l, 1) := by decide +kernel
theorem dX1_multiply_20 : decode cX1_multiply 20 = .ok (.lload_n 1, 1) := by decide +kernel
theorem dX1_multiply_21 : decode cX1_multiply 21 = .ok (.lmul, 1) := by decide +kernel
theorem dX1_multiply_22 : decode cX1_multiply 22 = .ok (.lload_n 3, 1) := by decide +kernel
theorem dX1_multiply_23 : decode cX1_multiply 23 = .ok (.ladd, 1) := by decide +kernel
theorem dX1_multiply_24 : decode cX1_multiply 24 = .ok (.lstore 6, 2) := by decide +kernel
theorem dX1_multiply_26 : decode cX1_multiply 26 = .ok (.aload_n 0, 1) := by decide +kernel
theorem dX1_multiply_27 : decode cX1_multiply 27 = .ok (.getfield 9, 3) := by decide +kernel
theorem dX1_multiply_30 : decode cX1_multiply 30 = .ok (.iload 5, 2) := by decide +kernel
theorem dX1_multiply_32 : decode cX1_multiply 32 = .ok (.lload 6, 2) := by decide +kernel
theorem dX1_multiply_34 : decode cX1_multiply 34 = .ok (.ldc2_w 52, 3) := by decide +kernel
theorem dX1_multiply_37 : decode cX1_multiply 37 = .ok (.lrem, 1) := by decide +kernel
theorem dX1_multiply_38 : decode cX1_multiply 38 = .ok (.l2i, 1) := by decide +kernel
theorem dX1_multiply_39 : decode cX1_multiply 39 = .ok (.iastore, 1) := by decide +kernel
theorem dX1_multiply_40 : decode cX1_multiply 40 = .ok (.lload 6, 2) := by decide +kernel
theorem dX1_multiply_42 : decode cX1_multiply 42 = .ok (.ldc2_w 52, 3) := by decide +kernel
theorem dX1_multiply_45 : decode cX1_multiply 45 = .ok (.ldiv, 1) := by decide +kernel
theorem dX1_multiply_46 : decode cX1_multiply 46 = .ok (.lstore_n 3, 1) := by decide +kernel
theorem dX1_multiply_47 : decode cX1_multiply 47 = .ok (.iinc 5 1, 3) := by decide +kernel
theorem dX1_multiply_50 : decode cX1_multiply 50 = .ok (.goto (-45), 3) := by decide +kernel
theorem dX1_multiply_53 : decode cX1_multiply 53 = .ok (.return_, 1) := by decide +kernel
theorem dX1_divide_0 : decode cX1_divide 0 = .ok (.lload_n 1, 1) := by decide +kernel
theorem dX1_divide_1 : decode cX1_divide 1 = .ok (.lconst 0, 1) := by decide +kernel
theorem dX1_divide_2 : decode cX1_divide 2 = .ok (.lcmp, 1) := by decide +kernel
theorem dX1_divide_3 : decode cX1_divide 3 = .ok (.ifCond .gt 5, 3) := by decide +kernel
theorem dX1_divide_6 : decode cX1_divide 6 = .ok (.lconst 0, 1) := by decide +kernel
theorem dX1_divide_7 : decode cX1_divide 7 = .ok (.lreturn, 1) := by decide +kernel
theorem dX1_divide_8 : decode cX1_divide 8 = .ok (.lconst 0, 1) := by decide +kernel
theorem dX1_divide_9 : decode cX1_divide 9 = .ok (.lstore_n 3, 1) := by decide +kernel
theorem dX1_divide_10 : decode cX1_divide 10 = .ok (.bipush 31, 2) := by decide +kernel
theorem dX1_divide_12 : decode cX1_divide 12 = .ok (.istore 5, 2) := by decide +kernel
theorem dX1_divide_14 : decode cX1_divide 14 = .ok (.iload 5, 2) := by decide +kernel
theorem dX1_divide_16 : decode cX1_divide 16 = .ok (.ifCond .lt 39, 3) := by decide +kernel
theorem dX1_divide_19 : decode cX1_divide 19 = .ok (.lload_n 3, 1) := by decide +kernel
theorem dX1_divide_20 : decode cX1_divide 20 = .ok (.ldc2_w 52, 3) := by decide +kernel
theorem dX1_divide_23 : decode cX1_divide 23 = .ok (.lmul, 1) := by decide +kernel
theorem dX1_divide_24 : decode cX1_divide 24 = .ok (.aload_n 0, 1) := by decide +kernel
theorem dX1_divide_25 : decode cX1_divide 25 = .ok (.getfield 9, 3) := by decide +kernel
theorem dX1_divide_28 : decode cX1_divide 28 = .ok (.iload 5, 2) := by decide +kernel
theorem dX1_divide_30 : decode cX1_divide 30 = .ok (.iaload, 1) := by decide +kernel
theorem dX1_divide_31 : decode cX1_divide 31 = .ok (.i2l, 1) := by decide +kernel
theorem dX1_divide_32 : decode cX1_divide 32 = .ok (.ladd, 1) := by decide +kernel
theorem dX1_divide_33 : decode cX1_divide 33 = .ok (.lstore_n 3, 1) := by decide +kernel
theorem dX1_divide_34 : decode cX1_divide 34 = .ok (.aload_n 0, 1) := by decide +kernel
theorem dX1_divide_35 : decode cX1_divide 35 = .ok (.getfield 9, 3) := by decide +kernel
theorem dX1_divide_38 : decode cX1_divide 38 = .ok (.iload 5, 2) := by decide +kernel
theorem dX1_divide_40 : decode cX1_divide 40 = .ok (.lload_n 3, 1) := by decide +kernel
theorem dX1_divide_41 : decode cX1_divide 41 = .ok (.lload_n 1, 1) := by decide +kernel
theorem dX1_divide_42 : decode cX1_divide 42 = .ok (.ldiv, 1) := by decide +kernel
theorem dX1_divide_43 : decode cX1_divide 43 = .ok (.l2i, 1) := by decide +kernel
theorem dX1_divide_44 : decode cX1_divide 44 = .ok (.iastore, 1) := by decide +kernel
theorem dX1_divide_45 : decode cX1_divide 45 = .ok (.lload_n 3, 1) := by decide +kernel
theorem dX1_divide_46 : decode cX1_divide 46 = .ok (.lload_n 1, 1) := by decide +kernel
theorem dX1_divide_47 : decode cX1_divide 47 = .ok (.lrem, 1) := by decide +kernel
theorem dX1_divide_48 : decode cX1_divide 48 = .ok (.lstore_n 3, 1) := by decide +kernel
theorem dX1_divide_49 : decode cX1_divide 49 = .ok (.iinc 5 (-1), 3) := by decide +kernel
theorem dX1_divide_52 : decode cX1_divide 52 = .ok (.goto (-38), 3) := by decide +kernel
theorem dX1_divide_55 : decode cX1_divide 55 = .ok (.lload_n 3, 1) := by decide +kernel
theorem dX1_divide_56 : decode cX1_divide 56 = .ok (.lreturn, 1) := by decide +kernel
theorem dX2_init_0 : decode cX2_init 0 = .ok (.aload_n 0, 1) := by decide +kernel
theorem dX2_init_1 : decode cX2_init 1 = .ok (.invokespecial 3, 3) := by decide +kernel
theorem dX2_init_4 : decode cX2_init 4 = .ok (.aload_n 0, 1) := by decide +kernel
theorem dX2_init_5 : decode cX2_init 5 = .ok (.aload_n 1, 1) := by decide +kernel
theorem dX2_init_6 : decode cX2_init 6 = .ok (.putfield 9, 3) := by decide +kernel
theorem dX2_init_9 : decode cX2_init 9 = .ok (.aload_n 0, 1) := by decide +kernel
theorem dX2_init_10 : decode cX2_init 10 = .ok (.aload_n 2, 1) := by decide +kernel
theorem dX2_init_11 : decode cX2_init 11 = .ok (.putfield 15, 3) := by decide +kernel
theorem dX2_init_14 : decode cX2_init 14 = .ok (.aload_n 0, 1) := by decide +kernel
theorem dX2_init_15 : decode cX2_init 15 = .ok (.aload_n 1, 1) := by decide +kernel
theorem dX2_init_16 : decode cX2_init 16 = .ok (.getfield 19, 3) := by decide +kernel
theorem dX2_init_19 : decode cX2_init 19 = .ok (.putfield 25, 3) := by decide +kernel
theorem dX2_init_22 : decode cX2_init 22 = .ok (.aload_n 0, 1) := by decide +kernel
theorem dX2_init_23 : decode cX2_init 23 = .ok (.new 26, 3) := by decide +kernel
theorem dX2_init_26 : decode cX2_init 26 = .ok (.dup, 1) := by decide +kernel
theorem dX2_init_27 : decode cX2_init 27 = .ok (.invokespecial 28, 3) := by decide +kernel
theorem dX2_init_30 : decode cX2_init 30 = .ok (.putfield 29, 3) := by decide +kernel
theorem dX2_init_33 : decode cX2_init 33 = .ok (.aload_n 0, 1) := by decide +kernel
theorem dX2_init_34 : decode cX2_init 34 = .ok (.new 26, 3) := by decide +kernel
theorem dX2_init_37 : decode cX2_init 37 = .ok (.dup, 1) := by decide +kernel
theorem dX2_init_38 : decode cX2_init 38 = .ok (.invokespecial 28, 3) := by decide +kernel
theorem dX2_init_41 : decode cX2_init 41 = .ok (.putfield 33, 3) := by decide +kernel
theorem dX2_init_44 : decode cX2_init 44 = .ok (.aload_n 0, 1) := by decide +kernel
theorem dX2_init_45 : decode cX2_init 45 = .ok (.bipush 16, 2) := by decide +kernel
theorem dX2_init_47 : decode cX2_init 47 = .ok (.newarray .int, 2) := by decide +kernel
theorem dX2_init_49 : decode cX2_init 49 = .ok (.putfield 36, 3) := by decide +kernel
theorem dX2_init_52 : decode cX2_init 52 = .ok (.return_, 1) := by decide +kernel
theorem dX2_fromRegister_0 : decode cX2_fromRegister 0 = .ok (.aload_n 0, 1) := by decide +kernel
theorem dX2_fromRegister_1 : decode cX2_fromRegister 1 = .ok (.getfield 9, 3) := by decide +kernel
theorem dX2_fromRegister_4 : decode cX2_fromRegister 4 = .ok (.aload_n 0, 1) := by decide +kernel
theorem dX2_fromRegister_5 : decode cX2_fromRegister 5 = .ok (.getfield 15, 3) := by decide +kernel
theorem dX2_fromRegister_8 : decode cX2_fromRegister 8 = .ok (.getfield 40, 3) := by decide +kernel
theorem dX2_fromRegister_11 : decode cX2_fromRegister 11 = .ok (.bipush 8, 2) := by decide +kernel
theorem dX2_fromRegister_13 : decode cX2_fromRegister 13 = .ok (.iconst 1, 1) := by decide +kernel
theorem dX2_fromRegister_14 : decode cX2_fromRegister 14 = .ok (.invokevirtual 46, 3) := by decide +kernel
theorem dX2_fromRegister_17 : decode cX2_fromRegister 17 = .ok (.aload_n 0, 1) := by decide +kernel
theorem dX2_fromRegister_18 : decode cX2_fromRegister 18 = .ok (.getfield 9, 3) := by decide +kernel
theorem dX2_fromRegister_21 : decode cX2_fromRegister 21 = .ok (.aload_n 0, 1) := by decide +kernel
theorem dX2_fromRegister_22 : decode cX2_fromRegister 22 = .ok (.getfield 15, 3) := by decide +kernel
theorem dX2_fromRegister_25 : decode cX2_fromRegister 25 = .ok (.getfield 40, 3) := by decide +kernel
theorem dX2_fromRegister_28 : decode cX2_fromRegister 28 = .ok (.bipush 8, 2) := by decide +kernel
theorem dX2_fromRegister_30 : decode cX2_fromRegister 30 = .ok (.invokevirtual 50, 3) := by decide +kernel
theorem dX2_fromRegister_33 : decode cX2_fromRegister 33 = .ok (.aload_n 0, 1) := by decide +kernel
theorem dX2_fromRegister_34 : decode cX2_fromRegister 34 = .ok (.getfield 9, 3) := by decide +kernel
theorem dX2_fromRegister_37 : decode cX2_fromRegister 37 = .ok (.invokevirtual 54, 3) := by decide +kernel
theorem dX2_fromRegister_40 : decode cX2_fromRegister 40 = .ok (.ifCond .eq 45, 3) := by decide +kernel
theorem dX2_fromRegister_43 : decode cX2_fromRegister 43 = .ok (.aload_n 0, 1) := by decide +kernel
theorem dX2_fromRegister_44 : decode cX2_fromRegister 44 = .ok (.getfield 29, 3) := by decide +kernel
theorem dX2_fromRegister_47 : decode cX2_fromRegister 47 = .ok (.aload_n 0, 1) := by decide +kernel
theorem dX2_fromRegister_48 : decode cX2_fromRegister 48 = .ok (.getfield 9, 3) := by decide +kernel
theorem dX2_fromRegister_51 : decode cX2_fromRegister 51 = .ok (.aload_n 0, 1) := by decide +kernel
theorem dX2_fromRegister_52 : decode cX2_fromRegister 52 = .ok (.getfield 15, 3) := by decide +kernel
theorem dX2_fromRegister_55 : decode cX2_fromRegister 55 = .ok (.getfield 58, 3) := by decide +kernel
theorem dX2_fromRegister_58 : decode cX2_fromRegister 58 = .ok (.invokevirtual 61, 3) := by decide +kernel
theorem dX2_fromRegister_61 : decode cX2_fromRegister 61 = .ok (.i2l, 1) := by decide +kernel
theorem dX2_fromRegister_62 : decode cX2_fromRegister 62 = .ok (.invokevirtual 65, 3) := by decide +kernel
theorem dX2_fromRegister_65 : decode cX2_fromRegister 65 = .ok (.aload_n 0, 1) := by decide +kernel
theorem dX2_fromRegister_66 : decode cX2_fromRegister 66 = .ok (.getfield 29, 3) := by decide +kernel
theorem dX2_fromRegister_69 : decode cX2_fromRegister 69 = .ok (.aload_n 0, 1) := by decide +kernel
theorem dX2_fromRegister_70 : decode cX2_fromRegister 70 = .ok (.getfield 25, 3) := by decide +kernel
theorem dX2_fromRegister_73 : decode cX2_fromRegister 73 = .ok (.aload_n 0, 1) := by decide +kernel
theorem dX2_fromRegister_74 : decode cX2_fromRegister 74 = .ok (.getfield 15, 3) := by decide +kernel
theorem dX2_fromRegister_77 : decode cX2_fromRegister 77 = .ok (.getfield 40, 3) := by decide +kernel
theorem dX2_fromRegister_80 : decode cX2_fromRegister 80 = .ok (.bipush 8, 2) := by decide +kernel
theorem dX2_fromRegister_82 : decode cX2_fromRegister 82 = .ok (.invokevirtual 69, 3) := by decide +kernel
theorem dX2_fromRegister_85 : decode cX2_fromRegister 85 = .ok (.return_, 1) := by decide +kernel
theorem dX2_toRegister_0 : decode cX2_toRegister 0 = .ok (.aload_n 0, 1) := by decide +kernel
theorem dX2_toRegister_1 : decode cX2_toRegister 1 = .ok (.getfield 9, 3) := by decide +kernel
theorem dX2_toRegister_4 : decode cX2_toRegister 4 = .ok (.aload_n 0, 1) := by decide +kernel
theorem dX2_toRegister_5 : decode cX2_toRegister 5 = .ok (.getfield 15, 3) := by decide +kernel
theorem dX2_toRegister_8 : decode cX2_toRegister 8 = .ok (.getfield 40, 3) := by decide +kernel
theorem dX2_toRegister_11 : decode cX2_toRegister 11 = .ok (.bipush 8, 2) := by decide +kernel
theorem dX2_toRegister_13 : decode cX2_toRegister 13 = .ok (.iconst 0, 1) := by decide +kernel
theorem dX2_toRegister_14 : decode cX2_toRegister 14 = .ok (.invokevirtual 46, 3) := by decide +kernel
theorem dX2_toRegister_17 : decode cX2_toRegister 17 = .ok (.aload_n 0, 1) := by decide +kernel
theorem dX2_toRegister_18 : decode cX2_toRegister 18 = .ok (.getfield 9, 3) := by decide +kernel
theorem dX2_toRegister_21 : decode cX2_toRegister 21 = .ok (.aload_n 0, 1) := by decide +kernel
theorem dX2_toRegister_22 : decode cX2_toRegister 22 = .ok (.getfield 15, 3) := by decide +kernel
theorem dX2_toRegister_25 : decode cX2_toRegister 25 = .ok (.getfield 40, 3) := by decide +kernel
theorem dX2_toRegister_28 : decode cX2_toRegister 28 = .ok (.bipush 8, 2) := by decide +kernel
theorem dX2_toRegister_30 : decode cX2_toRegister 30 = .ok (.invokevirtual 50, 3) := by decide +kernel
theorem dX2_toRegister_33 : decode cX2_toRegister 33 = .ok (.aload_n 0, 1) := by decide +kernel
theorem dX2_toRegister_34 : decode cX2_toRegister 34 = .ok (.getfield 9, 3) := by decide +kernel
theorem dX2_toRegister_37 : decode cX2_toRegister 37 = .ok (.invokevirtual 54, 3) := by decide +kernel
theorem dX2_toRegister_40 : decode cX2_toRegister 40 = .ok (.ifCond .eq 35, 3) := by decide +kernel
theorem dX2_toRegister_43 : decode cX2_toRegister 43 = .ok (.aload_n 0, 1) := by decide +kernel
theorem dX2_toRegister_44 : decode cX2_toRegister 44 = .ok (.getfield 29, 3) := by decide +kernel
theorem dX2_toRegister_47 : decode cX2_toRegister 47 = .ok (.aload_n 0, 1) := by decide +kernel
theorem dX2_toRegister_48 : decode cX2_toRegister 48 = .ok (.getfield 25, 3) := by decide +kernel
theorem dX2_toRegister_51 : decode cX2_toRegister 51 = .ok (.aload_n 0, 1) := by decide +kernel
theorem dX2_toRegister_52 : decode cX2_toRegister 52 = .ok (.getfield 15, 3) := by decide +kernel
theorem dX2_toRegister_55 : decode cX2_toRegister 55 = .ok (.getfield 40, 3) := by decide +kernel
theorem dX2_toRegister_58 : decode cX2_toRegister 58 = .ok (.bipush 8, 2) := by decide +kernel
theorem dX2_toRegister_60 : decode cX2_toRegister 60 = .ok (.invokevirtual 73, 3) := by decide +kernel
theorem dX2_toRegister_63 : decode cX2_toRegister 63 = .ok (.ifCond .ne 12, 3) := by decide +kernel
theorem dX2_toRegister_66 : decode cX2_toRegister 66 = .ok (.aload_n 0, 1) := by decide +kernel
theorem dX2_toRegister_67 : decode cX2_toRegister 67 = .ok (.getfield 9, 3) := by decide +kernel
theorem dX2_toRegister_70 : decode cX2_toRegister 70 = .ok (.bipush 7, 2) := by decide +kernel
theorem dX2_toRegister_72 : decode cX2_toRegister 72 = .ok (.invokevirtual 77, 3) := by decide +kernel
theorem dX2_toRegister_75 : decode cX2_toRegister 75 = .ok (.aload_n 0, 1) := by decide +kernel
theorem dX2_toRegister_76 : decode cX2_toRegister 76 = .ok (.getfield 9, 3) := by decide +kernel
theorem dX2_toRegister_79 : decode cX2_toRegister 79 = .ok (.invokevirtual 54, 3) := by decide +kernel
theorem dX2_toRegister_82 : decode cX2_toRegister 82 = .ok (.ifCond .ne 4, 3) := by decide +kernel
theorem dX2_toRegister_85 : decode cX2_toRegister 85 = .ok (.return_, 1) := by decide +kernel
theorem dX2_toRegister_86 : decode cX2_toRegister 86 = .ok (.aload_n 0, 1) := by decide +kernel
theorem dX2_toRegister_87 : decode cX2_toRegister 87 = .ok (.getfield 29, 3) := by decide +kernel
theorem dX2_toRegister_90 : decode cX2_toRegister 90 = .ok (.getfield 81, 3) := by decide +kernel
theorem dX2_toRegister_93 : decode cX2_toRegister 93 = .ok (.ifCond .eq 14, 3) := by decide +kernel
theorem dX2_toRegister_96 : decode cX2_toRegister 96 = .ok (.aload_n 0, 1) := by decide +kernel
theorem dX2_toRegister_97 : decode cX2_toRegister 97 = .ok (.getfield 29, 3) := by decide +kernel
theorem dX2_toRegister_100 : decode cX2_toRegister 100 = .ok (.invokevirtual 85, 3) := by decide +kernel
theorem dX2_toRegister_103 : decode cX2_toRegister 103 = .ok (.lneg, 1) := by decide +kernel
theorem dX2_toRegister_104 : decode cX2_toRegister 104 = .ok (.goto 10, 3) := by decide +kernel
theorem dX2_toRegister_107 : decode cX2_toRegister 107 = .ok (.aload_n 0, 1) := by decide +kernel
theorem dX2_toRegister_108 : decode cX2_toRegister 108 = .ok (.getfield 29, 3) := by decide +kernel
theorem dX2_toRegister_111 : decode cX2_toRegister 111 = .ok (.invokevirtual 85, 3) := by decide +kernel
theorem dX2_toRegister_114 : decode cX2_toRegister 114 = .ok (.lstore_n 1, 1) := by decide +kernel
theorem dX2_toRegister_115 : decode cX2_toRegister 115 = .ok (.lload_n 1, 1) := by decide +kernel
theorem dX2_toRegister_116 : decode cX2_toRegister 116 = .ok (.lload_n 1, 1) := by decide +kernel
theorem dX2_toRegister_117 : decode cX2_toRegister 117 = .ok (.l2i, 1) := by decide +kernel
theorem dX2_toRegister_118 : decode cX2_toRegister 118 = .ok (.i2l, 1) := by decide +kernel
theorem dX2_toRegister_119 : decode cX2_toRegister 119 = .ok (.lcmp, 1) := by decide +kernel
theorem dX2_toRegister_120 : decode cX2_toRegister 120 = .ok (.ifCond .ne 22, 3) := by decide +kernel
theorem dX2_toRegister_123 : decode cX2_toRegister 123 = .ok (.aload_n 0, 1) := by decide +kernel
theorem dX2_toRegister_124 : decode cX2_toRegister 124 = .ok (.getfield 9, 3) := by decide +kernel
theorem dX2_toRegister_127 : decode cX2_toRegister 127 = .ok (.aload_n 0, 1) := by decide +kernel
theorem dX2_toRegister_128 : decode cX2_toRegister 128 = .ok (.getfield 15, 3) := by decide +kernel
theorem dX2_toRegister_131 : decode cX2_toRegister 131 = .ok (.getfield 58, 3) := by decide +kernel
theorem dX2_toRegister_134 : decode cX2_toRegister 134 = .ok (.lload_n 1, 1) := by decide +kernel
theorem dX2_toRegister_135 : decode cX2_toRegister 135 = .ok (.l2i, 1) := by decide +kernel
theorem dX2_toRegister_136 : decode cX2_toRegister 136 = .ok (.invokevirtual 89, 3) := by decide +kernel
theorem dX2_toRegister_139 : decode cX2_toRegister 139 = .ok (.goto 12, 3) := by decide +kernel
theorem dX2_toRegister_142 : decode cX2_toRegister 142 = .ok (.aload_n 0, 1) := by decide +kernel
theorem dX2_toRegister_143 : decode cX2_toRegister 143 = .ok (.getfield 9, 3) := by decide +kernel
theorem dX2_toRegister_146 : decode cX2_toRegister 146 = .ok (.bipush 9, 2) := by decide +kernel
theorem dX2_toRegister_148 : decode cX2_toRegister 148 = .ok (.invokevirtual 77, 3) := by decide +kernel
theorem dX2_toRegister_151 : decode cX2_toRegister 151 = .ok (.return_, 1) := by decide +kernel
theorem dX2_demandBoth_0 : decode cX2_demandBoth 0 = .ok (.aload_n 0, 1) := by decide +kernel
theorem dX2_demandBoth_1 : decode cX2_demandBoth 1 = .ok (.aload_n 0, 1) := by decide +kernel
theorem dX2_demandBoth_2 : decode cX2_demandBoth 2 = .ok (.getfield 15, 3) := by decide +kernel
theorem dX2_demandBoth_5 : decode cX2_demandBoth 5 = .ok (.getfield 58, 3) := by decide +kernel
theorem dX2_demandBoth_8 : decode cX2_demandBoth 8 = .ok (.iconst 1, 1) := by decide +kernel
theorem dX2_demandBoth_9 : decode cX2_demandBoth 9 = .ok (.iadd, 1) := by decide +kernel
theorem dX2_demandBoth_10 : decode cX2_demandBoth 10 = .ok (.putfield 92, 3) := by decide +kernel
theorem dX2_demandBoth_13 : decode cX2_demandBoth 13 = .ok (.aload_n 0, 1) := by decide +kernel
theorem dX2_demandBoth_14 : decode cX2_demandBoth 14 = .ok (.aload_n 0, 1) := by decide +kernel
theorem dX2_demandBoth_15 : decode cX2_demandBoth 15 = .ok (.getfield 15, 3) := by decide +kernel
theorem dX2_demandBoth_18 : decode cX2_demandBoth 18 = .ok (.getfield 95, 3) := by decide +kernel
theorem dX2_demandBoth_21 : decode cX2_demandBoth 21 = .ok (.iconst 1, 1) := by decide +kernel
theorem dX2_demandBoth_22 : decode cX2_demandBoth 22 = .ok (.iadd, 1) := by decide +kernel
theorem dX2_demandBoth_23 : decode cX2_demandBoth 23 = .ok (.putfield 98, 3) := by decide +kernel
theorem dX2_demandBoth_26 : decode cX2_demandBoth 26 = .ok (.aload_n 0, 1) := by decide +kernel
theorem dX2_demandBoth_27 : decode cX2_demandBoth 27 = .ok (.getfield 9, 3) := by decide +kernel
theorem dX2_demandBoth_30 : decode cX2_demandBoth 30 = .ok (.aload_n 0, 1) := by decide +kernel
theorem dX2_demandBoth_31 : decode cX2_demandBoth 31 = .ok (.getfield 15, 3) := by decide +kernel
theorem dX2_demandBoth_34 : decode cX2_demandBoth 34 = .ok (.getfield 40, 3) := by decide +kernel
theorem dX2_demandBoth_37 : decode cX2_demandBoth 37 = .ok (.aload_n 0, 1) := by decide +kernel
theorem dX2_demandBoth_38 : decode cX2_demandBoth 38 = .ok (.getfield 92, 3) := by decide +kernel
theorem dX2_demandBoth_41 : decode cX2_demandBoth 41 = .ok (.iload_n 1, 1) := by decide +kernel
theorem dX2_demandBoth_42 : decode cX2_demandBoth 42 = .ok (.invokevirtual 46, 3) := by decide +kernel
theorem dX2_demandBoth_45 : decode cX2_demandBoth 45 = .ok (.aload_n 0, 1) := by decide +kernel
theorem dX2_demandBoth_46 : decode cX2_demandBoth 46 = .ok (.getfield 9, 3) := by decide +kernel
theorem dX2_demandBoth_49 : decode cX2_demandBoth 49 = .ok (.aload_n 0, 1) := by decide +kernel
theorem dX2_demandBoth_50 : decode cX2_demandBoth 50 = .ok (.getfield 15, 3) := by decide +kernel
theorem dX2_demandBoth_53 : decode cX2_demandBoth 53 = .ok (.getfield 101, 3) := by decide +kernel
theorem dX2_demandBoth_56 : decode cX2_demandBoth 56 = .ok (.aload_n 0, 1) := by decide +kernel
theorem dX2_demandBoth_57 : decode cX2_demandBoth 57 = .ok (.getfield 98, 3) := by decide +kernel
theorem dX2_demandBoth_60 : decode cX2_demandBoth 60 = .ok (.iconst 0, 1) := by decide +kernel
theorem dX2_demandBoth_61 : decode cX2_demandBoth 61 = .ok (.invokevirtual 46, 3) := by decide +kernel
theorem dX2_demandBoth_64 : decode cX2_demandBoth 64 = .ok (.return_, 1) := by decide +kernel
theorem dX2_move_0 : decode cX2_move 0 = .ok (.aload_n 0, 1) := by decide +kernel
theorem dX2_move_1 : decode cX2_move 1 = .ok (.iconst 1, 1) := by decide +kernel
theorem dX2_move_2 : decode cX2_move 2 = .ok (.invokevirtual 104, 3) := by decide +kernel
theorem dX2_move_5 : decode cX2_move 5 = .ok (.aload_n 0, 1) := by decide +kernel
theorem dX2_move_6 : decode cX2_move 6 = .ok (.getfield 9, 3) := by decide +kernel
theorem dX2_move_9 : decode cX2_move 9 = .ok (.invokevirtual 54, 3) := by decide +kernel
theorem dX2_move_12 : decode cX2_move 12 = .ok (.ifCond .ne 4, 3) := by decide +kernel
theorem dX2_move_15 : decode cX2_move 15 = .ok (.return_, 1) := by decide +kernel
theorem dX2_move_16 : decode cX2_move 16 = .ok (.iconst 0, 1) := by decide +kernel
theorem dX2_move_17 : decode cX2_move 17 = .ok (.istore_n 1, 1) := by decide +kernel
theorem dX2_move_18 : decode cX2_move 18 = .ok (.iload_n 1, 1) := by decide +kernel
theorem dX2_move_19 : decode cX2_move 19 = .ok (.aload_n 0, 1) := by decide +kernel
theorem dX2_move_20 : decode cX2_move 20 = .ok (.getfield 98, 3) := by decide +kernel
theorem dX2_move_23 : decode cX2_move 23 = .ok (.if_icmp .ge 41, 3) := by decide +kernel
theorem dX2_move_26 : decode cX2_move 26 = .ok (.aload_n 0, 1) := by decide +kernel
theorem dX2_move_27 : decode cX2_move 27 = .ok (.getfield 36, 3) := by decide +kernel
theorem dX2_move_30 : decode cX2_move 30 = .ok (.iload_n 1, 1) := by decide +kernel
theorem dX2_move_31 : decode cX2_move 31 = .ok (.bipush 15, 2) := by decide +kernel
theorem dX2_move_33 : decode cX2_move 33 = .ok (.iand, 1) := by decide +kernel
theorem dX2_move_34 : decode cX2_move 34 = .ok (.aload_n 0, 1) := by decide +kernel
theorem dX2_move_35 : decode cX2_move 35 = .ok (.getfield 25, 3) := by decide +kernel
theorem dX2_move_38 : decode cX2_move 38 = .ok (.aload_n 0, 1) := by decide +kernel
theorem dX2_move_39 : decode cX2_move 39 = .ok (.getfield 15, 3) := by decide +kernel
theorem dX2_move_42 : decode cX2_move 42 = .ok (.getfield 101, 3) := by decide +kernel
theorem dX2_move_45 : decode cX2_move 45 = .ok (.aload_n 0, 1) := by decide +kernel
theorem dX2_move_46 : decode cX2_move 46 = .ok (.getfield 98, 3) := by decide +kernel
theorem dX2_move_49 : decode cX2_move 49 = .ok (.iadd, 1) := by decide +kernel
theorem dX2_move_50 : decode cX2_move 50 = .ok (.iconst 1, 1) := by decide +kernel
theorem dX2_move_51 : decode cX2_move 51 = .ok (.isub, 1) := by decide +kernel
theorem dX2_move_52 : decode cX2_move 52 = .ok (.iload_n 1, 1) := by decide +kernel
theorem dX2_move_53 : decode cX2_move 53 = .ok (.isub, 1) := by decide +kernel
theorem dX2_move_54 : decode cX2_move 54 = .ok (.invokevirtual 108, 3) := by decide +kernel
theorem dX2_move_57 : decode cX2_move 57 = .ok (.iastore, 1) := by decide +kernel
theorem dX2_move_58 : decode cX2_move 58 = .ok (.iinc 1 1, 3) := by decide +kernel
theorem dX2_move_61 : decode cX2_move 61 = .ok (.goto (-43), 3) := by decide +kernel
theorem dX2_move_64 : decode cX2_move 64 = .ok (.aload_n 0, 1) := by decide +kernel
theorem dX2_move_65 : decode cX2_move 65 = .ok (.getfield 15, 3) := by decide +kernel
theorem dX2_move_68 : decode cX2_move 68 = .ok (.getfield 40, 3) := by decide +kernel
theorem dX2_move_71 : decode cX2_move 71 = .ok (.aload_n 0, 1) := by decide +kernel
theorem dX2_move_72 : decode cX2_move 72 = .ok (.getfield 92, 3) := by decide +kernel
theorem dX2_move_75 : decode cX2_move 75 = .ok (.iadd, 1) := by decide +kernel
theorem dX2_move_76 : decode cX2_move 76 = .ok (.iconst 1, 1) := by decide +kernel
theorem dX2_move_77 : decode cX2_move 77 = .ok (.isub, 1) := by decide +kernel
theorem dX2_move_78 : decode cX2_move 78 = .ok (.istore_n 1, 1) := by decide +kernel
theorem dX2_move_79 : decode cX2_move 79 = .ok (.aload_n 0, 1) := by decide +kernel
theorem dX2_move_80 : decode cX2_move 80 = .ok (.getfield 25, 3) := by decide +kernel
theorem dX2_move_83 : decode cX2_move 83 = .ok (.iload_n 1, 1) := by decide +kernel
theorem dX2_move_84 : decode cX2_move 84 = .ok (.invokevirtual 108, 3) := by decide +kernel
theorem dX2_move_87 : decode cX2_move 87 = .ok (.bipush 15, 2) := by decide +kernel
theorem dX2_move_89 : decode cX2_move 89 = .ok (.iand, 1) := by decide +kernel
theorem dX2_move_90 : decode cX2_move 90 = .ok (.istore_n 2, 1) := by decide +kernel
theorem dX2_move_91 : decode cX2_move 91 = .ok (.iconst 0, 1) := by decide +kernel
theorem dX2_move_92 : decode cX2_move 92 = .ok (.istore_n 3, 1) := by decide +kernel
theorem dX2_move_93 : decode cX2_move 93 = .ok (.iload_n 3, 1) := by decide +kernel
theorem dX2_move_94 : decode cX2_move 94 = .ok (.aload_n 0, 1) := by decide +kernel
theorem dX2_move_95 : decode cX2_move 95 = .ok (.getfield 92, 3) := by decide +kernel
theorem dX2_move_98 : decode cX2_move 98 = .ok (.if_icmp .ge 25, 3) := by decide +kernel
theorem dX2_move_101 : decode cX2_move 101 = .ok (.aload_n 0, 1) := by decide +kernel
theorem dX2_move_102 : decode cX2_move 102 = .ok (.getfield 25, 3) := by decide +kernel
theorem dX2_move_105 : decode cX2_move 105 = .ok (.iload_n 1, 1) := by decide +kernel
theorem dX2_move_106 : decode cX2_move 106 = .ok (.iload_n 3, 1) := by decide +kernel
theorem dX2_move_107 : decode cX2_move 107 = .ok (.isub, 1) := by decide +kernel
theorem dX2_move_108 : decode cX2_move 108 = .ok (.aload_n 0, 1) := by decide +kernel
theorem dX2_move_109 : decode cX2_move 109 = .ok (.iload_n 3, 1) := by decide +kernel
theorem dX2_move_110 : decode cX2_move 110 = .ok (.iload_n 2, 1) := by decide +kernel
theorem dX2_move_111 : decode cX2_move 111 = .ok (.invokevirtual 113, 3) := by decide +kernel
theorem dX2_move_114 : decode cX2_move 114 = .ok (.invokevirtual 117, 3) := by decide +kernel
theorem dX2_move_117 : decode cX2_move 117 = .ok (.iinc 3 1, 3) := by decide +kernel
theorem dX2_move_120 : decode cX2_move 120 = .ok (.goto (-27), 3) := by decide +kernel
theorem dX2_move_123 : decode cX2_move 123 = .ok (.return_, 1) := by decide +kernel
theorem dX2_moved_0 : decode cX2_moved 0 = .ok (.aload_n 0, 1) := by decide +kernel
theorem dX2_moved_1 : decode cX2_moved 1 = .ok (.getfield 15, 3) := by decide +kernel
theorem dX2_moved_4 : decode cX2_moved 4 = .ok (.getfield 120, 3) := by decide +kernel
theorem dX2_moved_7 : decode cX2_moved 7 = .ok (.sipush 241, 3) := by decide +kernel
theorem dX2_moved_10 : decode cX2_moved 10 = .ok (.if_icmp .ne 31, 3) := by decide +kernel
theorem dX2_moved_13 : decode cX2_moved 13 = .ok (.aload_n 0, 1) := by decide +kernel
theorem dX2_moved_14 : decode cX2_moved 14 = .ok (.iconst 2, 1) := by decide +kernel
theorem dX2_moved_15 : decode cX2_moved 15 = .ok (.iload_n 1, 1) := by decide +kernel
theorem dX2_moved_16 : decode cX2_moved 16 = .ok (.imul, 1) := by decide +kernel
theorem dX2_moved_17 : decode cX2_moved 17 = .ok (.invokevirtual 123, 3) := by decide +kernel
theorem dX2_moved_20 : decode cX2_moved 20 = .ok (.iconst 4, 1) := by decide +kernel
theorem dX2_moved_21 : decode cX2_moved 21 = .ok (.ishl, 1) := by decide +kernel
theorem dX2_moved_22 : decode cX2_moved 22 = .ok (.iload_n 1, 1) := by decide +kernel
theorem dX2_moved_23 : decode cX2_moved 23 = .ok (.ifCond .ne 7, 3) := by decide +kernel
theorem dX2_moved_26 : decode cX2_moved 26 = .ok (.iload_n 2, 1) := by decide +kernel
theorem dX2_moved_27 : decode cX2_moved 27 = .ok (.goto 12, 3) := by decide +kernel
theorem dX2_moved_30 : decode cX2_moved 30 = .ok (.aload_n 0, 1) := by decide +kernel
theorem dX2_moved_31 : decode cX2_moved 31 = .ok (.iconst 2, 1) := by decide +kernel
theorem dX2_moved_32 : decode cX2_moved 32 = .ok (.iload_n 1, 1) := by decide +kernel
theorem dX2_moved_33 : decode cX2_moved 33 = .ok (.imul, 1) := by decide +kernel
theorem dX2_moved_34 : decode cX2_moved 34 = .ok (.iconst 1, 1) := by decide +kernel
theorem dX2_moved_35 : decode cX2_moved 35 = .ok (.isub, 1) := by decide +kernel
theorem dX2_moved_36 : decode cX2_moved 36 = .ok (.invokevirtual 123, 3) := by decide +kernel
theorem dX2_moved_39 : decode cX2_moved 39 = .ok (.ior, 1) := by decide +kernel
theorem dX2_moved_40 : decode cX2_moved 40 = .ok (.ireturn, 1) := by decide +kernel
theorem dX2_moved_41 : decode cX2_moved 41 = .ok (.iload_n 1, 1) := by decide +kernel
theorem dX2_moved_42 : decode cX2_moved 42 = .ok (.ifCond .ne 17, 3) := by decide +kernel
theorem dX2_moved_45 : decode cX2_moved 45 = .ok (.aload_n 0, 1) := by decide +kernel
theorem dX2_moved_46 : decode cX2_moved 46 = .ok (.iconst 0, 1) := by decide +kernel
theorem dX2_moved_47 : decode cX2_moved 47 = .ok (.invokevirtual 123, 3) := by decide +kernel
theorem dX2_moved_50 : decode cX2_moved 50 = .ok (.iconst 4, 1) := by decide +kernel
theorem dX2_moved_51 : decode cX2_moved 51 = .ok (.ishl, 1) := by decide +kernel
theorem dX2_moved_52 : decode cX2_moved 52 = .ok (.aload_n 0, 1) := by decide +kernel
theorem dX2_moved_53 : decode cX2_moved 53 = .ok (.iconst 1, 1) := by decide +kernel
theorem dX2_moved_54 : decode cX2_moved 54 = .ok (.invokevirtual 123, 3) := by decide +kernel
theorem dX2_moved_57 : decode cX2_moved 57 = .ok (.ior, 1) := by decide +kernel
theorem dX2_moved_58 : decode cX2_moved 58 = .ok (.ireturn, 1) := by decide +kernel
theorem dX2_moved_59 : decode cX2_moved 59 = .ok (.aload_n 0, 1) := by decide +kernel
theorem dX2_moved_60 : decode cX2_moved 60 = .ok (.getfield 15, 3) := by decide +kernel
theorem dX2_moved_63 : decode cX2_moved 63 = .ok (.getfield 120, 3) := by decide +kernel
theorem dX2_moved_66 : decode cX2_moved 66 = .ok (.sipush 242, 3) := by decide +kernel
theorem dX2_moved_69 : decode cX2_moved 69 = .ok (.if_icmp .ne 23, 3) := by decide +kernel
theorem dX2_moved_72 : decode cX2_moved 72 = .ok (.aload_n 0, 1) := by decide +kernel
theorem dX2_moved_73 : decode cX2_moved 73 = .ok (.iconst 4, 1) := by decide +kernel
theorem dX2_moved_74 : decode cX2_moved 74 = .ok (.iload_n 1, 1) := by decide +kernel
theorem dX2_moved_75 : decode cX2_moved 75 = .ok (.imul, 1) := by decide +kernel
theorem dX2_moved_76 : decode cX2_moved 76 = .ok (.invokevirtual 123, 3) := by decide +kernel
theorem dX2_moved_79 : decode cX2_moved 79 = .ok (.iconst 4, 1) := by decide +kernel
theorem dX2_moved_80 : decode cX2_moved 80 = .ok (.ishl, 1) := by decide +kernel
theorem dX2_moved_81 : decode cX2_moved 81 = .ok (.aload_n 0, 1) := by decide +kernel
theorem dX2_moved_82 : decode cX2_moved 82 = .ok (.iconst 4, 1) := by decide +kernel
theorem dX2_moved_83 : decode cX2_moved 83 = .ok (.iload_n 1, 1) := by decide +kernel
theorem dX2_moved_84 : decode cX2_moved 84 = .ok (.imul, 1) := by decide +kernel
theorem dX2_moved_85 : decode cX2_moved 85 = .ok (.iconst 2, 1) := by decide +kernel
theorem dX2_moved_86 : decode cX2_moved 86 = .ok (.isub, 1) := by decide +kernel
theorem dX2_moved_87 : decode cX2_moved 87 = .ok (.invokevirtual 123, 3) := by decide +kernel
theorem dX2_moved_90 : decode cX2_moved 90 = .ok (.ior, 1) := by decide +kernel
theorem dX2_moved_91 : decode cX2_moved 91 = .ok (.ireturn, 1) := by decide +kernel
theorem dX2_moved_92 : decode cX2_moved 92 = .ok (.sipush 240, 3) := by decide +kernel
theorem dX2_moved_95 : decode cX2_moved 95 = .ok (.aload_n 0, 1) := by decide +kernel
theorem dX2_moved_96 : decode cX2_moved 96 = .ok (.iload_n 1, 1) := by decide +kernel
theorem dX2_moved_97 : decode cX2_moved 97 = .ok (.iconst 1, 1) := by decide +kernel
theorem dX2_moved_98 : decode cX2_moved 98 = .ok (.iadd, 1) := by decide +kernel
theorem dX2_moved_99 : decode cX2_moved 99 = .ok (.invokevirtual 123, 3) := by decide +kernel
theorem dX2_moved_102 : decode cX2_moved 102 = .ok (.ior, 1) := by decide +kernel
theorem dX2_moved_103 : decode cX2_moved 103 = .ok (.ireturn, 1) := by decide +kernel
theorem dX2_sourceHalf_0 : decode cX2_sourceHalf 0 = .ok (.iload_n 1, 1) := by decide +kernel
theorem dX2_sourceHalf_1 : decode cX2_sourceHalf 1 = .ok (.iconst 2, 1) := by decide +kernel
theorem dX2_sourceHalf_2 : decode cX2_sourceHalf 2 = .ok (.idiv, 1) := by decide +kernel
theorem dX2_sourceHalf_3 : decode cX2_sourceHalf 3 = .ok (.aload_n 0, 1) := by decide +kernel
theorem dX2_sourceHalf_4 : decode cX2_sourceHalf 4 = .ok (.getfield 98, 3) := by decide +kernel
theorem dX2_sourceHalf_7 : decode cX2_sourceHalf 7 = .ok (.if_icmp .lt 5, 3) := by decide +kernel
theorem dX2_sourceHalf_10 : decode cX2_sourceHalf 10 = .ok (.iconst 0, 1) := by decide +kernel
theorem dX2_sourceHalf_11 : decode cX2_sourceHalf 11 = .ok (.ireturn, 1) := by decide +kernel
theorem dX2_sourceHalf_12 : decode cX2_sourceHalf 12 = .ok (.aload_n 0, 1) := by decide +kernel
theorem dX2_sourceHalf_13 : decode cX2_sourceHalf 13 = .ok (.getfield 36, 3) := by decide +kernel
theorem dX2_sourceHalf_16 : decode cX2_sourceHalf 16 = .ok (.iload_n 1, 1) := by decide +kernel
theorem dX2_sourceHalf_17 : decode cX2_sourceHalf 17 = .ok (.iconst 2, 1) := by decide +kernel
theorem dX2_sourceHalf_18 : decode cX2_sourceHalf 18 = .ok (.idiv, 1) := by decide +kernel
theorem dX2_sourceHalf_19 : decode cX2_sourceHalf 19 = .ok (.bipush 15, 2) := by decide +kernel
theorem dX2_sourceHalf_21 : decode cX2_sourceHalf 21 = .ok (.iand, 1) := by decide +kernel
theorem dX2_sourceHalf_22 : decode cX2_sourceHalf 22 = .ok (.iaload, 1) := by decide +kernel
theorem dX2_sourceHalf_23 : decode cX2_sourceHalf 23 = .ok (.istore_n 2, 1) := by decide +kernel
theorem dX2_sourceHalf_24 : decode cX2_sourceHalf 24 = .ok (.iload_n 1, 1) := by decide +kernel
theorem dX2_sourceHalf_25 : decode cX2_sourceHalf 25 = .ok (.iconst 2, 1) := by decide +kernel
theorem dX2_sourceHalf_26 : decode cX2_sourceHalf 26 = .ok (.irem, 1) := by decide +kernel
theorem dX2_sourceHalf_27 : decode cX2_sourceHalf 27 = .ok (.ifCond .ne 10, 3) := by decide +kernel
theorem dX2_sourceHalf_30 : decode cX2_sourceHalf 30 = .ok (.iload_n 2, 1) := by decide +kernel
theorem dX2_sourceHalf_31 : decode cX2_sourceHalf 31 = .ok (.bipush 15, 2) := by decide +kernel
theorem dX2_sourceHalf_33 : decode cX2_sourceHalf 33 = .ok (.iand, 1) := by decide +kernel
theorem dX2_sourceHalf_34 : decode cX2_sourceHalf 34 = .ok (.goto 6, 3) := by decide +kernel
theorem dX2_sourceHalf_37 : decode cX2_sourceHalf 37 = .ok (.iload_n 2, 1) := by decide +kernel
theorem dX2_sourceHalf_38 : decode cX2_sourceHalf 38 = .ok (.iconst 4, 1) := by decide +kernel
theorem dX2_sourceHalf_39 : decode cX2_sourceHalf 39 = .ok (.ishr, 1) := by decide +kernel
theorem dX2_sourceHalf_40 : decode cX2_sourceHalf 40 = .ok (.ireturn, 1) := by decide +kernel
theorem dX2_combine_0 : decode cX2_combine 0 = .ok (.aload_n 0, 1) := by decide +kernel
theorem dX2_combine_1 : decode cX2_combine 1 = .ok (.getfield 15, 3) := by decide +kernel
theorem dX2_combine_4 : decode cX2_combine 4 = .ok (.getfield 120, 3) := by decide +kernel
theorem dX2_combine_7 : decode cX2_combine 7 = .ok (.sipush 249, 3) := by decide +kernel
theorem dX2_combine_10 : decode cX2_combine 10 = .ok (.if_icmp .ne 7, 3) := by decide +kernel
theorem dX2_combine_13 : decode cX2_combine 13 = .ok (.iconst 1, 1) := by decide +kernel
theorem dX2_combine_14 : decode cX2_combine 14 = .ok (.goto 4, 3) := by decide +kernel
theorem dX2_combine_17 : decode cX2_combine 17 = .ok (.iconst 0, 1) := by decide +kernel
theorem dX2_combine_18 : decode cX2_combine 18 = .ok (.istore_n 1, 1) := by decide +kernel
theorem dX2_combine_19 : decode cX2_combine 19 = .ok (.aload_n 0, 1) := by decide +kernel
theorem dX2_combine_20 : decode cX2_combine 20 = .ok (.getfield 15, 3) := by decide +kernel
theorem dX2_combine_23 : decode cX2_combine 23 = .ok (.getfield 120, 3) := by decide +kernel
theorem dX2_combine_26 : decode cX2_combine 26 = .ok (.sipush 248, 3) := by decide +kernel
theorem dX2_combine_29 : decode cX2_combine 29 = .ok (.if_icmp .ne 7, 3) := by decide +kernel
theorem dX2_combine_32 : decode cX2_combine 32 = .ok (.iconst 1, 1) := by decide +kernel
theorem dX2_combine_33 : decode cX2_combine 33 = .ok (.goto 4, 3) := by decide +kernel
theorem dX2_combine_36 : decode cX2_combine 36 = .ok (.iconst 0, 1) := by decide +kernel
theorem dX2_combine_37 : decode cX2_combine 37 = .ok (.istore_n 2, 1) := by decide +kernel
theorem dX2_combine_38 : decode cX2_combine 38 = .ok (.aload_n 0, 1) := by decide +kernel
theorem dX2_combine_39 : decode cX2_combine 39 = .ok (.iload_n 1, 1) := by decide +kernel
theorem dX2_combine_40 : decode cX2_combine 40 = .ok (.ifCond .eq 7, 3) := by decide +kernel
theorem dX2_combine_43 : decode cX2_combine 43 = .ok (.iconst 0, 1) := by decide +kernel
theorem dX2_combine_44 : decode cX2_combine 44 = .ok (.goto 4, 3) := by decide +kernel
theorem dX2_combine_47 : decode cX2_combine 47 = .ok (.iconst 1, 1) := by decide +kernel
theorem dX2_combine_48 : decode cX2_combine 48 = .ok (.invokevirtual 104, 3) := by decide +kernel
theorem dX2_combine_51 : decode cX2_combine 51 = .ok (.aload_n 0, 1) := by decide +kernel
theorem dX2_combine_52 : decode cX2_combine 52 = .ok (.iload_n 2, 1) := by decide +kernel
theorem dX2_combine_53 : decode cX2_combine 53 = .ok (.invokevirtual 126, 3) := by decide +kernel
theorem dX2_combine_56 : decode cX2_combine 56 = .ok (.aload_n 0, 1) := by decide +kernel
theorem dX2_combine_57 : decode cX2_combine 57 = .ok (.getfield 9, 3) := by decide +kernel
theorem dX2_combine_60 : decode cX2_combine 60 = .ok (.invokevirtual 54, 3) := by decide +kernel
theorem dX2_combine_63 : decode cX2_combine 63 = .ok (.ifCond .ne 4, 3) := by decide +kernel
theorem dX2_combine_66 : decode cX2_combine 66 = .ok (.return_, 1) := by decide +kernel
theorem dX2_combine_67 : decode cX2_combine 67 = .ok (.iload_n 2, 1) := by decide +kernel
theorem dX2_combine_68 : decode cX2_combine 68 = .ok (.ifCond .eq 11, 3) := by decide +kernel
theorem dX2_combine_71 : decode cX2_combine 71 = .ok (.aload_n 0, 1) := by decide +kernel
theorem dX2_combine_72 : decode cX2_combine 72 = .ok (.getfield 29, 3) := by decide +kernel
theorem dX2_combine_75 : decode cX2_combine 75 = .ok (.lconst 0, 1) := by decide +kernel
theorem dX2_combine_76 : decode cX2_combine 76 = .ok (.invokevirtual 65, 3) := by decide +kernel
theorem dX2_combine_79 : decode cX2_combine 79 = .ok (.iload_n 1, 1) := by decide +kernel
theorem dX2_combine_80 : decode cX2_combine 80 = .ok (.ifCond .ne 16, 3) := by decide +kernel
theorem dX2_combine_83 : decode cX2_combine 83 = .ok (.aload_n 0, 1) := by decide +kernel
theorem dX2_combine_84 : decode cX2_combine 84 = .ok (.getfield 15, 3) := by decide +kernel
theorem dX2_combine_87 : decode cX2_combine 87 = .ok (.getfield 120, 3) := by decide +kernel
theorem dX2_combine_90 : decode cX2_combine 90 = .ok (.sipush 251, 3) := by decide +kernel
theorem dX2_combine_93 : decode cX2_combine 93 = .ok (.if_icmp .ne 25, 3) := by decide +kernel
theorem dX2_combine_96 : decode cX2_combine 96 = .ok (.aload_n 0, 1) := by decide +kernel
theorem dX2_combine_97 : decode cX2_combine 97 = .ok (.getfield 33, 3) := by decide +kernel
theorem dX2_combine_100 : decode cX2_combine 100 = .ok (.aload_n 0, 1) := by decide +kernel
theorem dX2_combine_101 : decode cX2_combine 101 = .ok (.getfield 33, 3) := by decide +kernel
theorem dX2_combine_104 : decode cX2_combine 104 = .ok (.getfield 81, 3) := by decide +kernel
theorem dX2_combine_107 : decode cX2_combine 107 = .ok (.ifCond .ne 7, 3) := by decide +kernel
theorem dX2_combine_110 : decode cX2_combine 110 = .ok (.iconst 1, 1) := by decide +kernel
theorem dX2_combine_111 : decode cX2_combine 111 = .ok (.goto 4, 3) := by decide +kernel
theorem dX2_combine_114 : decode cX2_combine 114 = .ok (.iconst 0, 1) := by decide +kernel
theorem dX2_combine_115 : decode cX2_combine 115 = .ok (.putfield 81, 3) := by decide +kernel
theorem dX2_combine_118 : decode cX2_combine 118 = .ok (.aload_n 0, 1) := by decide +kernel
theorem dX2_combine_119 : decode cX2_combine 119 = .ok (.getfield 29, 3) := by decide +kernel
theorem dX2_combine_122 : decode cX2_combine 122 = .ok (.aload_n 0, 1) := by decide +kernel
theorem dX2_combine_123 : decode cX2_combine 123 = .ok (.getfield 33, 3) := by decide +kernel
theorem dX2_combine_126 : decode cX2_combine 126 = .ok (.invokevirtual 129, 3) := by decide +kernel
theorem dX2_combine_129 : decode cX2_combine 129 = .ok (.iload_n 1, 1) := by decide +kernel
theorem dX2_combine_130 : decode cX2_combine 130 = .ok (.ifCond .eq 21, 3) := by decide +kernel
theorem dX2_combine_133 : decode cX2_combine 133 = .ok (.aload_n 0, 1) := by decide +kernel
theorem dX2_combine_134 : decode cX2_combine 134 = .ok (.getfield 9, 3) := by decide +kernel
theorem dX2_combine_137 : decode cX2_combine 137 = .ok (.aload_n 0, 1) := by decide +kernel
theorem dX2_combine_138 : decode cX2_combine 138 = .ok (.getfield 29, 3) := by decide +kernel
theorem dX2_combine_141 : decode cX2_combine 141 = .ok (.invokevirtual 133, 3) := by decide +kernel
theorem dX2_combine_144 : decode cX2_combine 144 = .ok (.i2l, 1) := by decide +kernel
theorem dX2_combine_145 : decode cX2_combine 145 = .ok (.invokevirtual 137, 3) := by decide +kernel
theorem dX2_combine_148 : decode cX2_combine 148 = .ok (.goto 7, 3) := by decide +kernel
theorem dX2_combine_151 : decode cX2_combine 151 = .ok (.aload_n 0, 1) := by decide +kernel
theorem dX2_combine_152 : decode cX2_combine 152 = .ok (.invokevirtual 140, 3) := by decide +kernel
theorem dX2_combine_155 : decode cX2_combine 155 = .ok (.return_, 1) := by decide +kernel
theorem dX2_takeBoth_0 : decode cX2_takeBoth 0 = .ok (.aload_n 0, 1) := by decide +kernel
theorem dX2_takeBoth_1 : decode cX2_takeBoth 1 = .ok (.getfield 9, 3) := by decide +kernel
theorem dX2_takeBoth_4 : decode cX2_takeBoth 4 = .ok (.invokevirtual 54, 3) := by decide +kernel
theorem dX2_takeBoth_7 : decode cX2_takeBoth 7 = .ok (.ifCond .ne 4, 3) := by decide +kernel
theorem dX2_takeBoth_10 : decode cX2_takeBoth 10 = .ok (.return_, 1) := by decide +kernel
theorem dX2_takeBoth_11 : decode cX2_takeBoth 11 = .ok (.aload_n 0, 1) := by decide +kernel
theorem dX2_takeBoth_12 : decode cX2_takeBoth 12 = .ok (.getfield 29, 3) := by decide +kernel
theorem dX2_takeBoth_15 : decode cX2_takeBoth 15 = .ok (.aload_n 0, 1) := by decide +kernel
theorem dX2_takeBoth_16 : decode cX2_takeBoth 16 = .ok (.getfield 25, 3) := by decide +kernel
theorem dX2_takeBoth_19 : decode cX2_takeBoth 19 = .ok (.aload_n 0, 1) := by decide +kernel
theorem dX2_takeBoth_20 : decode cX2_takeBoth 20 = .ok (.getfield 15, 3) := by decide +kernel
theorem dX2_takeBoth_23 : decode cX2_takeBoth 23 = .ok (.getfield 40, 3) := by decide +kernel
theorem dX2_takeBoth_26 : decode cX2_takeBoth 26 = .ok (.aload_n 0, 1) := by decide +kernel
theorem dX2_takeBoth_27 : decode cX2_takeBoth 27 = .ok (.getfield 92, 3) := by decide +kernel
theorem dX2_takeBoth_30 : decode cX2_takeBoth 30 = .ok (.invokevirtual 73, 3) := by decide +kernel
theorem dX2_takeBoth_33 : decode cX2_takeBoth 33 = .ok (.istore_n 2, 1) := by decide +kernel
theorem dX2_takeBoth_34 : decode cX2_takeBoth 34 = .ok (.aload_n 0, 1) := by decide +kernel
theorem dX2_takeBoth_35 : decode cX2_takeBoth 35 = .ok (.getfield 33, 3) := by decide +kernel
theorem dX2_takeBoth_38 : decode cX2_takeBoth 38 = .ok (.aload_n 0, 1) := by decide +kernel
theorem dX2_takeBoth_39 : decode cX2_takeBoth 39 = .ok (.getfield 25, 3) := by decide +kernel
theorem dX2_takeBoth_42 : decode cX2_takeBoth 42 = .ok (.aload_n 0, 1) := by decide +kernel
theorem dX2_takeBoth_43 : decode cX2_takeBoth 43 = .ok (.getfield 15, 3) := by decide +kernel
theorem dX2_takeBoth_46 : decode cX2_takeBoth 46 = .ok (.getfield 101, 3) := by decide +kernel
theorem dX2_takeBoth_49 : decode cX2_takeBoth 49 = .ok (.aload_n 0, 1) := by decide +kernel
theorem dX2_takeBoth_50 : decode cX2_takeBoth 50 = .ok (.getfield 98, 3) := by decide +kernel
theorem dX2_takeBoth_53 : decode cX2_takeBoth 53 = .ok (.invokevirtual 73, 3) := by decide +kernel
theorem dX2_takeBoth_56 : decode cX2_takeBoth 56 = .ok (.istore_n 3, 1) := by decide +kernel
theorem dX2_takeBoth_57 : decode cX2_takeBoth 57 = .ok (.iload_n 3, 1) := by decide +kernel
theorem dX2_takeBoth_58 : decode cX2_takeBoth 58 = .ok (.ifCond .eq 11, 3) := by decide +kernel
theorem dX2_takeBoth_61 : decode cX2_takeBoth 61 = .ok (.iload_n 2, 1) := by decide +kernel
theorem dX2_takeBoth_62 : decode cX2_takeBoth 62 = .ok (.ifCond .ne 16, 3) := by decide +kernel
theorem dX2_takeBoth_65 : decode cX2_takeBoth 65 = .ok (.iload_n 1, 1) := by decide +kernel
theorem dX2_takeBoth_66 : decode cX2_takeBoth 66 = .ok (.ifCond .ne 12, 3) := by decide +kernel
theorem dX2_takeBoth_69 : decode cX2_takeBoth 69 = .ok (.aload_n 0, 1) := by decide +kernel
theorem dX2_takeBoth_70 : decode cX2_takeBoth 70 = .ok (.getfield 9, 3) := by decide +kernel
theorem dX2_takeBoth_73 : decode cX2_takeBoth 73 = .ok (.bipush 7, 2) := by decide +kernel
theorem dX2_takeBoth_75 : decode cX2_takeBoth 75 = .ok (.invokevirtual 77, 3) := by decide +kernel
theorem dX2_takeBoth_78 : decode cX2_takeBoth 78 = .ok (.return_, 1) := by decide +kernel
theorem dX2_giveFirst_0 : decode cX2_giveFirst 0 = .ok (.aload_n 0, 1) := by decide +kernel
theorem dX2_giveFirst_1 : decode cX2_giveFirst 1 = .ok (.getfield 29, 3) := by decide +kernel
theorem dX2_giveFirst_4 : decode cX2_giveFirst 4 = .ok (.aload_n 0, 1) := by decide +kernel
theorem dX2_giveFirst_5 : decode cX2_giveFirst 5 = .ok (.getfield 25, 3) := by decide +kernel
theorem dX2_giveFirst_8 : decode cX2_giveFirst 8 = .ok (.aload_n 0, 1) := by decide +kernel
theorem dX2_giveFirst_9 : decode cX2_giveFirst 9 = .ok (.getfield 15, 3) := by decide +kernel
theorem dX2_giveFirst_12 : decode cX2_giveFirst 12 = .ok (.getfield 40, 3) := by decide +kernel
theorem dX2_giveFirst_15 : decode cX2_giveFirst 15 = .ok (.aload_n 0, 1) := by decide +kernel
theorem dX2_giveFirst_16 : decode cX2_giveFirst 16 = .ok (.getfield 92, 3) := by decide +kernel
theorem dX2_giveFirst_19 : decode cX2_giveFirst 19 = .ok (.invokevirtual 69, 3) := by decide +kernel
theorem dX2_giveFirst_22 : decode cX2_giveFirst 22 = .ok (.aload_n 0, 1) := by decide +kernel
theorem dX2_giveFirst_23 : decode cX2_giveFirst 23 = .ok (.getfield 29, 3) := by decide +kernel
theorem dX2_giveFirst_26 : decode cX2_giveFirst 26 = .ok (.iconst 2, 1) := by decide +kernel
theorem dX2_giveFirst_27 : decode cX2_giveFirst 27 = .ok (.aload_n 0, 1) := by decide +kernel
theorem dX2_giveFirst_28 : decode cX2_giveFirst 28 = .ok (.getfield 92, 3) := by decide +kernel
theorem dX2_giveFirst_31 : decode cX2_giveFirst 31 = .ok (.imul, 1) := by decide +kernel
theorem dX2_giveFirst_32 : decode cX2_giveFirst 32 = .ok (.iconst 1, 1) := by decide +kernel
theorem dX2_giveFirst_33 : decode cX2_giveFirst 33 = .ok (.isub, 1) := by decide +kernel
theorem dX2_giveFirst_34 : decode cX2_giveFirst 34 = .ok (.invokevirtual 143, 3) := by decide +kernel
theorem dX2_giveFirst_37 : decode cX2_giveFirst 37 = .ok (.ifCond .eq 17, 3) := by decide +kernel
theorem dX2_giveFirst_40 : decode cX2_giveFirst 40 = .ok (.aload_n 0, 1) := by decide +kernel
theorem dX2_giveFirst_41 : decode cX2_giveFirst 41 = .ok (.getfield 9, 3) := by decide +kernel
theorem dX2_giveFirst_44 : decode cX2_giveFirst 44 = .ok (.bipush 37, 2) := by decide +kernel
theorem dX2_giveFirst_46 : decode cX2_giveFirst 46 = .ok (.bipush 10, 2) := by decide +kernel
theorem dX2_giveFirst_48 : decode cX2_giveFirst 48 = .ok (.invokevirtual 149, 3) := by decide +kernel
theorem dX2_giveFirst_51 : decode cX2_giveFirst 51 = .ok (.goto 18, 3) := by decide +kernel
theorem dX2_giveFirst_54 : decode cX2_giveFirst 54 = .ok (.aload_n 0, 1) := by decide +kernel
theorem dX2_giveFirst_55 : decode cX2_giveFirst 55 = .ok (.getfield 9, 3) := by decide +kernel
theorem dX2_giveFirst_58 : decode cX2_giveFirst 58 = .ok (.aload_n 0, 1) := by decide +kernel
theorem dX2_giveFirst_59 : decode cX2_giveFirst 59 = .ok (.getfield 29, 3) := by decide +kernel
theorem dX2_giveFirst_62 : decode cX2_giveFirst 62 = .ok (.invokevirtual 133, 3) := by decide +kernel
theorem dX2_giveFirst_65 : decode cX2_giveFirst 65 = .ok (.i2l, 1) := by decide +kernel
theorem dX2_giveFirst_66 : decode cX2_giveFirst 66 = .ok (.invokevirtual 137, 3) := by decide +kernel
theorem dX2_giveFirst_69 : decode cX2_giveFirst 69 = .ok (.return_, 1) := by decide +kernel
theorem dX2_multiplyOrDivide_0 : decode cX2_multiplyOrDivide 0 = .ok (.aload_n 0, 1) := by decide +kernel
theorem dX2_multiplyOrDivide_1 : decode cX2_multiplyOrDivide 1 = .ok (.iconst 1, 1) := by decide +kernel
theorem dX2_multiplyOrDivide_2 : decode cX2_multiplyOrDivide 2 = .ok (.invokevirtual 104, 3) := by decide +kernel
theorem dX2_multiplyOrDivide_5 : decode cX2_multiplyOrDivide 5 = .ok (.aload_n 0, 1) := by decide +kernel
theorem dX2_multiplyOrDivide_6 : decode cX2_multiplyOrDivide 6 = .ok (.getfield 98, 3) := by decide +kernel
theorem dX2_multiplyOrDivide_9 : decode cX2_multiplyOrDivide 9 = .ok (.bipush 8, 2) := by decide +kernel
theorem dX2_multiplyOrDivide_11 : decode cX2_multiplyOrDivide 11 = .ok (.if_icmp .gt 14, 3) := by decide +kernel
theorem dX2_multiplyOrDivide_14 : decode cX2_multiplyOrDivide 14 = .ok (.aload_n 0, 1) := by decide +kernel
theorem dX2_multiplyOrDivide_15 : decode cX2_multiplyOrDivide 15 = .ok (.getfield 98, 3) := by decide +kernel
theorem dX2_multiplyOrDivide_18 : decode cX2_multiplyOrDivide 18 = .ok (.aload_n 0, 1) := by decide +kernel
theorem dX2_multiplyOrDivide_19 : decode cX2_multiplyOrDivide 19 = .ok (.getfield 92, 3) := by decide +kernel
theorem dX2_multiplyOrDivide_22 : decode cX2_multiplyOrDivide 22 = .ok (.if_icmp .lt 12, 3) := by decide +kernel
theorem dX2_multiplyOrDivide_25 : decode cX2_multiplyOrDivide 25 = .ok (.aload_n 0, 1) := by decide +kernel
theorem dX2_multiplyOrDivide_26 : decode cX2_multiplyOrDivide 26 = .ok (.getfield 9, 3) := by decide +kernel
theorem dX2_multiplyOrDivide_29 : decode cX2_multiplyOrDivide 29 = .ok (.bipush 6, 2) := by decide +kernel
theorem dX2_multiplyOrDivide_31 : decode cX2_multiplyOrDivide 31 = .ok (.invokevirtual 77, 3) := by decide +kernel
theorem dX2_multiplyOrDivide_34 : decode cX2_multiplyOrDivide 34 = .ok (.aload_n 0, 1) := by decide +kernel
theorem dX2_multiplyOrDivide_35 : decode cX2_multiplyOrDivide 35 = .ok (.iconst 0, 1) := by decide +kernel
theorem dX2_multiplyOrDivide_36 : decode cX2_multiplyOrDivide 36 = .ok (.invokevirtual 126, 3) := by decide +kernel
theorem dX2_multiplyOrDivide_39 : decode cX2_multiplyOrDivide 39 = .ok (.aload_n 0, 1) := by decide +kernel
theorem dX2_multiplyOrDivide_40 : decode cX2_multiplyOrDivide 40 = .ok (.getfield 9, 3) := by decide +kernel
theorem dX2_multiplyOrDivide_43 : decode cX2_multiplyOrDivide 43 = .ok (.invokevirtual 54, 3) := by decide +kernel
theorem dX2_multiplyOrDivide_46 : decode cX2_multiplyOrDivide 46 = .ok (.ifCond .ne 4, 3) := by decide +kernel
theorem dX2_multiplyOrDivide_49 : decode cX2_multiplyOrDivide 49 = .ok (.return_, 1) := by decide +kernel
theorem dX2_multiplyOrDivide_50 : decode cX2_multiplyOrDivide 50 = .ok (.aload_n 0, 1) := by decide +kernel
theorem dX2_multiplyOrDivide_51 : decode cX2_multiplyOrDivide 51 = .ok (.getfield 15, 3) := by decide +kernel
theorem dX2_multiplyOrDivide_54 : decode cX2_multiplyOrDivide 54 = .ok (.getfield 120, 3) := by decide +kernel
theorem dX2_multiplyOrDivide_57 : decode cX2_multiplyOrDivide 57 = .ok (.sipush 252, 3) := by decide +kernel
theorem dX2_multiplyOrDivide_60 : decode cX2_multiplyOrDivide 60 = .ok (.if_icmp .ne 10, 3) := by decide +kernel
theorem dX2_multiplyOrDivide_63 : decode cX2_multiplyOrDivide 63 = .ok (.aload_n 0, 1) := by decide +kernel
theorem dX2_multiplyOrDivide_64 : decode cX2_multiplyOrDivide 64 = .ok (.invokevirtual 152, 3) := by decide +kernel
theorem dX2_multiplyOrDivide_67 : decode cX2_multiplyOrDivide 67 = .ok (.goto 7, 3) := by decide +kernel
theorem dX2_multiplyOrDivide_70 : decode cX2_multiplyOrDivide 70 = .ok (.aload_n 0, 1) := by decide +kernel
theorem dX2_multiplyOrDivide_71 : decode cX2_multiplyOrDivide 71 = .ok (.invokevirtual 155, 3) := by decide +kernel
theorem dX2_multiplyOrDivide_74 : decode cX2_multiplyOrDivide 74 = .ok (.return_, 1) := by decide +kernel
theorem dX2_multiply_0 : decode cX2_multiply 0 = .ok (.aload_n 0, 1) := by decide +kernel
theorem dX2_multiply_1 : decode cX2_multiply 1 = .ok (.getfield 29, 3) := by decide +kernel
theorem dX2_multiply_4 : decode cX2_multiply 4 = .ok (.iconst 2, 1) := by decide +kernel
theorem dX2_multiply_5 : decode cX2_multiply 5 = .ok (.aload_n 0, 1) := by decide +kernel
theorem dX2_multiply_6 : decode cX2_multiply 6 = .ok (.getfield 92, 3) := by decide +kernel
theorem dX2_multiply_9 : decode cX2_multiply 9 = .ok (.aload_n 0, 1) := by decide +kernel
theorem dX2_multiply_10 : decode cX2_multiply 10 = .ok (.getfield 98, 3) := by decide +kernel
theorem dX2_multiply_13 : decode cX2_multiply 13 = .ok (.isub, 1) := by decide +kernel
theorem dX2_multiply_14 : decode cX2_multiply 14 = .ok (.imul, 1) := by decide +kernel
theorem dX2_multiply_15 : decode cX2_multiply 15 = .ok (.iconst 1, 1) := by decide +kernel
theorem dX2_multiply_16 : decode cX2_multiply 16 = .ok (.isub, 1) := by decide +kernel
theorem dX2_multiply_17 : decode cX2_multiply 17 = .ok (.invokevirtual 143, 3) := by decide +kernel
theorem dX2_multiply_20 : decode cX2_multiply 20 = .ok (.ifCond .eq 13, 3) := by decide +kernel
theorem dX2_multiply_23 : decode cX2_multiply 23 = .ok (.aload_n 0, 1) := by decide +kernel
theorem dX2_multiply_24 : decode cX2_multiply 24 = .ok (.getfield 9, 3) := by decide +kernel
theorem dX2_multiply_27 : decode cX2_multiply 27 = .ok (.bipush 7, 2) := by decide +kernel
theorem dX2_multiply_29 : decode cX2_multiply 29 = .ok (.invokevirtual 77, 3) := by decide +kernel
theorem dX2_multiply_32 : decode cX2_multiply 32 = .ok (.return_, 1) := by decide +kernel
theorem dX2_multiply_33 : decode cX2_multiply 33 = .ok (.aload_n 0, 1) := by decide +kernel
theorem dX2_multiply_34 : decode cX2_multiply 34 = .ok (.getfield 29, 3) := by decide +kernel
theorem dX2_multiply_37 : decode cX2_multiply 37 = .ok (.aload_n 0, 1) := by decide +kernel
theorem dX2_multiply_38 : decode cX2_multiply 38 = .ok (.getfield 33, 3) := by decide +kernel
theorem dX2_multiply_41 : decode cX2_multiply 41 = .ok (.invokevirtual 85, 3) := by decide +kernel
theorem dX2_multiply_44 : decode cX2_multiply 44 = .ok (.invokevirtual 158, 3) := by decide +kernel
theorem dX2_multiply_47 : decode cX2_multiply 47 = .ok (.aload_n 0, 1) := by decide +kernel
theorem dX2_multiply_48 : decode cX2_multiply 48 = .ok (.getfield 29, 3) := by decide +kernel
theorem dX2_multiply_51 : decode cX2_multiply 51 = .ok (.aload_n 0, 1) := by decide +kernel
theorem dX2_multiply_52 : decode cX2_multiply 52 = .ok (.getfield 29, 3) := by decide +kernel
theorem dX2_multiply_55 : decode cX2_multiply 55 = .ok (.getfield 81, 3) := by decide +kernel
theorem dX2_multiply_58 : decode cX2_multiply 58 = .ok (.aload_n 0, 1) := by decide +kernel
theorem dX2_multiply_59 : decode cX2_multiply 59 = .ok (.getfield 33, 3) := by decide +kernel
theorem dX2_multiply_62 : decode cX2_multiply 62 = .ok (.getfield 81, 3) := by decide +kernel
theorem dX2_multiply_65 : decode cX2_multiply 65 = .ok (.if_icmp .eq 7, 3) := by decide +kernel
theorem dX2_multiply_68 : decode cX2_multiply 68 = .ok (.iconst 1, 1) := by decide +kernel
theorem dX2_multiply_69 : decode cX2_multiply 69 = .ok (.goto 4, 3) := by decide +kernel
theorem dX2_multiply_72 : decode cX2_multiply 72 = .ok (.iconst 0, 1) := by decide +kernel
theorem dX2_multiply_73 : decode cX2_multiply 73 = .ok (.putfield 81, 3) := by decide +kernel
theorem dX2_multiply_76 : decode cX2_multiply 76 = .ok (.aload_n 0, 1) := by decide +kernel
theorem dX2_multiply_77 : decode cX2_multiply 77 = .ok (.getfield 29, 3) := by decide +kernel
theorem dX2_multiply_80 : decode cX2_multiply 80 = .ok (.aload_n 0, 1) := by decide +kernel
theorem dX2_multiply_81 : decode cX2_multiply 81 = .ok (.getfield 25, 3) := by decide +kernel
theorem dX2_multiply_84 : decode cX2_multiply 84 = .ok (.aload_n 0, 1) := by decide +kernel
theorem dX2_multiply_85 : decode cX2_multiply 85 = .ok (.getfield 15, 3) := by decide +kernel
theorem dX2_multiply_88 : decode cX2_multiply 88 = .ok (.getfield 40, 3) := by decide +kernel
theorem dX2_multiply_91 : decode cX2_multiply 91 = .ok (.aload_n 0, 1) := by decide +kernel
theorem dX2_multiply_92 : decode cX2_multiply 92 = .ok (.getfield 92, 3) := by decide +kernel
theorem dX2_multiply_95 : decode cX2_multiply 95 = .ok (.invokevirtual 69, 3) := by decide +kernel
theorem dX2_multiply_98 : decode cX2_multiply 98 = .ok (.return_, 1) := by decide +kernel
theorem dX2_divide_0 : decode cX2_divide 0 = .ok (.aload_n 0, 1) := by decide +kernel
theorem dX2_divide_1 : decode cX2_divide 1 = .ok (.getfield 92, 3) := by decide +kernel
theorem dX2_divide_4 : decode cX2_divide 4 = .ok (.aload_n 0, 1) := by decide +kernel
theorem dX2_divide_5 : decode cX2_divide 5 = .ok (.getfield 98, 3) := by decide +kernel
theorem dX2_divide_8 : decode cX2_divide 8 = .ok (.isub, 1) := by decide +kernel
theorem dX2_divide_9 : decode cX2_divide 9 = .ok (.istore_n 1, 1) := by decide +kernel
theorem dX2_divide_10 : decode cX2_divide 10 = .ok (.aload_n 0, 1) := by decide +kernel
theorem dX2_divide_11 : decode cX2_divide 11 = .ok (.getfield 29, 3) := by decide +kernel
theorem dX2_divide_14 : decode cX2_divide 14 = .ok (.getfield 81, 3) := by decide +kernel
theorem dX2_divide_17 : decode cX2_divide 17 = .ok (.istore_n 2, 1) := by decide +kernel
theorem dX2_divide_18 : decode cX2_divide 18 = .ok (.aload_n 0, 1) := by decide +kernel
theorem dX2_divide_19 : decode cX2_divide 19 = .ok (.getfield 33, 3) := by decide +kernel
theorem dX2_divide_22 : decode cX2_divide 22 = .ok (.invokevirtual 133, 3) := by decide +kernel
theorem dX2_divide_25 : decode cX2_divide 25 = .ok (.ifCond .eq 7, 3) := by decide +kernel
theorem dX2_divide_28 : decode cX2_divide 28 = .ok (.iconst 1, 1) := by decide +kernel
theorem dX2_divide_29 : decode cX2_divide 29 = .ok (.goto 4, 3) := by decide +kernel
theorem dX2_divide_32 : decode cX2_divide 32 = .ok (.iconst 0, 1) := by decide +kernel
theorem dX2_divide_33 : decode cX2_divide 33 = .ok (.istore_n 3, 1) := by decide +kernel
theorem dX2_divide_34 : decode cX2_divide 34 = .ok (.aload_n 0, 1) := by decide +kernel
theorem dX2_divide_35 : decode cX2_divide 35 = .ok (.getfield 29, 3) := by decide +kernel
theorem dX2_divide_38 : decode cX2_divide 38 = .ok (.aload_n 0, 1) := by decide +kernel
theorem dX2_divide_39 : decode cX2_divide 39 = .ok (.getfield 33, 3) := by decide +kernel
theorem dX2_divide_42 : decode cX2_divide 42 = .ok (.invokevirtual 85, 3) := by decide +kernel
theorem dX2_divide_45 : decode cX2_divide 45 = .ok (.invokevirtual 160, 3) := by decide +kernel
theorem dX2_divide_48 : decode cX2_divide 48 = .ok (.lstore 4, 2) := by decide +kernel
theorem dX2_divide_50 : decode cX2_divide 50 = .ok (.iload_n 3, 1) := by decide +kernel
theorem dX2_divide_51 : decode cX2_divide 51 = .ok (.ifCond .eq 18, 3) := by decide +kernel
theorem dX2_divide_54 : decode cX2_divide 54 = .ok (.aload_n 0, 1) := by decide +kernel
theorem dX2_divide_55 : decode cX2_divide 55 = .ok (.getfield 29, 3) := by decide +kernel
theorem dX2_divide_58 : decode cX2_divide 58 = .ok (.iconst 2, 1) := by decide +kernel
theorem dX2_divide_59 : decode cX2_divide 59 = .ok (.iload_n 1, 1) := by decide +kernel
theorem dX2_divide_60 : decode cX2_divide 60 = .ok (.imul, 1) := by decide +kernel
theorem dX2_divide_61 : decode cX2_divide 61 = .ok (.iconst 1, 1) := by decide +kernel
theorem dX2_divide_62 : decode cX2_divide 62 = .ok (.isub, 1) := by decide +kernel
theorem dX2_divide_63 : decode cX2_divide 63 = .ok (.invokevirtual 143, 3) := by decide +kernel
theorem dX2_divide_66 : decode cX2_divide 66 = .ok (.ifCond .eq 13, 3) := by decide +kernel
theorem dX2_divide_69 : decode cX2_divide 69 = .ok (.aload_n 0, 1) := by decide +kernel
theorem dX2_divide_70 : decode cX2_divide 70 = .ok (.getfield 9, 3) := by decide +kernel
theorem dX2_divide_73 : decode cX2_divide 73 = .ok (.bipush 11, 2) := by decide +kernel
theorem dX2_divide_75 : decode cX2_divide 75 = .ok (.invokevirtual 77, 3) := by decide +kernel
theorem dX2_divide_78 : decode cX2_divide 78 = .ok (.return_, 1) := by decide +kernel
theorem dX2_divide_79 : decode cX2_divide 79 = .ok (.aload_n 0, 1) := by decide +kernel
theorem dX2_divide_80 : decode cX2_divide 80 = .ok (.getfield 29, 3) := by decide +kernel
theorem dX2_divide_83 : decode cX2_divide 83 = .ok (.aload_n 0, 1) := by decide +kernel
theorem dX2_divide_84 : decode cX2_divide 84 = .ok (.getfield 29, 3) := by decide +kernel
theorem dX2_divide_87 : decode cX2_divide 87 = .ok (.getfield 81, 3) := by decide +kernel
theorem dX2_divide_90 : decode cX2_divide 90 = .ok (.aload_n 0, 1) := by decide +kernel
theorem dX2_divide_91 : decode cX2_divide 91 = .ok (.getfield 33, 3) := by decide +kernel
theorem dX2_divide_94 : decode cX2_divide 94 = .ok (.getfield 81, 3) := by decide +kernel
theorem dX2_divide_97 : decode cX2_divide 97 = .ok (.if_icmp .eq 7, 3) := by decide +kernel
theorem dX2_divide_100 : decode cX2_divide 100 = .ok (.iconst 1, 1) := by decide +kernel
theorem dX2_divide_101 : decode cX2_divide 101 = .ok (.goto 4, 3) := by decide +kernel
theorem dX2_divide_104 : decode cX2_divide 104 = .ok (.iconst 0, 1) := by decide +kernel
theorem dX2_divide_105 : decode cX2_divide 105 = .ok (.putfield 81, 3) := by decide +kernel
theorem dX2_divide_108 : decode cX2_divide 108 = .ok (.aload_n 0, 1) := by decide +kernel
theorem dX2_divide_109 : decode cX2_divide 109 = .ok (.getfield 29, 3) := by decide +kernel
theorem dX2_divide_112 : decode cX2_divide 112 = .ok (.aload_n 0, 1) := by decide +kernel
theorem dX2_divide_113 : decode cX2_divide 113 = .ok (.getfield 25, 3) := by decide +kernel
theorem dX2_divide_116 : decode cX2_divide 116 = .ok (.aload_n 0, 1) := by decide +kernel
theorem dX2_divide_117 : decode cX2_divide 117 = .ok (.getfield 15, 3) := by decide +kernel
theorem dX2_divide_120 : decode cX2_divide 120 = .ok (.getfield 40, 3) := by decide +kernel
theorem dX2_divide_123 : decode cX2_divide 123 = .ok (.iload_n 1, 1) := by decide +kernel
theorem dX2_divide_124 : decode cX2_divide 124 = .ok (.invokevirtual 69, 3) := by decide +kernel
theorem dX2_divide_127 : decode cX2_divide 127 = .ok (.aload_n 0, 1) := by decide +kernel
theorem dX2_divide_128 : decode cX2_divide 128 = .ok (.getfield 33, 3) := by decide +kernel
theorem dX2_divide_131 : decode cX2_divide 131 = .ok (.lload 4, 2) := by decide +kernel
theorem dX2_divide_133 : decode cX2_divide 133 = .ok (.invokevirtual 65, 3) := by decide +kernel
theorem dX2_divide_136 : decode cX2_divide 136 = .ok (.aload_n 0, 1) := by decide +kernel
theorem dX2_divide_137 : decode cX2_divide 137 = .ok (.getfield 33, 3) := by decide +kernel
theorem dX2_divide_140 : decode cX2_divide 140 = .ok (.iload_n 2, 1) := by decide +kernel
theorem dX2_divide_141 : decode cX2_divide 141 = .ok (.putfield 81, 3) := by decide +kernel
theorem dX2_divide_144 : decode cX2_divide 144 = .ok (.aload_n 0, 1) := by decide +kernel
theorem dX2_divide_145 : decode cX2_divide 145 = .ok (.getfield 33, 3) := by decide +kernel
theorem dX2_divide_148 : decode cX2_divide 148 = .ok (.aload_n 0, 1) := by decide +kernel
theorem dX2_divide_149 : decode cX2_divide 149 = .ok (.getfield 25, 3) := by decide +kernel
theorem dX2_divide_152 : decode cX2_divide 152 = .ok (.aload_n 0, 1) := by decide +kernel
theorem dX2_divide_153 : decode cX2_divide 153 = .ok (.getfield 15, 3) := by decide +kernel
theorem dX2_divide_156 : decode cX2_divide 156 = .ok (.getfield 40, 3) := by decide +kernel
theorem dX2_divide_159 : decode cX2_divide 159 = .ok (.iload_n 1, 1) := by decide +kernel
theorem dX2_divide_160 : decode cX2_divide 160 = .ok (.iadd, 1) := by decide +kernel
theorem dX2_divide_161 : decode cX2_divide 161 = .ok (.aload_n 0, 1) := by decide +kernel
theorem dX2_divide_162 : decode cX2_divide 162 = .ok (.getfield 98, 3) := by decide +kernel
theorem dX2_divide_165 : decode cX2_divide 165 = .ok (.invokevirtual 69, 3) := by decide +kernel
theorem dX2_divide_168 : decode cX2_divide 168 = .ok (.return_, 1) := by decide +kernel
theorem dX3_init_0 : decode cX3_init 0 = .ok (.aload_n 0, 1) := by decide +kernel
theorem dX3_init_1 : decode cX3_init 1 = .ok (.invokespecial 3, 3) := by decide +kernel
theorem dX3_init_4 : decode cX3_init 4 = .ok (.aload_n 0, 1) := by decide +kernel
theorem dX3_init_5 : decode cX3_init 5 = .ok (.aload_n 1, 1) := by decide +kernel
theorem dX3_init_6 : decode cX3_init 6 = .ok (.putfield 9, 3) := by decide +kernel
theorem dX3_init_9 : decode cX3_init 9 = .ok (.aload_n 0, 1) := by decide +kernel
theorem dX3_init_10 : decode cX3_init 10 = .ok (.aload_n 2, 1) := by decide +kernel
theorem dX3_init_11 : decode cX3_init 11 = .ok (.putfield 15, 3) := by decide +kernel
theorem dX3_init_14 : decode cX3_init 14 = .ok (.aload_n 0, 1) := by decide +kernel
theorem dX3_init_15 : decode cX3_init 15 = .ok (.aload_n 1, 1) := by decide +kernel
theorem dX3_init_16 : decode cX3_init 16 = .ok (.getfield 19, 3) := by decide +kernel
theorem dX3_init_19 : decode cX3_init 19 = .ok (.putfield 25, 3) := by decide +kernel
theorem dX3_init_22 : decode cX3_init 22 = .ok (.aload_n 0, 1) := by decide +kernel
theorem dX3_init_23 : decode cX3_init 23 = .ok (.sipush 256, 3) := by decide +kernel
theorem dX3_init_26 : decode cX3_init 26 = .ok (.newarray .int, 2) := by decide +kernel
theorem dX3_init_28 : decode cX3_init 28 = .ok (.putfield 26, 3) := by decide +kernel
theorem dX3_init_31 : decode cX3_init 31 = .ok (.return_, 1) := by decide +kernel
theorem dX3_edit_0 : decode cX3_edit 0 = .ok (.aload_n 0, 1) := by decide +kernel
theorem dX3_edit_1 : decode cX3_edit 1 = .ok (.getfield 15, 3) := by decide +kernel
theorem dX3_edit_4 : decode cX3_edit 4 = .ok (.getfield 30, 3) := by decide +kernel
theorem dX3_edit_7 : decode cX3_edit 7 = .ok (.iconst 1, 1) := by decide +kernel
theorem dX3_edit_8 : decode cX3_edit 8 = .ok (.iadd, 1) := by decide +kernel
theorem dX3_edit_9 : decode cX3_edit 9 = .ok (.istore_n 2, 1) := by decide +kernel
theorem dX3_edit_10 : decode cX3_edit 10 = .ok (.aload_n 0, 1) := by decide +kernel
theorem dX3_edit_11 : decode cX3_edit 11 = .ok (.getfield 9, 3) := by decide +kernel
theorem dX3_edit_14 : decode cX3_edit 14 = .ok (.aload_n 0, 1) := by decide +kernel
theorem dX3_edit_15 : decode cX3_edit 15 = .ok (.getfield 15, 3) := by decide +kernel
theorem dX3_edit_18 : decode cX3_edit 18 = .ok (.getfield 36, 3) := by decide +kernel
theorem dX3_edit_21 : decode cX3_edit 21 = .ok (.iload_n 2, 1) := by decide +kernel
theorem dX3_edit_22 : decode cX3_edit 22 = .ok (.iconst 1, 1) := by decide +kernel
theorem dX3_edit_23 : decode cX3_edit 23 = .ok (.invokevirtual 39, 3) := by decide +kernel
theorem dX3_edit_26 : decode cX3_edit 26 = .ok (.aload_n 0, 1) := by decide +kernel
theorem dX3_edit_27 : decode cX3_edit 27 = .ok (.invokevirtual 43, 3) := by decide +kernel
theorem dX3_edit_30 : decode cX3_edit 30 = .ok (.iconst 0, 1) := by decide +kernel
theorem dX3_edit_31 : decode cX3_edit 31 = .ok (.istore_n 3, 1) := by decide +kernel
theorem dX3_edit_32 : decode cX3_edit 32 = .ok (.iload_n 3, 1) := by decide +kernel
theorem dX3_edit_33 : decode cX3_edit 33 = .ok (.iload_n 2, 1) := by decide +kernel
theorem dX3_edit_34 : decode cX3_edit 34 = .ok (.if_icmp .ge 42, 3) := by decide +kernel
theorem dX3_edit_37 : decode cX3_edit 37 = .ok (.aload_n 0, 1) := by decide +kernel
theorem dX3_edit_38 : decode cX3_edit 38 = .ok (.getfield 9, 3) := by decide +kernel
theorem dX3_edit_41 : decode cX3_edit 41 = .ok (.invokevirtual 46, 3) := by decide +kernel
theorem dX3_edit_44 : decode cX3_edit 44 = .ok (.ifCond .eq 32, 3) := by decide +kernel
theorem dX3_edit_47 : decode cX3_edit 47 = .ok (.aload_n 0, 1) := by decide +kernel
theorem dX3_edit_48 : decode cX3_edit 48 = .ok (.getfield 26, 3) := by decide +kernel
theorem dX3_edit_51 : decode cX3_edit 51 = .ok (.iload_n 3, 1) := by decide +kernel
theorem dX3_edit_52 : decode cX3_edit 52 = .ok (.sipush 255, 3) := by decide +kernel
theorem dX3_edit_55 : decode cX3_edit 55 = .ok (.iand, 1) := by decide +kernel
theorem dX3_edit_56 : decode cX3_edit 56 = .ok (.aload_n 0, 1) := by decide +kernel
theorem dX3_edit_57 : decode cX3_edit 57 = .ok (.aload_n 0, 1) := by decide +kernel
theorem dX3_edit_58 : decode cX3_edit 58 = .ok (.getfield 15, 3) := by decide +kernel
theorem dX3_edit_61 : decode cX3_edit 61 = .ok (.getfield 36, 3) := by decide +kernel
theorem dX3_edit_64 : decode cX3_edit 64 = .ok (.iload_n 3, 1) := by decide +kernel
theorem dX3_edit_65 : decode cX3_edit 65 = .ok (.iadd, 1) := by decide +kernel
theorem dX3_edit_66 : decode cX3_edit 66 = .ok (.invokevirtual 50, 3) := by decide +kernel
theorem dX3_edit_69 : decode cX3_edit 69 = .ok (.iastore, 1) := by decide +kernel
theorem dX3_edit_70 : decode cX3_edit 70 = .ok (.iinc 3 1, 3) := by decide +kernel
theorem dX3_edit_73 : decode cX3_edit 73 = .ok (.goto (-41), 3) := by decide +kernel
theorem dX3_edit_76 : decode cX3_edit 76 = .ok (.aload_n 0, 1) := by decide +kernel
theorem dX3_edit_77 : decode cX3_edit 77 = .ok (.getfield 9, 3) := by decide +kernel
theorem dX3_edit_80 : decode cX3_edit 80 = .ok (.invokevirtual 46, 3) := by decide +kernel
theorem dX3_edit_83 : decode cX3_edit 83 = .ok (.ifCond .ne 4, 3) := by decide +kernel
theorem dX3_edit_86 : decode cX3_edit 86 = .ok (.return_, 1) := by decide +kernel
theorem dX3_edit_87 : decode cX3_edit 87 = .ok (.iconst 0, 1) := by decide +kernel
theorem dX3_edit_88 : decode cX3_edit 88 = .ok (.istore_n 3, 1) := by decide +kernel
theorem dX3_edit_89 : decode cX3_edit 89 = .ok (.iload_n 3, 1) := by decide +kernel
theorem dX3_edit_90 : decode cX3_edit 90 = .ok (.iload_n 2, 1) := by decide +kernel
theorem dX3_edit_91 : decode cX3_edit 91 = .ok (.if_icmp .ge 35, 3) := by decide +kernel
theorem dX3_edit_94 : decode cX3_edit 94 = .ok (.aload_n 0, 1) := by decide +kernel
theorem dX3_edit_95 : decode cX3_edit 95 = .ok (.getfield 25, 3) := by decide +kernel
theorem dX3_edit_98 : decode cX3_edit 98 = .ok (.aload_n 0, 1) := by decide +kernel
theorem dX3_edit_99 : decode cX3_edit 99 = .ok (.getfield 15, 3) := by decide +kernel
theorem dX3_edit_102 : decode cX3_edit 102 = .ok (.getfield 36, 3) := by decide +kernel
theorem dX3_edit_105 : decode cX3_edit 105 = .ok (.iload_n 3, 1) := by decide +kernel
theorem dX3_edit_106 : decode cX3_edit 106 = .ok (.iadd, 1) := by decide +kernel
theorem dX3_edit_107 : decode cX3_edit 107 = .ok (.aload_n 0, 1) := by decide +kernel
theorem dX3_edit_108 : decode cX3_edit 108 = .ok (.getfield 26, 3) := by decide +kernel
theorem dX3_edit_111 : decode cX3_edit 111 = .ok (.iload_n 3, 1) := by decide +kernel
theorem dX3_edit_112 : decode cX3_edit 112 = .ok (.sipush 255, 3) := by decide +kernel
theorem dX3_edit_115 : decode cX3_edit 115 = .ok (.iand, 1) := by decide +kernel
theorem dX3_edit_116 : decode cX3_edit 116 = .ok (.iaload, 1) := by decide +kernel
theorem dX3_edit_117 : decode cX3_edit 117 = .ok (.invokevirtual 54, 3) := by decide +kernel
theorem dX3_edit_120 : decode cX3_edit 120 = .ok (.iinc 3 1, 3) := by decide +kernel
theorem dX3_edit_123 : decode cX3_edit 123 = .ok (.goto (-34), 3) := by decide +kernel
theorem dX3_edit_126 : decode cX3_edit 126 = .ok (.iload_n 1, 1) := by decide +kernel
theorem dX3_edit_127 : decode cX3_edit 127 = .ok (.ifCond .eq 23, 3) := by decide +kernel
theorem dX3_edit_130 : decode cX3_edit 130 = .ok (.aload_n 0, 1) := by decide +kernel
theorem dX3_edit_131 : decode cX3_edit 131 = .ok (.getfield 60, 3) := by decide +kernel
theorem dX3_edit_134 : decode cX3_edit 134 = .ok (.iconst (-1), 1) := by decide +kernel
theorem dX3_edit_135 : decode cX3_edit 135 = .ok (.if_icmp .eq 15, 3) := by decide +kernel
theorem dX3_edit_138 : decode cX3_edit 138 = .ok (.aload_n 0, 1) := by decide +kernel
theorem dX3_edit_139 : decode cX3_edit 139 = .ok (.getfield 9, 3) := by decide +kernel
theorem dX3_edit_142 : decode cX3_edit 142 = .ok (.iconst 1, 1) := by decide +kernel
theorem dX3_edit_143 : decode cX3_edit 143 = .ok (.aload_n 0, 1) := by decide +kernel
theorem dX3_edit_144 : decode cX3_edit 144 = .ok (.getfield 60, 3) := by decide +kernel
theorem dX3_edit_147 : decode cX3_edit 147 = .ok (.invokevirtual 63, 3) := by decide +kernel
theorem dX3_edit_150 : decode cX3_edit 150 = .ok (.aload_n 0, 1) := by decide +kernel
theorem dX3_edit_151 : decode cX3_edit 151 = .ok (.getfield 9, 3) := by decide +kernel
theorem dX3_edit_154 : decode cX3_edit 154 = .ok (.getfield 66, 3) := by decide +kernel
theorem dX3_edit_157 : decode cX3_edit 157 = .ok (.aload_n 0, 1) := by decide +kernel
theorem dX3_edit_158 : decode cX3_edit 158 = .ok (.getfield 70, 3) := by decide +kernel
theorem dX3_edit_161 : decode cX3_edit 161 = .ok (.ifCond .ne 7, 3) := by decide +kernel
theorem dX3_edit_164 : decode cX3_edit 164 = .ok (.iconst 0, 1) := by decide +kernel
theorem dX3_edit_165 : decode cX3_edit 165 = .ok (.goto 15, 3) := by decide +kernel
theorem dX3_edit_168 : decode cX3_edit 168 = .ok (.aload_n 0, 1) := by decide +kernel
theorem dX3_edit_169 : decode cX3_edit 169 = .ok (.getfield 74, 3) := by decide +kernel
theorem dX3_edit_172 : decode cX3_edit 172 = .ok (.ifCond .eq 7, 3) := by decide +kernel
theorem dX3_edit_175 : decode cX3_edit 175 = .ok (.iconst 1, 1) := by decide +kernel
theorem dX3_edit_176 : decode cX3_edit 176 = .ok (.goto 4, 3) := by decide +kernel
theorem dX3_edit_179 : decode cX3_edit 179 = .ok (.iconst 2, 1) := by decide +kernel
theorem dX3_edit_180 : decode cX3_edit 180 = .ok (.invokevirtual 77, 3) := by decide +kernel
theorem dX3_edit_183 : decode cX3_edit 183 = .ok (.return_, 1) := by decide +kernel
theorem dX3_begin_0 : decode cX3_begin 0 = .ok (.aload_n 0, 1) := by decide +kernel
theorem dX3_begin_1 : decode cX3_begin 1 = .ok (.aload_n 0, 1) := by decide +kernel
theorem dX3_begin_2 : decode cX3_begin 2 = .ok (.getfield 25, 3) := by decide +kernel
theorem dX3_begin_5 : decode cX3_begin 5 = .ok (.aload_n 0, 1) := by decide +kernel
theorem dX3_begin_6 : decode cX3_begin 6 = .ok (.getfield 15, 3) := by decide +kernel
theorem dX3_begin_9 : decode cX3_begin 9 = .ok (.getfield 36, 3) := by decide +kernel
theorem dX3_begin_12 : decode cX3_begin 12 = .ok (.invokevirtual 83, 3) := by decide +kernel
theorem dX3_begin_15 : decode cX3_begin 15 = .ok (.putfield 86, 3) := by decide +kernel
theorem dX3_begin_18 : decode cX3_begin 18 = .ok (.aload_n 0, 1) := by decide +kernel
theorem dX3_begin_19 : decode cX3_begin 19 = .ok (.iconst 0, 1) := by decide +kernel
theorem dX3_begin_20 : decode cX3_begin 20 = .ok (.putfield 74, 3) := by decide +kernel
theorem dX3_begin_23 : decode cX3_begin 23 = .ok (.aload_n 0, 1) := by decide +kernel
theorem dX3_begin_24 : decode cX3_begin 24 = .ok (.iconst 0, 1) := by decide +kernel
theorem dX3_begin_25 : decode cX3_begin 25 = .ok (.putfield 70, 3) := by decide +kernel
theorem dX3_begin_28 : decode cX3_begin 28 = .ok (.aload_n 0, 1) := by decide +kernel
theorem dX3_begin_29 : decode cX3_begin 29 = .ok (.aload_n 0, 1) := by decide +kernel
theorem dX3_begin_30 : decode cX3_begin 30 = .ok (.getfield 15, 3) := by decide +kernel
theorem dX3_begin_33 : decode cX3_begin 33 = .ok (.getfield 89, 3) := by decide +kernel
theorem dX3_begin_36 : decode cX3_begin 36 = .ok (.putfield 92, 3) := by decide +kernel
theorem dX3_begin_39 : decode cX3_begin 39 = .ok (.aload_n 0, 1) := by decide +kernel
theorem dX3_begin_40 : decode cX3_begin 40 = .ok (.iconst (-1), 1) := by decide +kernel
theorem dX3_begin_41 : decode cX3_begin 41 = .ok (.putfield 95, 3) := by decide +kernel
theorem dX3_begin_44 : decode cX3_begin 44 = .ok (.aload_n 0, 1) := by decide +kernel
theorem dX3_begin_45 : decode cX3_begin 45 = .ok (.iconst (-1), 1) := by decide +kernel
theorem dX3_begin_46 : decode cX3_begin 46 = .ok (.putfield 60, 3) := by decide +kernel
theorem dX3_begin_49 : decode cX3_begin 49 = .ok (.return_, 1) := by decide +kernel
theorem dX3_edited_0 : decode cX3_edited 0 = .ok (.aload_n 0, 1) := by decide +kernel
theorem dX3_edited_1 : decode cX3_edited 1 = .ok (.getfield 25, 3) := by decide +kernel
theorem dX3_edited_4 : decode cX3_edited 4 = .ok (.iload_n 1, 1) := by decide +kernel
theorem dX3_edited_5 : decode cX3_edited 5 = .ok (.invokevirtual 83, 3) := by decide +kernel
theorem dX3_edited_8 : decode cX3_edited 8 = .ok (.istore_n 2, 1) := by decide +kernel
theorem dX3_edited_9 : decode cX3_edited 9 = .ok (.iload_n 2, 1) := by decide +kernel
theorem dX3_edited_10 : decode cX3_edited 10 = .ok (.bipush 32, 2) := by decide +kernel
theorem dX3_edited_12 : decode cX3_edited 12 = .ok (.if_icmp .eq 9, 3) := by decide +kernel
theorem dX3_edited_15 : decode cX3_edited 15 = .ok (.iload_n 2, 1) := by decide +kernel
theorem dX3_edited_16 : decode cX3_edited 16 = .ok (.bipush 33, 2) := by decide +kernel
theorem dX3_edited_18 : decode cX3_edited 18 = .ok (.if_icmp .ne 14, 3) := by decide +kernel
theorem dX3_edited_21 : decode cX3_edited 21 = .ok (.aload_n 0, 1) := by decide +kernel
theorem dX3_edited_22 : decode cX3_edited 22 = .ok (.iload_n 1, 1) := by decide +kernel
theorem dX3_edited_23 : decode cX3_edited 23 = .ok (.iload_n 2, 1) := by decide +kernel
theorem dX3_edited_24 : decode cX3_edited 24 = .ok (.aload_n 0, 1) := by decide +kernel
theorem dX3_edited_25 : decode cX3_edited 25 = .ok (.invokevirtual 98, 3) := by decide +kernel
theorem dX3_edited_28 : decode cX3_edited 28 = .ok (.invokevirtual 102, 3) := by decide +kernel
theorem dX3_edited_31 : decode cX3_edited 31 = .ok (.ireturn, 1) := by decide +kernel
theorem dX3_edited_32 : decode cX3_edited 32 = .ok (.iload_n 2, 1) := by decide +kernel
theorem dX3_edited_33 : decode cX3_edited 33 = .ok (.bipush 34, 2) := by decide +kernel
theorem dX3_edited_35 : decode cX3_edited 35 = .ok (.if_icmp .ne 18, 3) := by decide +kernel
theorem dX3_edited_38 : decode cX3_edited 38 = .ok (.aload_n 0, 1) := by decide +kernel
theorem dX3_edited_39 : decode cX3_edited 39 = .ok (.iconst 0, 1) := by decide +kernel
theorem dX3_edited_40 : decode cX3_edited 40 = .ok (.putfield 74, 3) := by decide +kernel
theorem dX3_edited_43 : decode cX3_edited 43 = .ok (.aload_n 0, 1) := by decide +kernel
theorem dX3_edited_44 : decode cX3_edited 44 = .ok (.iconst 0, 1) := by decide +kernel
theorem dX3_edited_45 : decode cX3_edited 45 = .ok (.putfield 70, 3) := by decide +kernel
theorem dX3_edited_48 : decode cX3_edited 48 = .ok (.aload_n 0, 1) := by decide +kernel
theorem dX3_edited_49 : decode cX3_edited 49 = .ok (.getfield 86, 3) := by decide +kernel
theorem dX3_edited_52 : decode cX3_edited 52 = .ok (.ireturn, 1) := by decide +kernel
theorem dX3_edited_53 : decode cX3_edited 53 = .ok (.aload_n 0, 1) := by decide +kernel
theorem dX3_edited_54 : decode cX3_edited 54 = .ok (.getfield 74, 3) := by decide +kernel
theorem dX3_edited_57 : decode cX3_edited 57 = .ok (.ifCond .eq 7, 3) := by decide +kernel
theorem dX3_edited_60 : decode cX3_edited 60 = .ok (.iload_n 2, 1) := by decide +kernel
theorem dX3_edited_61 : decode cX3_edited 61 = .ok (.goto 7, 3) := by decide +kernel
theorem dX3_edited_64 : decode cX3_edited 64 = .ok (.aload_n 0, 1) := by decide +kernel
theorem dX3_edited_65 : decode cX3_edited 65 = .ok (.getfield 86, 3) := by decide +kernel
theorem dX3_edited_68 : decode cX3_edited 68 = .ok (.ireturn, 1) := by decide +kernel
theorem dX3_nextDigit_0 : decode cX3_nextDigit 0 = .ok (.aload_n 0, 1) := by decide +kernel
theorem dX3_nextDigit_1 : decode cX3_nextDigit 1 = .ok (.iconst 0, 1) := by decide +kernel
theorem dX3_nextDigit_2 : decode cX3_nextDigit 2 = .ok (.putfield 106, 3) := by decide +kernel
theorem dX3_nextDigit_5 : decode cX3_nextDigit 5 = .ok (.aload_n 0, 1) := by decide +kernel
theorem dX3_nextDigit_6 : decode cX3_nextDigit 6 = .ok (.getfield 95, 3) := by decide +kernel
theorem dX3_nextDigit_9 : decode cX3_nextDigit 9 = .ok (.iconst (-1), 1) := by decide +kernel
theorem dX3_nextDigit_10 : decode cX3_nextDigit 10 = .ok (.if_icmp .eq 15, 3) := by decide +kernel
theorem dX3_nextDigit_13 : decode cX3_nextDigit 13 = .ok (.aload_n 0, 1) := by decide +kernel
theorem dX3_nextDigit_14 : decode cX3_nextDigit 14 = .ok (.getfield 95, 3) := by decide +kernel
theorem dX3_nextDigit_17 : decode cX3_nextDigit 17 = .ok (.istore_n 1, 1) := by decide +kernel
theorem dX3_nextDigit_18 : decode cX3_nextDigit 18 = .ok (.aload_n 0, 1) := by decide +kernel
theorem dX3_nextDigit_19 : decode cX3_nextDigit 19 = .ok (.iconst (-1), 1) := by decide +kernel
theorem dX3_nextDigit_20 : decode cX3_nextDigit 20 = .ok (.putfield 95, 3) := by decide +kernel
theorem dX3_nextDigit_23 : decode cX3_nextDigit 23 = .ok (.iload_n 1, 1) := by decide +kernel
theorem dX3_nextDigit_24 : decode cX3_nextDigit 24 = .ok (.ireturn, 1) := by decide +kernel
theorem dX3_nextDigit_25 : decode cX3_nextDigit 25 = .ok (.aload_n 0, 1) := by decide +kernel
theorem dX3_nextDigit_26 : decode cX3_nextDigit 26 = .ok (.getfield 9, 3) := by decide +kernel
theorem dX3_nextDigit_29 : decode cX3_nextDigit 29 = .ok (.aload_n 0, 1) := by decide +kernel
theorem dX3_nextDigit_30 : decode cX3_nextDigit 30 = .ok (.getfield 92, 3) := by decide +kernel
theorem dX3_nextDigit_33 : decode cX3_nextDigit 33 = .ok (.iconst 1, 1) := by decide +kernel
theorem dX3_nextDigit_34 : decode cX3_nextDigit 34 = .ok (.iconst 0, 1) := by decide +kernel
theorem dX3_nextDigit_35 : decode cX3_nextDigit 35 = .ok (.invokevirtual 39, 3) := by decide +kernel
theorem dX3_nextDigit_38 : decode cX3_nextDigit 38 = .ok (.aload_n 0, 1) := by decide +kernel
theorem dX3_nextDigit_39 : decode cX3_nextDigit 39 = .ok (.getfield 25, 3) := by decide +kernel
theorem dX3_nextDigit_42 : decode cX3_nextDigit 42 = .ok (.aload_n 0, 1) := by decide +kernel
theorem dX3_nextDigit_43 : decode cX3_nextDigit 43 = .ok (.getfield 92, 3) := by decide +kernel
theorem dX3_nextDigit_46 : decode cX3_nextDigit 46 = .ok (.invokevirtual 83, 3) := by decide +kernel
theorem dX3_nextDigit_49 : decode cX3_nextDigit 49 = .ok (.istore_n 1, 1) := by decide +kernel
theorem dX3_nextDigit_50 : decode cX3_nextDigit 50 = .ok (.aload_n 0, 1) := by decide +kernel
theorem dX3_nextDigit_51 : decode cX3_nextDigit 51 = .ok (.aload_n 0, 1) := by decide +kernel
theorem dX3_nextDigit_52 : decode cX3_nextDigit 52 = .ok (.getfield 92, 3) := by decide +kernel
theorem dX3_nextDigit_55 : decode cX3_nextDigit 55 = .ok (.iconst 1, 1) := by decide +kernel
theorem dX3_nextDigit_56 : decode cX3_nextDigit 56 = .ok (.iadd, 1) := by decide +kernel
theorem dX3_nextDigit_57 : decode cX3_nextDigit 57 = .ok (.ldc 109, 2) := by decide +kernel
theorem dX3_nextDigit_59 : decode cX3_nextDigit 59 = .ok (.iand, 1) := by decide +kernel
theorem dX3_nextDigit_60 : decode cX3_nextDigit 60 = .ok (.putfield 92, 3) := by decide +kernel
theorem dX3_nextDigit_63 : decode cX3_nextDigit 63 = .ok (.iload_n 1, 1) := by decide +kernel
theorem dX3_nextDigit_64 : decode cX3_nextDigit 64 = .ok (.iconst 4, 1) := by decide +kernel
theorem dX3_nextDigit_65 : decode cX3_nextDigit 65 = .ok (.ishr, 1) := by decide +kernel
theorem dX3_nextDigit_66 : decode cX3_nextDigit 66 = .ok (.bipush 9, 2) := by decide +kernel
theorem dX3_nextDigit_68 : decode cX3_nextDigit 68 = .ok (.if_icmp .le 12, 3) := by decide +kernel
theorem dX3_nextDigit_71 : decode cX3_nextDigit 71 = .ok (.aload_n 0, 1) := by decide +kernel
theorem dX3_nextDigit_72 : decode cX3_nextDigit 72 = .ok (.getfield 9, 3) := by decide +kernel
theorem dX3_nextDigit_75 : decode cX3_nextDigit 75 = .ok (.bipush 7, 2) := by decide +kernel
theorem dX3_nextDigit_77 : decode cX3_nextDigit 77 = .ok (.invokevirtual 110, 3) := by decide +kernel
theorem dX3_nextDigit_80 : decode cX3_nextDigit 80 = .ok (.iload_n 1, 1) := by decide +kernel
theorem dX3_nextDigit_81 : decode cX3_nextDigit 81 = .ok (.bipush 15, 2) := by decide +kernel
theorem dX3_nextDigit_83 : decode cX3_nextDigit 83 = .ok (.iand, 1) := by decide +kernel
theorem dX3_nextDigit_84 : decode cX3_nextDigit 84 = .ok (.invokestatic 113, 3) := by decide +kernel
theorem dX3_nextDigit_87 : decode cX3_nextDigit 87 = .ok (.ifCond .eq 25, 3) := by decide +kernel
theorem dX3_nextDigit_90 : decode cX3_nextDigit 90 = .ok (.aload_n 0, 1) := by decide +kernel
theorem dX3_nextDigit_91 : decode cX3_nextDigit 91 = .ok (.iload_n 1, 1) := by decide +kernel
theorem dX3_nextDigit_92 : decode cX3_nextDigit 92 = .ok (.bipush 15, 2) := by decide +kernel
theorem dX3_nextDigit_94 : decode cX3_nextDigit 94 = .ok (.iand, 1) := by decide +kernel
theorem dX3_nextDigit_95 : decode cX3_nextDigit 95 = .ok (.invokestatic 119, 3) := by decide +kernel
theorem dX3_nextDigit_98 : decode cX3_nextDigit 98 = .ok (.ifCond .ne 7, 3) := by decide +kernel
theorem dX3_nextDigit_101 : decode cX3_nextDigit 101 = .ok (.iconst 1, 1) := by decide +kernel
theorem dX3_nextDigit_102 : decode cX3_nextDigit 102 = .ok (.goto 4, 3) := by decide +kernel
theorem dX3_nextDigit_105 : decode cX3_nextDigit 105 = .ok (.iconst 0, 1) := by decide +kernel
theorem dX3_nextDigit_106 : decode cX3_nextDigit 106 = .ok (.putfield 106, 3) := by decide +kernel
theorem dX3_nextDigit_109 : decode cX3_nextDigit 109 = .ok (.goto 11, 3) := by decide +kernel
theorem dX3_nextDigit_112 : decode cX3_nextDigit 112 = .ok (.aload_n 0, 1) := by decide +kernel
theorem dX3_nextDigit_113 : decode cX3_nextDigit 113 = .ok (.iload_n 1, 1) := by decide +kernel
theorem dX3_nextDigit_114 : decode cX3_nextDigit 114 = .ok (.bipush 15, 2) := by decide +kernel
theorem dX3_nextDigit_116 : decode cX3_nextDigit 116 = .ok (.iand, 1) := by decide +kernel
theorem dX3_nextDigit_117 : decode cX3_nextDigit 117 = .ok (.putfield 95, 3) := by decide +kernel
theorem dX3_nextDigit_120 : decode cX3_nextDigit 120 = .ok (.iload_n 1, 1) := by decide +kernel
theorem dX3_nextDigit_121 : decode cX3_nextDigit 121 = .ok (.iconst 4, 1) := by decide +kernel
theorem dX3_nextDigit_122 : decode cX3_nextDigit 122 = .ok (.ishr, 1) := by decide +kernel
theorem dX3_nextDigit_123 : decode cX3_nextDigit 123 = .ok (.ireturn, 1) := by decide +kernel
theorem dX3_withDigit_0 : decode cX3_withDigit 0 = .ok (.aload_n 0, 1) := by decide +kernel
theorem dX3_withDigit_1 : decode cX3_withDigit 1 = .ok (.getfield 74, 3) := by decide +kernel
theorem dX3_withDigit_4 : decode cX3_withDigit 4 = .ok (.istore 4, 2) := by decide +kernel
theorem dX3_withDigit_6 : decode cX3_withDigit 6 = .ok (.aload_n 0, 1) := by decide +kernel
theorem dX3_withDigit_7 : decode cX3_withDigit 7 = .ok (.aload_n 0, 1) := by decide +kernel
theorem dX3_withDigit_8 : decode cX3_withDigit 8 = .ok (.getfield 74, 3) := by decide +kernel
theorem dX3_withDigit_11 : decode cX3_withDigit 11 = .ok (.ifCond .ne 13, 3) := by decide +kernel
theorem dX3_withDigit_14 : decode cX3_withDigit 14 = .ok (.iload_n 2, 1) := by decide +kernel
theorem dX3_withDigit_15 : decode cX3_withDigit 15 = .ok (.bipush 33, 2) := by decide +kernel
theorem dX3_withDigit_17 : decode cX3_withDigit 17 = .ok (.if_icmp .eq 7, 3) := by decide +kernel
theorem dX3_withDigit_20 : decode cX3_withDigit 20 = .ok (.iload_n 3, 1) := by decide +kernel
theorem dX3_withDigit_21 : decode cX3_withDigit 21 = .ok (.ifCond .eq 14, 3) := by decide +kernel
theorem dX3_withDigit_24 : decode cX3_withDigit 24 = .ok (.aload_n 0, 1) := by decide +kernel
theorem dX3_withDigit_25 : decode cX3_withDigit 25 = .ok (.getfield 106, 3) := by decide +kernel
theorem dX3_withDigit_28 : decode cX3_withDigit 28 = .ok (.ifCond .ne 7, 3) := by decide +kernel
theorem dX3_withDigit_31 : decode cX3_withDigit 31 = .ok (.iconst 1, 1) := by decide +kernel
theorem dX3_withDigit_32 : decode cX3_withDigit 32 = .ok (.goto 4, 3) := by decide +kernel
theorem dX3_withDigit_35 : decode cX3_withDigit 35 = .ok (.iconst 0, 1) := by decide +kernel
theorem dX3_withDigit_36 : decode cX3_withDigit 36 = .ok (.putfield 74, 3) := by decide +kernel
theorem dX3_withDigit_39 : decode cX3_withDigit 39 = .ok (.aload_n 0, 1) := by decide +kernel
theorem dX3_withDigit_40 : decode cX3_withDigit 40 = .ok (.aload_n 0, 1) := by decide +kernel
theorem dX3_withDigit_41 : decode cX3_withDigit 41 = .ok (.getfield 70, 3) := by decide +kernel
theorem dX3_withDigit_44 : decode cX3_withDigit 44 = .ok (.ifCond .ne 7, 3) := by decide +kernel
theorem dX3_withDigit_47 : decode cX3_withDigit 47 = .ok (.iload_n 3, 1) := by decide +kernel
theorem dX3_withDigit_48 : decode cX3_withDigit 48 = .ok (.ifCond .eq 7, 3) := by decide +kernel
theorem dX3_withDigit_51 : decode cX3_withDigit 51 = .ok (.iconst 1, 1) := by decide +kernel
theorem dX3_withDigit_52 : decode cX3_withDigit 52 = .ok (.goto 4, 3) := by decide +kernel
theorem dX3_withDigit_55 : decode cX3_withDigit 55 = .ok (.iconst 0, 1) := by decide +kernel
theorem dX3_withDigit_56 : decode cX3_withDigit 56 = .ok (.putfield 70, 3) := by decide +kernel
theorem dX3_withDigit_59 : decode cX3_withDigit 59 = .ok (.iload 4, 2) := by decide +kernel
theorem dX3_withDigit_61 : decode cX3_withDigit 61 = .ok (.ifCond .ne 12, 3) := by decide +kernel
theorem dX3_withDigit_64 : decode cX3_withDigit 64 = .ok (.iload_n 3, 1) := by decide +kernel
theorem dX3_withDigit_65 : decode cX3_withDigit 65 = .ok (.ifCond .ne 8, 3) := by decide +kernel
theorem dX3_withDigit_68 : decode cX3_withDigit 68 = .ok (.aload_n 0, 1) := by decide +kernel
theorem dX3_withDigit_69 : decode cX3_withDigit 69 = .ok (.getfield 86, 3) := by decide +kernel
theorem dX3_withDigit_72 : decode cX3_withDigit 72 = .ok (.ireturn, 1) := by decide +kernel
theorem dX3_withDigit_73 : decode cX3_withDigit 73 = .ok (.iload 4, 2) := by decide +kernel
theorem dX3_withDigit_75 : decode cX3_withDigit 75 = .ok (.ifCond .ne 8, 3) := by decide +kernel
theorem dX3_withDigit_78 : decode cX3_withDigit 78 = .ok (.aload_n 0, 1) := by decide +kernel
theorem dX3_withDigit_79 : decode cX3_withDigit 79 = .ok (.iload_n 1, 1) := by decide +kernel
theorem dX3_withDigit_80 : decode cX3_withDigit 80 = .ok (.putfield 60, 3) := by decide +kernel
theorem dX3_withDigit_83 : decode cX3_withDigit 83 = .ok (.sipush 240, 3) := by decide +kernel
theorem dX3_withDigit_86 : decode cX3_withDigit 86 = .ok (.iload_n 3, 1) := by decide +kernel
theorem dX3_withDigit_87 : decode cX3_withDigit 87 = .ok (.ior, 1) := by decide +kernel
theorem dX3_withDigit_88 : decode cX3_withDigit 88 = .ok (.ireturn, 1) := by decide +kernel
theorem dX4_init_0 : decode cX4_init 0 = .ok (.aload_n 0, 1) := by decide +kernel
theorem dX4_init_1 : decode cX4_init 1 = .ok (.invokespecial 3, 3) := by decide +kernel
theorem dX4_init_4 : decode cX4_init 4 = .ok (.aload_n 0, 1) := by decide +kernel
theorem dX4_init_5 : decode cX4_init 5 = .ok (.aload_n 1, 1) := by decide +kernel
theorem dX4_init_6 : decode cX4_init 6 = .ok (.putfield 9, 3) := by decide +kernel
theorem dX4_init_9 : decode cX4_init 9 = .ok (.aload_n 0, 1) := by decide +kernel
theorem dX4_init_10 : decode cX4_init 10 = .ok (.aload_n 1, 1) := by decide +kernel
theorem dX4_init_11 : decode cX4_init 11 = .ok (.getfield 15, 3) := by decide +kernel
theorem dX4_init_14 : decode cX4_init 14 = .ok (.putfield 21, 3) := by decide +kernel
theorem dX4_init_17 : decode cX4_init 17 = .ok (.return_, 1) := by decide +kernel
theorem dX4_demandFirstHalf_0 : decode cX4_demandFirstHalf 0 = .ok (.aload_n 0, 1) := by decide +kernel
theorem dX4_demandFirstHalf_1 : decode cX4_demandFirstHalf 1 = .ok (.getfield 9, 3) := by decide +kernel
theorem dX4_demandFirstHalf_4 : decode cX4_demandFirstHalf 4 = .ok (.iload_n 1, 1) := by decide +kernel
theorem dX4_demandFirstHalf_5 : decode cX4_demandFirstHalf 5 = .ok (.iconst 2, 1) := by decide +kernel
theorem dX4_demandFirstHalf_6 : decode cX4_demandFirstHalf 6 = .ok (.iconst 0, 1) := by decide +kernel
theorem dX4_demandFirstHalf_7 : decode cX4_demandFirstHalf 7 = .ok (.invokevirtual 22, 3) := by decide +kernel
theorem dX4_demandFirstHalf_10 : decode cX4_demandFirstHalf 10 = .ok (.aload_n 0, 1) := by decide +kernel
theorem dX4_demandFirstHalf_11 : decode cX4_demandFirstHalf 11 = .ok (.getfield 9, 3) := by decide +kernel
theorem dX4_demandFirstHalf_14 : decode cX4_demandFirstHalf 14 = .ok (.iload_n 1, 1) := by decide +kernel
theorem dX4_demandFirstHalf_15 : decode cX4_demandFirstHalf 15 = .ok (.iconst 2, 1) := by decide +kernel
theorem dX4_demandFirstHalf_16 : decode cX4_demandFirstHalf 16 = .ok (.invokevirtual 26, 3) := by decide +kernel
theorem dX4_demandFirstHalf_19 : decode cX4_demandFirstHalf 19 = .ok (.return_, 1) := by decide +kernel
theorem dX4_halvesAt_0 : decode cX4_halvesAt 0 = .ok (.aload_n 0, 1) := by decide +kernel
theorem dX4_halvesAt_1 : decode cX4_halvesAt 1 = .ok (.getfield 21, 3) := by decide +kernel
theorem dX4_halvesAt_4 : decode cX4_halvesAt 4 = .ok (.iload_n 1, 1) := by decide +kernel
theorem dX4_halvesAt_5 : decode cX4_halvesAt 5 = .ok (.invokevirtual 30, 3) := by decide +kernel
theorem dX4_halvesAt_8 : decode cX4_halvesAt 8 = .ok (.bipush 6, 2) := by decide +kernel
theorem dX4_halvesAt_10 : decode cX4_halvesAt 10 = .ok (.ishr, 1) := by decide +kernel
theorem dX4_halvesAt_11 : decode cX4_halvesAt 11 = .ok (.istore_n 2, 1) := by decide +kernel
theorem dX4_halvesAt_12 : decode cX4_halvesAt 12 = .ok (.iload_n 2, 1) := by decide +kernel
theorem dX4_halvesAt_13 : decode cX4_halvesAt 13 = .ok (.ifCond .ne 7, 3) := by decide +kernel
theorem dX4_halvesAt_16 : decode cX4_halvesAt 16 = .ok (.iconst 1, 1) := by decide +kernel
theorem dX4_halvesAt_17 : decode cX4_halvesAt 17 = .ok (.goto 13, 3) := by decide +kernel
theorem dX4_halvesAt_20 : decode cX4_halvesAt 20 = .ok (.iload_n 2, 1) := by decide +kernel
theorem dX4_halvesAt_21 : decode cX4_halvesAt 21 = .ok (.iconst 3, 1) := by decide +kernel
theorem dX4_halvesAt_22 : decode cX4_halvesAt 22 = .ok (.if_icmp .ne 7, 3) := by decide +kernel
theorem dX4_halvesAt_25 : decode cX4_halvesAt 25 = .ok (.iconst 3, 1) := by decide +kernel
theorem dX4_halvesAt_26 : decode cX4_halvesAt 26 = .ok (.goto 4, 3) := by decide +kernel
theorem dX4_halvesAt_29 : decode cX4_halvesAt 29 = .ok (.iconst 2, 1) := by decide +kernel
theorem dX4_halvesAt_30 : decode cX4_halvesAt 30 = .ok (.ireturn, 1) := by decide +kernel
theorem dX4_take_0 : decode cX4_take 0 = .ok (.aload_n 0, 1) := by decide +kernel
theorem dX4_take_1 : decode cX4_take 1 = .ok (.iload_n 1, 1) := by decide +kernel
theorem dX4_take_2 : decode cX4_take 2 = .ok (.invokevirtual 36, 3) := by decide +kernel
theorem dX4_take_5 : decode cX4_take 5 = .ok (.istore_n 3, 1) := by decide +kernel
theorem dX4_take_6 : decode cX4_take 6 = .ok (.aload_n 0, 1) := by decide +kernel
theorem dX4_take_7 : decode cX4_take 7 = .ok (.getfield 9, 3) := by decide +kernel
theorem dX4_take_10 : decode cX4_take 10 = .ok (.iload_n 1, 1) := by decide +kernel
theorem dX4_take_11 : decode cX4_take 11 = .ok (.iconst 2, 1) := by decide +kernel
theorem dX4_take_12 : decode cX4_take 12 = .ok (.iload_n 3, 1) := by decide +kernel
theorem dX4_take_13 : decode cX4_take 13 = .ok (.imul, 1) := by decide +kernel
theorem dX4_take_14 : decode cX4_take 14 = .ok (.iconst 0, 1) := by decide +kernel
theorem dX4_take_15 : decode cX4_take 15 = .ok (.invokevirtual 22, 3) := by decide +kernel
theorem dX4_take_18 : decode cX4_take 18 = .ok (.aload_n 0, 1) := by decide +kernel
theorem dX4_take_19 : decode cX4_take 19 = .ok (.aload_n 0, 1) := by decide +kernel
theorem dX4_take_20 : decode cX4_take 20 = .ok (.getfield 21, 3) := by decide +kernel
theorem dX4_take_23 : decode cX4_take 23 = .ok (.iload_n 1, 1) := by decide +kernel
theorem dX4_take_24 : decode cX4_take 24 = .ok (.invokevirtual 30, 3) := by decide +kernel
theorem dX4_take_27 : decode cX4_take 27 = .ok (.putfield 39, 3) := by decide +kernel
theorem dX4_take_30 : decode cX4_take 30 = .ok (.aload_n 0, 1) := by decide +kernel
theorem dX4_take_31 : decode cX4_take 31 = .ok (.aload_n 0, 1) := by decide +kernel
theorem dX4_take_32 : decode cX4_take 32 = .ok (.getfield 21, 3) := by decide +kernel
theorem dX4_take_35 : decode cX4_take 35 = .ok (.iload_n 1, 1) := by decide +kernel
theorem dX4_take_36 : decode cX4_take 36 = .ok (.iconst 1, 1) := by decide +kernel
theorem dX4_take_37 : decode cX4_take 37 = .ok (.iadd, 1) := by decide +kernel
theorem dX4_take_38 : decode cX4_take 38 = .ok (.invokevirtual 30, 3) := by decide +kernel
theorem dX4_take_41 : decode cX4_take 41 = .ok (.iload_n 2, 1) := by decide +kernel
theorem dX4_take_42 : decode cX4_take 42 = .ok (.ior, 1) := by decide +kernel
theorem dX4_take_43 : decode cX4_take 43 = .ok (.putfield 43, 3) := by decide +kernel
theorem dX4_take_46 : decode cX4_take 46 = .ok (.aload_n 0, 1) := by decide +kernel
theorem dX4_take_47 : decode cX4_take 47 = .ok (.aload_n 0, 1) := by decide +kernel
theorem dX4_take_48 : decode cX4_take 48 = .ok (.getfield 43, 3) := by decide +kernel
theorem dX4_take_51 : decode cX4_take 51 = .ok (.iconst 4, 1) := by decide +kernel
theorem dX4_take_52 : decode cX4_take 52 = .ok (.ishr, 1) := by decide +kernel
theorem dX4_take_53 : decode cX4_take 53 = .ok (.putfield 46, 3) := by decide +kernel
theorem dX4_take_56 : decode cX4_take 56 = .ok (.aload_n 0, 1) := by decide +kernel
theorem dX4_take_57 : decode cX4_take 57 = .ok (.aload_n 0, 1) := by decide +kernel
theorem dX4_take_58 : decode cX4_take 58 = .ok (.getfield 43, 3) := by decide +kernel
theorem dX4_take_61 : decode cX4_take 61 = .ok (.bipush 15, 2) := by decide +kernel
theorem dX4_take_63 : decode cX4_take 63 = .ok (.iand, 1) := by decide +kernel
theorem dX4_take_64 : decode cX4_take 64 = .ok (.putfield 49, 3) := by decide +kernel
theorem dX4_take_67 : decode cX4_take 67 = .ok (.aload_n 0, 1) := by decide +kernel
theorem dX4_take_68 : decode cX4_take 68 = .ok (.iload_n 3, 1) := by decide +kernel
theorem dX4_take_69 : decode cX4_take 69 = .ok (.iconst 1, 1) := by decide +kernel
theorem dX4_take_70 : decode cX4_take 70 = .ok (.if_icmp .le 13, 3) := by decide +kernel
theorem dX4_take_73 : decode cX4_take 73 = .ok (.aload_n 0, 1) := by decide +kernel
theorem dX4_take_74 : decode cX4_take 74 = .ok (.iload_n 1, 1) := by decide +kernel
theorem dX4_take_75 : decode cX4_take 75 = .ok (.iconst 2, 1) := by decide +kernel
theorem dX4_take_76 : decode cX4_take 76 = .ok (.iadd, 1) := by decide +kernel
theorem dX4_take_77 : decode cX4_take 77 = .ok (.invokevirtual 52, 3) := by decide +kernel
theorem dX4_take_80 : decode cX4_take 80 = .ok (.goto 4, 3) := by decide +kernel
theorem dX4_take_83 : decode cX4_take 83 = .ok (.iconst 0, 1) := by decide +kernel
theorem dX4_take_84 : decode cX4_take 84 = .ok (.putfield 55, 3) := by decide +kernel
theorem dX4_take_87 : decode cX4_take 87 = .ok (.aload_n 0, 1) := by decide +kernel
theorem dX4_take_88 : decode cX4_take 88 = .ok (.iload_n 3, 1) := by decide +kernel
theorem dX4_take_89 : decode cX4_take 89 = .ok (.iconst 2, 1) := by decide +kernel
theorem dX4_take_90 : decode cX4_take 90 = .ok (.if_icmp .le 13, 3) := by decide +kernel
theorem dX4_take_93 : decode cX4_take 93 = .ok (.aload_n 0, 1) := by decide +kernel
theorem dX4_take_94 : decode cX4_take 94 = .ok (.iload_n 1, 1) := by decide +kernel
theorem dX4_take_95 : decode cX4_take 95 = .ok (.iconst 4, 1) := by decide +kernel
theorem dX4_take_96 : decode cX4_take 96 = .ok (.iadd, 1) := by decide +kernel
theorem dX4_take_97 : decode cX4_take 97 = .ok (.invokevirtual 52, 3) := by decide +kernel
theorem dX4_take_100 : decode cX4_take 100 = .ok (.goto 4, 3) := by decide +kernel
theorem dX4_take_103 : decode cX4_take 103 = .ok (.iconst 0, 1) := by decide +kernel
theorem dX4_take_104 : decode cX4_take 104 = .ok (.putfield 58, 3) := by decide +kernel
theorem dX4_take_107 : decode cX4_take 107 = .ok (.aload_n 0, 1) := by decide +kernel
theorem dX4_take_108 : decode cX4_take 108 = .ok (.getfield 39, 3) := by decide +kernel
theorem dX4_take_111 : decode cX4_take 111 = .ok (.bipush 64, 2) := by decide +kernel
theorem dX4_take_113 : decode cX4_take 113 = .ok (.if_icmp .lt 32, 3) := by decide +kernel
theorem dX4_take_116 : decode cX4_take 116 = .ok (.aload_n 0, 1) := by decide +kernel
theorem dX4_take_117 : decode cX4_take 117 = .ok (.getfield 39, 3) := by decide +kernel
theorem dX4_take_120 : decode cX4_take 120 = .ok (.bipush 95, 2) := by decide +kernel
theorem dX4_take_122 : decode cX4_take 122 = .ok (.if_icmp .gt 23, 3) := by decide +kernel
theorem dX4_take_125 : decode cX4_take 125 = .ok (.aload_n 0, 1) := by decide +kernel
theorem dX4_take_126 : decode cX4_take 126 = .ok (.aload_n 0, 1) := by decide +kernel
theorem dX4_take_127 : decode cX4_take 127 = .ok (.getfield 55, 3) := by decide +kernel
theorem dX4_take_130 : decode cX4_take 130 = .ok (.aload_n 0, 1) := by decide +kernel
theorem dX4_take_131 : decode cX4_take 131 = .ok (.aload_n 0, 1) := by decide +kernel
theorem dX4_take_132 : decode cX4_take 132 = .ok (.getfield 49, 3) := by decide +kernel
theorem dX4_take_135 : decode cX4_take 135 = .ok (.invokevirtual 61, 3) := by decide +kernel
theorem dX4_take_138 : decode cX4_take 138 = .ok (.iadd, 1) := by decide +kernel
theorem dX4_take_139 : decode cX4_take 139 = .ok (.ldc 64, 2) := by decide +kernel
theorem dX4_take_141 : decode cX4_take 141 = .ok (.iand, 1) := by decide +kernel
theorem dX4_take_142 : decode cX4_take 142 = .ok (.putfield 55, 3) := by decide +kernel
theorem dX4_take_145 : decode cX4_take 145 = .ok (.return_, 1) := by decide +kernel
theorem dX4_baseAndDisplacement_0 : decode cX4_baseAndDisplacement 0 = .ok (.aload_n 0, 1) := by decide +kernel
theorem dX4_baseAndDisplacement_1 : decode cX4_baseAndDisplacement 1 = .ok (.getfield 21, 3) := by decide +kernel
theorem dX4_baseAndDisplacement_4 : decode cX4_baseAndDisplacement 4 = .ok (.iload_n 1, 1) := by decide +kernel
theorem dX4_baseAndDisplacement_5 : decode cX4_baseAndDisplacement 5 = .ok (.invokevirtual 65, 3) := by decide +kernel
theorem dX4_baseAndDisplacement_8 : decode cX4_baseAndDisplacement 8 = .ok (.istore_n 2, 1) := by decide +kernel
theorem dX4_baseAndDisplacement_9 : decode cX4_baseAndDisplacement 9 = .ok (.iload_n 2, 1) := by decide +kernel
theorem dX4_baseAndDisplacement_10 : decode cX4_baseAndDisplacement 10 = .ok (.sipush 4095, 3) := by decide +kernel
theorem dX4_baseAndDisplacement_13 : decode cX4_baseAndDisplacement 13 = .ok (.iand, 1) := by decide +kernel
theorem dX4_baseAndDisplacement_14 : decode cX4_baseAndDisplacement 14 = .ok (.aload_n 0, 1) := by decide +kernel
theorem dX4_baseAndDisplacement_15 : decode cX4_baseAndDisplacement 15 = .ok (.iload_n 2, 1) := by decide +kernel
theorem dX4_baseAndDisplacement_16 : decode cX4_baseAndDisplacement 16 = .ok (.bipush 12, 2) := by decide +kernel
theorem dX4_baseAndDisplacement_18 : decode cX4_baseAndDisplacement 18 = .ok (.ishr, 1) := by decide +kernel
theorem dX4_baseAndDisplacement_19 : decode cX4_baseAndDisplacement 19 = .ok (.bipush 15, 2) := by decide +kernel
theorem dX4_baseAndDisplacement_21 : decode cX4_baseAndDisplacement 21 = .ok (.iand, 1) := by decide +kernel
theorem dX4_baseAndDisplacement_22 : decode cX4_baseAndDisplacement 22 = .ok (.invokevirtual 61, 3) := by decide +kernel
theorem dX4_baseAndDisplacement_25 : decode cX4_baseAndDisplacement 25 = .ok (.iadd, 1) := by decide +kernel
theorem dX4_baseAndDisplacement_26 : decode cX4_baseAndDisplacement 26 = .ok (.ldc 64, 2) := by decide +kernel
theorem dX4_baseAndDisplacement_28 : decode cX4_baseAndDisplacement 28 = .ok (.iand, 1) := by decide +kernel
theorem dX4_baseAndDisplacement_29 : decode cX4_baseAndDisplacement 29 = .ok (.ireturn, 1) := by decide +kernel
theorem dX4_unlessZero_0 : decode cX4_unlessZero 0 = .ok (.iload_n 1, 1) := by decide +kernel
theorem dX4_unlessZero_1 : decode cX4_unlessZero 1 = .ok (.ifCond .ne 7, 3) := by decide +kernel
theorem dX4_unlessZero_4 : decode cX4_unlessZero 4 = .ok (.iconst 0, 1) := by decide +kernel
theorem dX4_unlessZero_5 : decode cX4_unlessZero 5 = .ok (.goto 11, 3) := by decide +kernel
theorem dX4_unlessZero_8 : decode cX4_unlessZero 8 = .ok (.aload_n 0, 1) := by decide +kernel
theorem dX4_unlessZero_9 : decode cX4_unlessZero 9 = .ok (.getfield 9, 3) := by decide +kernel
theorem dX4_unlessZero_12 : decode cX4_unlessZero 12 = .ok (.iload_n 1, 1) := by decide +kernel
theorem dX4_unlessZero_13 : decode cX4_unlessZero 13 = .ok (.invokevirtual 68, 3) := by decide +kernel
theorem dX4_unlessZero_16 : decode cX4_unlessZero 16 = .ok (.ireturn, 1) := by decide +kernel
theorem dX5_init_0 : decode cX5_init 0 = .ok (.aload_n 0, 1) := by decide +kernel
theorem dX5_init_1 : decode cX5_init 1 = .ok (.invokespecial 3, 3) := by decide +kernel
theorem dX5_init_4 : decode cX5_init 4 = .ok (.aload_n 0, 1) := by decide +kernel
theorem dX5_init_5 : decode cX5_init 5 = .ok (.new 9, 3) := by decide +kernel
theorem dX5_init_8 : decode cX5_init 8 = .ok (.dup, 1) := by decide +kernel
theorem dX5_init_9 : decode cX5_init 9 = .ok (.invokespecial 11, 3) := by decide +kernel
theorem dX5_init_12 : decode cX5_init 12 = .ok (.putfield 12, 3) := by decide +kernel
theorem dX5_init_15 : decode cX5_init 15 = .ok (.aload_n 0, 1) := by decide +kernel
theorem dX5_init_16 : decode cX5_init 16 = .ok (.new 18, 3) := by decide +kernel
theorem dX5_init_19 : decode cX5_init 19 = .ok (.dup, 1) := by decide +kernel
theorem dX5_init_20 : decode cX5_init 20 = .ok (.invokespecial 20, 3) := by decide +kernel
theorem dX5_init_23 : decode cX5_init 23 = .ok (.putfield 21, 3) := by decide +kernel
theorem dX5_init_26 : decode cX5_init 26 = .ok (.aload_n 0, 1) := by decide +kernel
theorem dX5_init_27 : decode cX5_init 27 = .ok (.bipush 16, 2) := by decide +kernel
theorem dX5_init_29 : decode cX5_init 29 = .ok (.newarray .int, 2) := by decide +kernel
theorem dX5_init_31 : decode cX5_init 31 = .ok (.putfield 25, 3) := by decide +kernel
theorem dX5_init_34 : decode cX5_init 34 = .ok (.return_, 1) := by decide +kernel
theorem dX5_reg_0 : decode cX5_reg 0 = .ok (.aload_n 0, 1) := by decide +kernel
theorem dX5_reg_1 : decode cX5_reg 1 = .ok (.getfield 25, 3) := by decide +kernel
theorem dX5_reg_4 : decode cX5_reg 4 = .ok (.iload_n 1, 1) := by decide +kernel
theorem dX5_reg_5 : decode cX5_reg 5 = .ok (.bipush 15, 2) := by decide +kernel
theorem dX5_reg_7 : decode cX5_reg 7 = .ok (.iand, 1) := by decide +kernel
theorem dX5_reg_8 : decode cX5_reg 8 = .ok (.iaload, 1) := by decide +kernel
theorem dX5_reg_9 : decode cX5_reg 9 = .ok (.ireturn, 1) := by decide +kernel
theorem dX5_setReg_0 : decode cX5_setReg 0 = .ok (.aload_n 0, 1) := by decide +kernel
theorem dX5_setReg_1 : decode cX5_setReg 1 = .ok (.getfield 25, 3) := by decide +kernel
theorem dX5_setReg_4 : decode cX5_setReg 4 = .ok (.iload_n 1, 1) := by decide +kernel
theorem dX5_setReg_5 : decode cX5_setReg 5 = .ok (.bipush 15, 2) := by decide +kernel
theorem dX5_setReg_7 : decode cX5_setReg 7 = .ok (.iand, 1) := by decide +kernel
theorem dX5_setReg_8 : decode cX5_setReg 8 = .ok (.iload_n 2, 1) := by decide +kernel
theorem dX5_setReg_9 : decode cX5_setReg 9 = .ok (.iastore, 1) := by decide +kernel
theorem dX5_setReg_10 : decode cX5_setReg 10 = .ok (.return_, 1) := by decide +kernel
theorem dX5_pair_0 : decode cX5_pair 0 = .ok (.aload_n 0, 1) := by decide +kernel
theorem dX5_pair_1 : decode cX5_pair 1 = .ok (.iload_n 1, 1) := by decide +kernel
theorem dX5_pair_2 : decode cX5_pair 2 = .ok (.invokevirtual 29, 3) := by decide +kernel
theorem dX5_pair_5 : decode cX5_pair 5 = .ok (.i2l, 1) := by decide +kernel
theorem dX5_pair_6 : decode cX5_pair 6 = .ok (.bipush 32, 2) := by decide +kernel
theorem dX5_pair_8 : decode cX5_pair 8 = .ok (.lshl, 1) := by decide +kernel
theorem dX5_pair_9 : decode cX5_pair 9 = .ok (.aload_n 0, 1) := by decide +kernel
theorem dX5_pair_10 : decode cX5_pair 10 = .ok (.iload_n 1, 1) := by decide +kernel
theorem dX5_pair_11 : decode cX5_pair 11 = .ok (.iconst 1, 1) := by decide +kernel
theorem dX5_pair_12 : decode cX5_pair 12 = .ok (.iadd, 1) := by decide +kernel
theorem dX5_pair_13 : decode cX5_pair 13 = .ok (.invokevirtual 29, 3) := by decide +kernel
theorem dX5_pair_16 : decode cX5_pair 16 = .ok (.i2l, 1) := by decide +kernel
theorem dX5_pair_17 : decode cX5_pair 17 = .ok (.ldc2_w 33, 3) := by decide +kernel
theorem dX5_pair_20 : decode cX5_pair 20 = .ok (.land, 1) := by decide +kernel
theorem dX5_pair_21 : decode cX5_pair 21 = .ok (.lor, 1) := by decide +kernel
theorem dX5_pair_22 : decode cX5_pair 22 = .ok (.lreturn, 1) := by decide +kernel
theorem dX5_setPair_0 : decode cX5_setPair 0 = .ok (.aload_n 0, 1) := by decide +kernel
theorem dX5_setPair_1 : decode cX5_setPair 1 = .ok (.iload_n 1, 1) := by decide +kernel
theorem dX5_setPair_2 : decode cX5_setPair 2 = .ok (.lload_n 2, 1) := by decide +kernel
theorem dX5_setPair_3 : decode cX5_setPair 3 = .ok (.bipush 32, 2) := by decide +kernel
theorem dX5_setPair_5 : decode cX5_setPair 5 = .ok (.lshr, 1) := by decide +kernel
theorem dX5_setPair_6 : decode cX5_setPair 6 = .ok (.l2i, 1) := by decide +kernel
theorem dX5_setPair_7 : decode cX5_setPair 7 = .ok (.invokevirtual 35, 3) := by decide +kernel
theorem dX5_setPair_10 : decode cX5_setPair 10 = .ok (.aload_n 0, 1) := by decide +kernel
theorem dX5_setPair_11 : decode cX5_setPair 11 = .ok (.iload_n 1, 1) := by decide +kernel
theorem dX5_setPair_12 : decode cX5_setPair 12 = .ok (.iconst 1, 1) := by decide +kernel
theorem dX5_setPair_13 : decode cX5_setPair 13 = .ok (.iadd, 1) := by decide +kernel
theorem dX5_setPair_14 : decode cX5_setPair 14 = .ok (.lload_n 2, 1) := by decide +kernel
theorem dX5_setPair_15 : decode cX5_setPair 15 = .ok (.l2i, 1) := by decide +kernel
theorem dX5_setPair_16 : decode cX5_setPair 16 = .ok (.invokevirtual 35, 3) := by decide +kernel
theorem dX5_setPair_19 : decode cX5_setPair 19 = .ok (.return_, 1) := by decide +kernel
theorem dX5_setLastByte_0 : decode cX5_setLastByte 0 = .ok (.aload_n 0, 1) := by decide +kernel
theorem dX5_setLastByte_1 : decode cX5_setLastByte 1 = .ok (.iload_n 1, 1) := by decide +kernel
theorem dX5_setLastByte_2 : decode cX5_setLastByte 2 = .ok (.aload_n 0, 1) := by decide +kernel
theorem dX5_setLastByte_3 : decode cX5_setLastByte 3 = .ok (.iload_n 1, 1) := by decide +kernel
theorem dX5_setLastByte_4 : decode cX5_setLastByte 4 = .ok (.invokevirtual 29, 3) := by decide +kernel
theorem dX5_setLastByte_7 : decode cX5_setLastByte 7 = .ok (.sipush (-256), 3) := by decide +kernel
theorem dX5_setLastByte_10 : decode cX5_setLastByte 10 = .ok (.iand, 1) := by decide +kernel
theorem dX5_setLastByte_11 : decode cX5_setLastByte 11 = .ok (.iload_n 2, 1) := by decide +kernel
theorem dX5_setLastByte_12 : decode cX5_setLastByte 12 = .ok (.sipush 255, 3) := by decide +kernel
theorem dX5_setLastByte_15 : decode cX5_setLastByte 15 = .ok (.iand, 1) := by decide +kernel
theorem dX5_setLastByte_16 : decode cX5_setLastByte 16 = .ok (.ior, 1) := by decide +kernel
theorem dX5_setLastByte_17 : decode cX5_setLastByte 17 = .ok (.invokevirtual 35, 3) := by decide +kernel
theorem dX5_setLastByte_20 : decode cX5_setLastByte 20 = .ok (.return_, 1) := by decide +kernel
theorem dX5_setLastAddress_0 : decode cX5_setLastAddress 0 = .ok (.aload_n 0, 1) := by decide +kernel
theorem dX5_setLastAddress_1 : decode cX5_setLastAddress 1 = .ok (.iload_n 1, 1) := by decide +kernel
theorem dX5_setLastAddress_2 : decode cX5_setLastAddress 2 = .ok (.aload_n 0, 1) := by decide +kernel
theorem dX5_setLastAddress_3 : decode cX5_setLastAddress 3 = .ok (.iload_n 1, 1) := by decide +kernel
theorem dX5_setLastAddress_4 : decode cX5_setLastAddress 4 = .ok (.invokevirtual 29, 3) := by decide +kernel
theorem dX5_setLastAddress_7 : decode cX5_setLastAddress 7 = .ok (.ldc 39, 2) := by decide +kernel
theorem dX5_setLastAddress_9 : decode cX5_setLastAddress 9 = .ok (.iand, 1) := by decide +kernel
theorem dX5_setLastAddress_10 : decode cX5_setLastAddress 10 = .ok (.iload_n 2, 1) := by decide +kernel
theorem dX5_setLastAddress_11 : decode cX5_setLastAddress 11 = .ok (.ldc 40, 2) := by decide +kernel
theorem dX5_setLastAddress_13 : decode cX5_setLastAddress 13 = .ok (.iand, 1) := by decide +kernel
theorem dX5_setLastAddress_14 : decode cX5_setLastAddress 14 = .ok (.ior, 1) := by decide +kernel
theorem dX5_setLastAddress_15 : decode cX5_setLastAddress 15 = .ok (.invokevirtual 35, 3) := by decide +kernel
theorem dX5_setLastAddress_18 : decode cX5_setLastAddress 18 = .ok (.return_, 1) := by decide +kernel
theorem dX5_fine_0 : decode cX5_fine 0 = .ok (.aload_n 0, 1) := by decide +kernel
theorem dX5_fine_1 : decode cX5_fine 1 = .ok (.getfield 41, 3) := by decide +kernel
theorem dX5_fine_4 : decode cX5_fine 4 = .ok (.ifCond .ne 7, 3) := by decide +kernel
theorem dX5_fine_7 : decode cX5_fine 7 = .ok (.iconst 1, 1) := by decide +kernel
theorem dX5_fine_8 : decode cX5_fine 8 = .ok (.goto 4, 3) := by decide +kernel
theorem dX5_fine_11 : decode cX5_fine 11 = .ok (.iconst 0, 1) := by decide +kernel
theorem dX5_fine_12 : decode cX5_fine 12 = .ok (.ireturn, 1) := by decide +kernel
theorem dX5_fail_0 : decode cX5_fail 0 = .ok (.iload_n 1, 1) := by decide +kernel
theorem dX5_fail_1 : decode cX5_fail 1 = .ok (.ifCond .eq 23, 3) := by decide +kernel
theorem dX5_fail_4 : decode cX5_fail 4 = .ok (.aload_n 0, 1) := by decide +kernel
theorem dX5_fail_5 : decode cX5_fail 5 = .ok (.getfield 41, 3) := by decide +kernel
theorem dX5_fail_8 : decode cX5_fail 8 = .ok (.ifCond .eq 11, 3) := by decide +kernel
theorem dX5_fail_11 : decode cX5_fail 11 = .ok (.iload_n 1, 1) := by decide +kernel
theorem dX5_fail_12 : decode cX5_fail 12 = .ok (.aload_n 0, 1) := by decide +kernel
theorem dX5_fail_13 : decode cX5_fail 13 = .ok (.getfield 41, 3) := by decide +kernel
theorem dX5_fail_16 : decode cX5_fail 16 = .ok (.if_icmp .ge 8, 3) := by decide +kernel
theorem dX5_fail_19 : decode cX5_fail 19 = .ok (.aload_n 0, 1) := by decide +kernel
theorem dX5_fail_20 : decode cX5_fail 20 = .ok (.iload_n 1, 1) := by decide +kernel
theorem dX5_fail_21 : decode cX5_fail 21 = .ok (.putfield 41, 3) := by decide +kernel
theorem dX5_fail_24 : decode cX5_fail 24 = .ok (.return_, 1) := by decide +kernel
theorem dX5_demand_0 : decode cX5_demand 0 = .ok (.iload_n 1, 1) := by decide +kernel
theorem dX5_demand_1 : decode cX5_demand 1 = .ok (.iload_n 2, 1) := by decide +kernel
theorem dX5_demand_2 : decode cX5_demand 2 = .ok (.iadd, 1) := by decide +kernel
theorem dX5_demand_3 : decode cX5_demand 3 = .ok (.iconst 1, 1) := by decide +kernel
theorem dX5_demand_4 : decode cX5_demand 4 = .ok (.isub, 1) := by decide +kernel
theorem dX5_demand_5 : decode cX5_demand 5 = .ok (.ldc 40, 2) := by decide +kernel
theorem dX5_demand_7 : decode cX5_demand 7 = .ok (.iand, 1) := by decide +kernel
theorem dX5_demand_8 : decode cX5_demand 8 = .ok (.istore 4, 2) := by decide +kernel
theorem dX5_demand_10 : decode cX5_demand 10 = .ok (.aload_n 0, 1) := by decide +kernel
theorem dX5_demand_11 : decode cX5_demand 11 = .ok (.aload_n 0, 1) := by decide +kernel
theorem dX5_demand_12 : decode cX5_demand 12 = .ok (.getfield 12, 3) := by decide +kernel
theorem dX5_demand_15 : decode cX5_demand 15 = .ok (.iload_n 1, 1) := by decide +kernel
theorem dX5_demand_16 : decode cX5_demand 16 = .ok (.iload_n 3, 1) := by decide +kernel
theorem dX5_demand_17 : decode cX5_demand 17 = .ok (.aload_n 0, 1) := by decide +kernel
theorem dX5_demand_18 : decode cX5_demand 18 = .ok (.getfield 21, 3) := by decide +kernel
theorem dX5_demand_21 : decode cX5_demand 21 = .ok (.invokevirtual 45, 3) := by decide +kernel
theorem dX5_demand_24 : decode cX5_demand 24 = .ok (.invokevirtual 49, 3) := by decide +kernel
theorem dX5_demand_27 : decode cX5_demand 27 = .ok (.invokevirtual 53, 3) := by decide +kernel
theorem dX5_demand_30 : decode cX5_demand 30 = .ok (.aload_n 0, 1) := by decide +kernel
theorem dX5_demand_31 : decode cX5_demand 31 = .ok (.aload_n 0, 1) := by decide +kernel
theorem dX5_demand_32 : decode cX5_demand 32 = .ok (.getfield 12, 3) := by decide +kernel
theorem dX5_demand_35 : decode cX5_demand 35 = .ok (.iload 4, 2) := by decide +kernel
theorem dX5_demand_37 : decode cX5_demand 37 = .ok (.iload_n 3, 1) := by decide +kernel
theorem dX5_demand_38 : decode cX5_demand 38 = .ok (.aload_n 0, 1) := by decide +kernel
theorem dX5_demand_39 : decode cX5_demand 39 = .ok (.getfield 21, 3) := by decide +kernel
theorem dX5_demand_42 : decode cX5_demand 42 = .ok (.invokevirtual 45, 3) := by decide +kernel
theorem dX5_demand_45 : decode cX5_demand 45 = .ok (.invokevirtual 49, 3) := by decide +kernel
theorem dX5_demand_48 : decode cX5_demand 48 = .ok (.invokevirtual 53, 3) := by decide +kernel
theorem dX5_demand_51 : decode cX5_demand 51 = .ok (.return_, 1) := by decide +kernel
theorem dX5_demandAligned_0 : decode cX5_demandAligned 0 = .ok (.iload_n 1, 1) := by decide +kernel
theorem dX5_demandAligned_1 : decode cX5_demandAligned 1 = .ok (.iload_n 2, 1) := by decide +kernel
theorem dX5_demandAligned_2 : decode cX5_demandAligned 2 = .ok (.iconst 1, 1) := by decide +kernel
theorem dX5_demandAligned_3 : decode cX5_demandAligned 3 = .ok (.isub, 1) := by decide +kernel
theorem dX5_demandAligned_4 : decode cX5_demandAligned 4 = .ok (.iand, 1) := by decide +kernel
theorem dX5_demandAligned_5 : decode cX5_demandAligned 5 = .ok (.ifCond .eq 9, 3) := by decide +kernel
theorem dX5_demandAligned_8 : decode cX5_demandAligned 8 = .ok (.aload_n 0, 1) := by decide +kernel
theorem dX5_demandAligned_9 : decode cX5_demandAligned 9 = .ok (.bipush 6, 2) := by decide +kernel
theorem dX5_demandAligned_11 : decode cX5_demandAligned 11 = .ok (.invokevirtual 53, 3) := by decide +kernel
theorem dX5_demandAligned_14 : decode cX5_demandAligned 14 = .ok (.return_, 1) := by decide +kernel
theorem dX5_demandEven_0 : decode cX5_demandEven 0 = .ok (.iload_n 1, 1) := by decide +kernel
theorem dX5_demandEven_1 : decode cX5_demandEven 1 = .ok (.iconst 1, 1) := by decide +kernel
theorem dX5_demandEven_2 : decode cX5_demandEven 2 = .ok (.iand, 1) := by decide +kernel
theorem dX5_demandEven_3 : decode cX5_demandEven 3 = .ok (.ifCond .eq 9, 3) := by decide +kernel
theorem dX5_demandEven_6 : decode cX5_demandEven 6 = .ok (.aload_n 0, 1) := by decide +kernel
theorem dX5_demandEven_7 : decode cX5_demandEven 7 = .ok (.bipush 6, 2) := by decide +kernel
theorem dX5_demandEven_9 : decode cX5_demandEven 9 = .ok (.invokevirtual 53, 3) := by decide +kernel
theorem dX5_demandEven_12 : decode cX5_demandEven 12 = .ok (.return_, 1) := by decide +kernel
theorem dX5_demandSupervisor_0 : decode cX5_demandSupervisor 0 = .ok (.aload_n 0, 1) := by decide +kernel
theorem dX5_demandSupervisor_1 : decode cX5_demandSupervisor 1 = .ok (.getfield 21, 3) := by decide +kernel
theorem dX5_demandSupervisor_4 : decode cX5_demandSupervisor 4 = .ok (.bipush 15, 2) := by decide +kernel
theorem dX5_demandSupervisor_6 : decode cX5_demandSupervisor 6 = .ok (.invokevirtual 57, 3) := by decide +kernel
theorem dX5_demandSupervisor_9 : decode cX5_demandSupervisor 9 = .ok (.ifCond .eq 8, 3) := by decide +kernel
theorem dX5_demandSupervisor_12 : decode cX5_demandSupervisor 12 = .ok (.aload_n 0, 1) := by decide +kernel
theorem dX5_demandSupervisor_13 : decode cX5_demandSupervisor 13 = .ok (.iconst 2, 1) := by decide +kernel
theorem dX5_demandSupervisor_14 : decode cX5_demandSupervisor 14 = .ok (.invokevirtual 53, 3) := by decide +kernel
theorem dX5_demandSupervisor_17 : decode cX5_demandSupervisor 17 = .ok (.return_, 1) := by decide +kernel
theorem dX5_conditionByNumber_0 : decode cX5_conditionByNumber 0 = .ok (.aload_n 0, 1) := by decide +kernel
theorem dX5_conditionByNumber_1 : decode cX5_conditionByNumber 1 = .ok (.getfield 21, 3) := by decide +kernel
theorem dX5_conditionByNumber_4 : decode cX5_conditionByNumber 4 = .ok (.lload_n 1, 1) := by decide +kernel
theorem dX5_conditionByNumber_5 : decode cX5_conditionByNumber 5 = .ok (.lconst 0, 1) := by decide +kernel
theorem dX5_conditionByNumber_6 : decode cX5_conditionByNumber 6 = .ok (.lcmp, 1) := by decide +kernel
theorem dX5_conditionByNumber_7 : decode cX5_conditionByNumber 7 = .ok (.ifCond .ne 7, 3) := by decide +kernel
theorem dX5_conditionByNumber_10 : decode cX5_conditionByNumber 10 = .ok (.iconst 0, 1) := by decide +kernel
theorem dX5_conditionByNumber_11 : decode cX5_conditionByNumber 11 = .ok (.goto 14, 3) := by decide +kernel
theorem dX5_conditionByNumber_14 : decode cX5_conditionByNumber 14 = .ok (.lload_n 1, 1) := by decide +kernel
theorem dX5_conditionByNumber_15 : decode cX5_conditionByNumber 15 = .ok (.lconst 0, 1) := by decide +kernel
theorem dX5_conditionByNumber_16 : decode cX5_conditionByNumber 16 = .ok (.lcmp, 1) := by decide +kernel
theorem dX5_conditionByNumber_17 : decode cX5_conditionByNumber 17 = .ok (.ifCond .ge 7, 3) := by decide +kernel
theorem dX5_conditionByNumber_20 : decode cX5_conditionByNumber 20 = .ok (.iconst 1, 1) := by decide +kernel
theorem dX5_conditionByNumber_21 : decode cX5_conditionByNumber 21 = .ok (.goto 4, 3) := by decide +kernel
theorem dX5_conditionByNumber_24 : decode cX5_conditionByNumber 24 = .ok (.iconst 2, 1) := by decide +kernel
theorem dX5_conditionByNumber_25 : decode cX5_conditionByNumber 25 = .ok (.invokevirtual 61, 3) := by decide +kernel
theorem dX5_conditionByNumber_28 : decode cX5_conditionByNumber 28 = .ok (.return_, 1) := by decide +kernel
theorem dX5_conditionByComparing_0 : decode cX5_conditionByComparing 0 = .ok (.aload_n 0, 1) := by decide +kernel
theorem dX5_conditionByComparing_1 : decode cX5_conditionByComparing 1 = .ok (.getfield 21, 3) := by decide +kernel
theorem dX5_conditionByComparing_4 : decode cX5_conditionByComparing 4 = .ok (.lload_n 1, 1) := by decide +kernel
theorem dX5_conditionByComparing_5 : decode cX5_conditionByComparing 5 = .ok (.lload_n 3, 1) := by decide +kernel
theorem dX5_conditionByComparing_6 : decode cX5_conditionByComparing 6 = .ok (.lcmp, 1) := by decide +kernel
theorem dX5_conditionByComparing_7 : decode cX5_conditionByComparing 7 = .ok (.ifCond .ne 7, 3) := by decide +kernel
theorem dX5_conditionByComparing_10 : decode cX5_conditionByComparing 10 = .ok (.iconst 0, 1) := by decide +kernel
theorem dX5_conditionByComparing_11 : decode cX5_conditionByComparing 11 = .ok (.goto 14, 3) := by decide +kernel
theorem dX5_conditionByComparing_14 : decode cX5_conditionByComparing 14 = .ok (.lload_n 1, 1) := by decide +kernel
theorem dX5_conditionByComparing_15 : decode cX5_conditionByComparing 15 = .ok (.lload_n 3, 1) := by decide +kernel
theorem dX5_conditionByComparing_16 : decode cX5_conditionByComparing 16 = .ok (.lcmp, 1) := by decide +kernel
theorem dX5_conditionByComparing_17 : decode cX5_conditionByComparing 17 = .ok (.ifCond .ge 7, 3) := by decide +kernel
theorem dX5_conditionByComparing_20 : decode cX5_conditionByComparing 20 = .ok (.iconst 1, 1) := by decide +kernel
theorem dX5_conditionByComparing_21 : decode cX5_conditionByComparing 21 = .ok (.goto 4, 3) := by decide +kernel
theorem dX5_conditionByComparing_24 : decode cX5_conditionByComparing 24 = .ok (.iconst 2, 1) := by decide +kernel
theorem dX5_conditionByComparing_25 : decode cX5_conditionByComparing 25 = .ok (.invokevirtual 61, 3) := by decide +kernel
theorem dX5_conditionByComparing_28 : decode cX5_conditionByComparing 28 = .ok (.return_, 1) := by decide +kernel
theorem dX5_conditionByBits_0 : decode cX5_conditionByBits 0 = .ok (.aload_n 0, 1) := by decide +kernel
theorem dX5_conditionByBits_1 : decode cX5_conditionByBits 1 = .ok (.getfield 21, 3) := by decide +kernel
theorem dX5_conditionByBits_4 : decode cX5_conditionByBits 4 = .ok (.iload_n 1, 1) := by decide +kernel
theorem dX5_conditionByBits_5 : decode cX5_conditionByBits 5 = .ok (.ifCond .ne 7, 3) := by decide +kernel
theorem dX5_conditionByBits_8 : decode cX5_conditionByBits 8 = .ok (.iconst 0, 1) := by decide +kernel
theorem dX5_conditionByBits_9 : decode cX5_conditionByBits 9 = .ok (.goto 4, 3) := by decide +kernel
theorem dX5_conditionByBits_12 : decode cX5_conditionByBits 12 = .ok (.iconst 1, 1) := by decide +kernel
theorem dX5_conditionByBits_13 : decode cX5_conditionByBits 13 = .ok (.invokevirtual 61, 3) := by decide +kernel
theorem dX5_conditionByBits_16 : decode cX5_conditionByBits 16 = .ok (.return_, 1) := by decide +kernel
theorem dX5_overflow_0 : decode cX5_overflow 0 = .ok (.aload_n 0, 1) := by decide +kernel
theorem dX5_overflow_1 : decode cX5_overflow 1 = .ok (.getfield 21, 3) := by decide +kernel
theorem dX5_overflow_4 : decode cX5_overflow 4 = .ok (.iconst 3, 1) := by decide +kernel
theorem dX5_overflow_5 : decode cX5_overflow 5 = .ok (.invokevirtual 61, 3) := by decide +kernel
theorem dX5_overflow_8 : decode cX5_overflow 8 = .ok (.aload_n 0, 1) := by decide +kernel
theorem dX5_overflow_9 : decode cX5_overflow 9 = .ok (.getfield 21, 3) := by decide +kernel
theorem dX5_overflow_12 : decode cX5_overflow 12 = .ok (.iload_n 1, 1) := by decide +kernel
theorem dX5_overflow_13 : decode cX5_overflow 13 = .ok (.invokevirtual 57, 3) := by decide +kernel
theorem dX5_overflow_16 : decode cX5_overflow 16 = .ok (.ifCond .eq 8, 3) := by decide +kernel
theorem dX5_overflow_19 : decode cX5_overflow 19 = .ok (.aload_n 0, 1) := by decide +kernel
theorem dX5_overflow_20 : decode cX5_overflow 20 = .ok (.iload_n 2, 1) := by decide +kernel
theorem dX5_overflow_21 : decode cX5_overflow 21 = .ok (.invokevirtual 53, 3) := by decide +kernel
theorem dX5_overflow_24 : decode cX5_overflow 24 = .ok (.return_, 1) := by decide +kernel
theorem dX6_init_0 : decode cX6_init 0 = .ok (.aload_n 0, 1) := by decide +kernel
theorem dX6_init_1 : decode cX6_init 1 = .ok (.invokespecial 3, 3) := by decide +kernel
theorem dX6_init_4 : decode cX6_init 4 = .ok (.aload_n 0, 1) := by decide +kernel
theorem dX6_init_5 : decode cX6_init 5 = .ok (.sipush 8192, 3) := by decide +kernel
theorem dX6_init_8 : decode cX6_init 8 = .ok (.newarray .byte, 2) := by decide +kernel
theorem dX6_init_10 : decode cX6_init 10 = .ok (.putfield 9, 3) := by decide +kernel
theorem dX6_init_13 : decode cX6_init 13 = .ok (.aload_n 0, 1) := by decide +kernel
theorem dX6_init_14 : decode cX6_init 14 = .ok (.iconst 4, 1) := by decide +kernel
theorem dX6_init_15 : decode cX6_init 15 = .ok (.newarray .int, 2) := by decide +kernel
theorem dX6_init_17 : decode cX6_init 17 = .ok (.putfield 15, 3) := by decide +kernel
theorem dX6_init_20 : decode cX6_init 20 = .ok (.return_, 1) := by decide +kernel
theorem dX6_get_0 : decode cX6_get 0 = .ok (.aload_n 0, 1) := by decide +kernel
theorem dX6_get_1 : decode cX6_get 1 = .ok (.getfield 9, 3) := by decide +kernel
theorem dX6_get_4 : decode cX6_get 4 = .ok (.iload_n 1, 1) := by decide +kernel
theorem dX6_get_5 : decode cX6_get 5 = .ok (.sipush 8191, 3) := by decide +kernel
theorem dX6_get_8 : decode cX6_get 8 = .ok (.iand, 1) := by decide +kernel
theorem dX6_get_9 : decode cX6_get 9 = .ok (.baload, 1) := by decide +kernel
theorem dX6_get_10 : decode cX6_get 10 = .ok (.sipush 255, 3) := by decide +kernel
theorem dX6_get_13 : decode cX6_get 13 = .ok (.iand, 1) := by decide +kernel
theorem dX6_get_14 : decode cX6_get 14 = .ok (.ireturn, 1) := by decide +kernel
theorem dX6_set_0 : decode cX6_set 0 = .ok (.aload_n 0, 1) := by decide +kernel
theorem dX6_set_1 : decode cX6_set 1 = .ok (.getfield 9, 3) := by decide +kernel
theorem dX6_set_4 : decode cX6_set 4 = .ok (.iload_n 1, 1) := by decide +kernel
theorem dX6_set_5 : decode cX6_set 5 = .ok (.sipush 8191, 3) := by decide +kernel
theorem dX6_set_8 : decode cX6_set 8 = .ok (.iand, 1) := by decide +kernel
theorem dX6_set_9 : decode cX6_set 9 = .ok (.iload_n 2, 1) := by decide +kernel
theorem dX6_set_10 : decode cX6_set 10 = .ok (.i2b, 1) := by decide +kernel
theorem dX6_set_11 : decode cX6_set 11 = .ok (.bastore, 1) := by decide +kernel
theorem dX6_set_12 : decode cX6_set 12 = .ok (.return_, 1) := by decide +kernel
theorem dX6_number_0 : decode cX6_number 0 = .ok (.lconst 0, 1) := by decide +kernel
theorem dX6_number_1 : decode cX6_number 1 = .ok (.lstore_n 3, 1) := by decide +kernel
theorem dX6_number_2 : decode cX6_number 2 = .ok (.iconst 0, 1) := by decide +kernel
theorem dX6_number_3 : decode cX6_number 3 = .ok (.istore 5, 2) := by decide +kernel
theorem dX6_number_5 : decode cX6_number 5 = .ok (.iload 5, 2) := by decide +kernel
theorem dX6_number_7 : decode cX6_number 7 = .ok (.iload_n 2, 1) := by decide +kernel
theorem dX6_number_8 : decode cX6_number 8 = .ok (.if_icmp .ge 24, 3) := by decide +kernel
theorem dX6_number_11 : decode cX6_number 11 = .ok (.lload_n 3, 1) := by decide +kernel
theorem dX6_number_12 : decode cX6_number 12 = .ok (.bipush 8, 2) := by decide +kernel
theorem dX6_number_14 : decode cX6_number 14 = .ok (.lshl, 1) := by decide +kernel
theorem dX6_number_15 : decode cX6_number 15 = .ok (.aload_n 0, 1) := by decide +kernel
theorem dX6_number_16 : decode cX6_number 16 = .ok (.iload_n 1, 1) := by decide +kernel
theorem dX6_number_17 : decode cX6_number 17 = .ok (.iload 5, 2) := by decide +kernel
theorem dX6_number_19 : decode cX6_number 19 = .ok (.iadd, 1) := by decide +kernel
theorem dX6_number_20 : decode cX6_number 20 = .ok (.invokevirtual 19, 3) := by decide +kernel
theorem dX6_number_23 : decode cX6_number 23 = .ok (.i2l, 1) := by decide +kernel
theorem dX6_number_24 : decode cX6_number 24 = .ok (.lor, 1) := by decide +kernel
theorem dX6_number_25 : decode cX6_number 25 = .ok (.lstore_n 3, 1) := by decide +kernel
theorem dX6_number_26 : decode cX6_number 26 = .ok (.iinc 5 1, 3) := by decide +kernel
theorem dX6_number_29 : decode cX6_number 29 = .ok (.goto (-24), 3) := by decide +kernel
theorem dX6_number_32 : decode cX6_number 32 = .ok (.lload_n 3, 1) := by decide +kernel
theorem dX6_number_33 : decode cX6_number 33 = .ok (.lreturn, 1) := by decide +kernel
theorem dX6_setNumber_0 : decode cX6_setNumber 0 = .ok (.iconst 0, 1) := by decide +kernel
theorem dX6_setNumber_1 : decode cX6_setNumber 1 = .ok (.istore 5, 2) := by decide +kernel
theorem dX6_setNumber_3 : decode cX6_setNumber 3 = .ok (.iload 5, 2) := by decide +kernel
theorem dX6_setNumber_5 : decode cX6_setNumber 5 = .ok (.iload 4, 2) := by decide +kernel
theorem dX6_setNumber_7 : decode cX6_setNumber 7 = .ok (.if_icmp .ge 30, 3) := by decide +kernel
theorem dX6_setNumber_10 : decode cX6_setNumber 10 = .ok (.aload_n 0, 1) := by decide +kernel
theorem dX6_setNumber_11 : decode cX6_setNumber 11 = .ok (.iload_n 1, 1) := by decide +kernel
theorem dX6_setNumber_12 : decode cX6_setNumber 12 = .ok (.iload 5, 2) := by decide +kernel
theorem dX6_setNumber_14 : decode cX6_setNumber 14 = .ok (.iadd, 1) := by decide +kernel
theorem dX6_setNumber_15 : decode cX6_setNumber 15 = .ok (.lload_n 2, 1) := by decide +kernel
theorem dX6_setNumber_16 : decode cX6_setNumber 16 = .ok (.bipush 8, 2) := by decide +kernel
theorem dX6_setNumber_18 : decode cX6_setNumber 18 = .ok (.iload 4, 2) := by decide +kernel
theorem dX6_setNumber_20 : decode cX6_setNumber 20 = .ok (.iconst 1, 1) := by decide +kernel
theorem dX6_setNumber_21 : decode cX6_setNumber 21 = .ok (.isub, 1) := by decide +kernel
theorem dX6_setNumber_22 : decode cX6_setNumber 22 = .ok (.iload 5, 2) := by decide +kernel
theorem dX6_setNumber_24 : decode cX6_setNumber 24 = .ok (.isub, 1) := by decide +kernel
theorem dX6_setNumber_25 : decode cX6_setNumber 25 = .ok (.imul, 1) := by decide +kernel
theorem dX6_setNumber_26 : decode cX6_setNumber 26 = .ok (.lushr, 1) := by decide +kernel
theorem dX6_setNumber_27 : decode cX6_setNumber 27 = .ok (.l2i, 1) := by decide +kernel
theorem dX6_setNumber_28 : decode cX6_setNumber 28 = .ok (.invokevirtual 23, 3) := by decide +kernel
theorem dX6_setNumber_31 : decode cX6_setNumber 31 = .ok (.iinc 5 1, 3) := by decide +kernel
theorem dX6_setNumber_34 : decode cX6_setNumber 34 = .ok (.goto (-31), 3) := by decide +kernel
theorem dX6_setNumber_37 : decode cX6_setNumber 37 = .ok (.return_, 1) := by decide +kernel
theorem dX6_word_0 : decode cX6_word 0 = .ok (.aload_n 0, 1) := by decide +kernel
theorem dX6_word_1 : decode cX6_word 1 = .ok (.iload_n 1, 1) := by decide +kernel
theorem dX6_word_2 : decode cX6_word 2 = .ok (.iconst 4, 1) := by decide +kernel
theorem dX6_word_3 : decode cX6_word 3 = .ok (.invokevirtual 27, 3) := by decide +kernel
theorem dX6_word_6 : decode cX6_word 6 = .ok (.l2i, 1) := by decide +kernel
theorem dX6_word_7 : decode cX6_word 7 = .ok (.ireturn, 1) := by decide +kernel
theorem dX6_half_0 : decode cX6_half 0 = .ok (.aload_n 0, 1) := by decide +kernel
theorem dX6_half_1 : decode cX6_half 1 = .ok (.iload_n 1, 1) := by decide +kernel
theorem dX6_half_2 : decode cX6_half 2 = .ok (.invokevirtual 19, 3) := by decide +kernel
theorem dX6_half_5 : decode cX6_half 5 = .ok (.bipush 8, 2) := by decide +kernel
theorem dX6_half_7 : decode cX6_half 7 = .ok (.ishl, 1) := by decide +kernel
theorem dX6_half_8 : decode cX6_half 8 = .ok (.aload_n 0, 1) := by decide +kernel
theorem dX6_half_9 : decode cX6_half 9 = .ok (.iload_n 1, 1) := by decide +kernel
theorem dX6_half_10 : decode cX6_half 10 = .ok (.iconst 1, 1) := by decide +kernel
theorem dX6_half_11 : decode cX6_half 11 = .ok (.iadd, 1) := by decide +kernel
theorem dX6_half_12 : decode cX6_half 12 = .ok (.invokevirtual 19, 3) := by decide +kernel
theorem dX6_half_15 : decode cX6_half 15 = .ok (.ior, 1) := by decide +kernel
theorem dX6_half_16 : decode cX6_half 16 = .ok (.i2s, 1) := by decide +kernel
theorem dX6_half_17 : decode cX6_half 17 = .ok (.ireturn, 1) := by decide +kernel
theorem dX6_blockKey_0 : decode cX6_blockKey 0 = .ok (.aload_n 0, 1) := by decide +kernel
theorem dX6_blockKey_1 : decode cX6_blockKey 1 = .ok (.getfield 15, 3) := by decide +kernel
theorem dX6_blockKey_4 : decode cX6_blockKey 4 = .ok (.iload_n 1, 1) := by decide +kernel
theorem dX6_blockKey_5 : decode cX6_blockKey 5 = .ok (.iconst 3, 1) := by decide +kernel
theorem dX6_blockKey_6 : decode cX6_blockKey 6 = .ok (.iand, 1) := by decide +kernel
theorem dX6_blockKey_7 : decode cX6_blockKey 7 = .ok (.iaload, 1) := by decide +kernel
theorem dX6_blockKey_8 : decode cX6_blockKey 8 = .ok (.ireturn, 1) := by decide +kernel
theorem dX6_setBlockKey_0 : decode cX6_setBlockKey 0 = .ok (.aload_n 0, 1) := by decide +kernel
theorem dX6_setBlockKey_1 : decode cX6_setBlockKey 1 = .ok (.getfield 15, 3) := by decide +kernel
theorem dX6_setBlockKey_4 : decode cX6_setBlockKey 4 = .ok (.iload_n 1, 1) := by decide +kernel
theorem dX6_setBlockKey_5 : decode cX6_setBlockKey 5 = .ok (.iconst 3, 1) := by decide +kernel
theorem dX6_setBlockKey_6 : decode cX6_setBlockKey 6 = .ok (.iand, 1) := by decide +kernel
theorem dX6_setBlockKey_7 : decode cX6_setBlockKey 7 = .ok (.iload_n 2, 1) := by decide +kernel
theorem dX6_setBlockKey_8 : decode cX6_setBlockKey 8 = .ok (.iastore, 1) := by decide +kernel
theorem dX6_setBlockKey_9 : decode cX6_setBlockKey 9 = .ok (.return_, 1) := by decide +kernel
theorem dX6_refusal_0 : decode cX6_refusal 0 = .ok (.iload_n 1, 1) := by decide +kernel
theorem dX6_refusal_1 : decode cX6_refusal 1 = .ok (.sipush 8192, 3) := by decide +kernel
theorem dX6_refusal_4 : decode cX6_refusal 4 = .ok (.if_icmp .lt 5, 3) := by decide +kernel
theorem dX6_refusal_7 : decode cX6_refusal 7 = .ok (.iconst 5, 1) := by decide +kernel
theorem dX6_refusal_8 : decode cX6_refusal 8 = .ok (.ireturn, 1) := by decide +kernel
theorem dX6_refusal_9 : decode cX6_refusal 9 = .ok (.aload_n 0, 1) := by decide +kernel
theorem dX6_refusal_10 : decode cX6_refusal 10 = .ok (.getfield 15, 3) := by decide +kernel
theorem dX6_refusal_13 : decode cX6_refusal 13 = .ok (.iload_n 1, 1) := by decide +kernel
theorem dX6_refusal_14 : decode cX6_refusal 14 = .ok (.sipush 2048, 3) := by decide +kernel
theorem dX6_refusal_17 : decode cX6_refusal 17 = .ok (.idiv, 1) := by decide +kernel
theorem dX6_refusal_18 : decode cX6_refusal 18 = .ok (.iconst 3, 1) := by decide +kernel
theorem dX6_refusal_19 : decode cX6_refusal 19 = .ok (.iand, 1) := by decide +kernel
theorem dX6_refusal_20 : decode cX6_refusal 20 = .ok (.iaload, 1) := by decide +kernel
theorem dX6_refusal_21 : decode cX6_refusal 21 = .ok (.istore 4, 2) := by decide +kernel
theorem dX6_refusal_23 : decode cX6_refusal 23 = .ok (.iload_n 3, 1) := by decide +kernel
theorem dX6_refusal_24 : decode cX6_refusal 24 = .ok (.ifCond .eq 15, 3) := by decide +kernel
theorem dX6_refusal_27 : decode cX6_refusal 27 = .ok (.iload 4, 2) := by decide +kernel
theorem dX6_refusal_29 : decode cX6_refusal 29 = .ok (.iconst 1, 1) := by decide +kernel
theorem dX6_refusal_30 : decode cX6_refusal 30 = .ok (.ishr, 1) := by decide +kernel
theorem dX6_refusal_31 : decode cX6_refusal 31 = .ok (.iload_n 3, 1) := by decide +kernel
theorem dX6_refusal_32 : decode cX6_refusal 32 = .ok (.if_icmp .eq 7, 3) := by decide +kernel
theorem dX6_refusal_35 : decode cX6_refusal 35 = .ok (.iconst 1, 1) := by decide +kernel
theorem dX6_refusal_36 : decode cX6_refusal 36 = .ok (.goto 4, 3) := by decide +kernel
theorem dX6_refusal_39 : decode cX6_refusal 39 = .ok (.iconst 0, 1) := by decide +kernel
theorem dX6_refusal_40 : decode cX6_refusal 40 = .ok (.istore 5, 2) := by decide +kernel
theorem dX6_refusal_42 : decode cX6_refusal 42 = .ok (.iload 5, 2) := by decide +kernel
theorem dX6_refusal_44 : decode cX6_refusal 44 = .ok (.ifCond .eq 18, 3) := by decide +kernel
theorem dX6_refusal_47 : decode cX6_refusal 47 = .ok (.iload_n 2, 1) := by decide +kernel
theorem dX6_refusal_48 : decode cX6_refusal 48 = .ok (.ifCond .ne 10, 3) := by decide +kernel
theorem dX6_refusal_51 : decode cX6_refusal 51 = .ok (.iload 4, 2) := by decide +kernel
theorem dX6_refusal_53 : decode cX6_refusal 53 = .ok (.iconst 1, 1) := by decide +kernel
theorem dX6_refusal_54 : decode cX6_refusal 54 = .ok (.iand, 1) := by decide +kernel
theorem dX6_refusal_55 : decode cX6_refusal 55 = .ok (.ifCond .eq 7, 3) := by decide +kernel
theorem dX6_refusal_58 : decode cX6_refusal 58 = .ok (.iconst 4, 1) := by decide +kernel
theorem dX6_refusal_59 : decode cX6_refusal 59 = .ok (.goto 4, 3) := by decide +kernel
theorem dX6_refusal_62 : decode cX6_refusal 62 = .ok (.iconst 0, 1) := by decide +kernel
theorem dX6_refusal_63 : decode cX6_refusal 63 = .ok (.ireturn, 1) := by decide +kernel
theorem dX7_init_0 : decode cX7_init 0 = .ok (.aload_n 0, 1) := by decide +kernel
theorem dX7_init_1 : decode cX7_init 1 = .ok (.invokespecial 3, 3) := by decide +kernel
theorem dX7_init_4 : decode cX7_init 4 = .ok (.return_, 1) := by decide +kernel
theorem dX7_become_0 : decode cX7_become 0 = .ok (.aload_n 0, 1) := by decide +kernel
theorem dX7_become_1 : decode cX7_become 1 = .ok (.lload_n 1, 1) := by decide +kernel
theorem dX7_become_2 : decode cX7_become 2 = .ok (.ldc2_w 11, 3) := by decide +kernel
theorem dX7_become_5 : decode cX7_become 5 = .ok (.land, 1) := by decide +kernel
theorem dX7_become_6 : decode cX7_become 6 = .ok (.putfield 13, 3) := by decide +kernel
theorem dX7_become_9 : decode cX7_become 9 = .ok (.return_, 1) := by decide +kernel
theorem dX7_has_0 : decode cX7_has 0 = .ok (.aload_n 0, 1) := by decide +kernel
theorem dX7_has_1 : decode cX7_has 1 = .ok (.getfield 13, 3) := by decide +kernel
theorem dX7_has_4 : decode cX7_has 4 = .ok (.bipush 63, 2) := by decide +kernel
theorem dX7_has_6 : decode cX7_has 6 = .ok (.iload_n 1, 1) := by decide +kernel
theorem dX7_has_7 : decode cX7_has 7 = .ok (.isub, 1) := by decide +kernel
theorem dX7_has_8 : decode cX7_has 8 = .ok (.lushr, 1) := by decide +kernel
theorem dX7_has_9 : decode cX7_has 9 = .ok (.lconst 1, 1) := by decide +kernel
theorem dX7_has_10 : decode cX7_has 10 = .ok (.land, 1) := by decide +kernel
theorem dX7_has_11 : decode cX7_has 11 = .ok (.lconst 1, 1) := by decide +kernel
theorem dX7_has_12 : decode cX7_has 12 = .ok (.lcmp, 1) := by decide +kernel
theorem dX7_has_13 : decode cX7_has 13 = .ok (.ifCond .ne 7, 3) := by decide +kernel
theorem dX7_has_16 : decode cX7_has 16 = .ok (.iconst 1, 1) := by decide +kernel
theorem dX7_has_17 : decode cX7_has 17 = .ok (.goto 4, 3) := by decide +kernel
theorem dX7_has_20 : decode cX7_has 20 = .ok (.iconst 0, 1) := by decide +kernel
theorem dX7_has_21 : decode cX7_has 21 = .ok (.ireturn, 1) := by decide +kernel
theorem dX7_change_0 : decode cX7_change 0 = .ok (.bipush 63, 2) := by decide +kernel
theorem dX7_change_2 : decode cX7_change 2 = .ok (.iload_n 1, 1) := by decide +kernel
theorem dX7_change_3 : decode cX7_change 3 = .ok (.isub, 1) := by decide +kernel
theorem dX7_change_4 : decode cX7_change 4 = .ok (.istore 4, 2) := by decide +kernel
theorem dX7_change_6 : decode cX7_change 6 = .ok (.lconst 1, 1) := by decide +kernel
theorem dX7_change_7 : decode cX7_change 7 = .ok (.iload_n 2, 1) := by decide +kernel
theorem dX7_change_8 : decode cX7_change 8 = .ok (.lshl, 1) := by decide +kernel
theorem dX7_change_9 : decode cX7_change 9 = .ok (.lconst 1, 1) := by decide +kernel
theorem dX7_change_10 : decode cX7_change 10 = .ok (.lsub, 1) := by decide +kernel
theorem dX7_change_11 : decode cX7_change 11 = .ok (.lstore 5, 2) := by decide +kernel
theorem dX7_change_13 : decode cX7_change 13 = .ok (.aload_n 0, 1) := by decide +kernel
theorem dX7_change_14 : decode cX7_change 14 = .ok (.aload_n 0, 1) := by decide +kernel
theorem dX7_change_15 : decode cX7_change 15 = .ok (.getfield 13, 3) := by decide +kernel
theorem dX7_change_18 : decode cX7_change 18 = .ok (.lload 5, 2) := by decide +kernel
theorem dX7_change_20 : decode cX7_change 20 = .ok (.iload 4, 2) := by decide +kernel
theorem dX7_change_22 : decode cX7_change 22 = .ok (.lshl, 1) := by decide +kernel
theorem dX7_change_23 : decode cX7_change 23 = .ok (.ldc2_w 17, 3) := by decide +kernel
theorem dX7_change_26 : decode cX7_change 26 = .ok (.lxor, 1) := by decide +kernel
theorem dX7_change_27 : decode cX7_change 27 = .ok (.land, 1) := by decide +kernel
theorem dX7_change_28 : decode cX7_change 28 = .ok (.iload_n 3, 1) := by decide +kernel
theorem dX7_change_29 : decode cX7_change 29 = .ok (.i2l, 1) := by decide +kernel
theorem dX7_change_30 : decode cX7_change 30 = .ok (.lload 5, 2) := by decide +kernel
theorem dX7_change_32 : decode cX7_change 32 = .ok (.land, 1) := by decide +kernel
theorem dX7_change_33 : decode cX7_change 33 = .ok (.iload 4, 2) := by decide +kernel
theorem dX7_change_35 : decode cX7_change 35 = .ok (.lshl, 1) := by decide +kernel
theorem dX7_change_36 : decode cX7_change 36 = .ok (.lor, 1) := by decide +kernel
theorem dX7_change_37 : decode cX7_change 37 = .ok (.putfield 13, 3) := by decide +kernel
theorem dX7_change_40 : decode cX7_change 40 = .ok (.return_, 1) := by decide +kernel
theorem dX7_setSystemMask_0 : decode cX7_setSystemMask 0 = .ok (.aload_n 0, 1) := by decide +kernel
theorem dX7_setSystemMask_1 : decode cX7_setSystemMask 1 = .ok (.bipush 7, 2) := by decide +kernel
theorem dX7_setSystemMask_3 : decode cX7_setSystemMask 3 = .ok (.bipush 8, 2) := by decide +kernel
theorem dX7_setSystemMask_5 : decode cX7_setSystemMask 5 = .ok (.iload_n 1, 1) := by decide +kernel
theorem dX7_setSystemMask_6 : decode cX7_setSystemMask 6 = .ok (.invokevirtual 19, 3) := by decide +kernel
theorem dX7_setSystemMask_9 : decode cX7_setSystemMask 9 = .ok (.return_, 1) := by decide +kernel
theorem dX7_protectionKey_0 : decode cX7_protectionKey 0 = .ok (.aload_n 0, 1) := by decide +kernel
theorem dX7_protectionKey_1 : decode cX7_protectionKey 1 = .ok (.getfield 13, 3) := by decide +kernel
theorem dX7_protectionKey_4 : decode cX7_protectionKey 4 = .ok (.bipush 52, 2) := by decide +kernel
theorem dX7_protectionKey_6 : decode cX7_protectionKey 6 = .ok (.lushr, 1) := by decide +kernel
theorem dX7_protectionKey_7 : decode cX7_protectionKey 7 = .ok (.l2i, 1) := by decide +kernel
theorem dX7_protectionKey_8 : decode cX7_protectionKey 8 = .ok (.bipush 15, 2) := by decide +kernel
theorem dX7_protectionKey_10 : decode cX7_protectionKey 10 = .ok (.iand, 1) := by decide +kernel
theorem dX7_protectionKey_11 : decode cX7_protectionKey 11 = .ok (.ireturn, 1) := by decide +kernel
theorem dX7_setCode_0 : decode cX7_setCode 0 = .ok (.aload_n 0, 1) := by decide +kernel
theorem dX7_setCode_1 : decode cX7_setCode 1 = .ok (.bipush 31, 2) := by decide +kernel
theorem dX7_setCode_3 : decode cX7_setCode 3 = .ok (.bipush 16, 2) := by decide +kernel
theorem dX7_setCode_5 : decode cX7_setCode 5 = .ok (.iload_n 1, 1) := by decide +kernel
theorem dX7_setCode_6 : decode cX7_setCode 6 = .ok (.invokevirtual 19, 3) := by decide +kernel
theorem dX7_setCode_9 : decode cX7_setCode 9 = .ok (.return_, 1) := by decide +kernel
theorem dX7_setLength_0 : decode cX7_setLength 0 = .ok (.aload_n 0, 1) := by decide +kernel
theorem dX7_setLength_1 : decode cX7_setLength 1 = .ok (.bipush 33, 2) := by decide +kernel
theorem dX7_setLength_3 : decode cX7_setLength 3 = .ok (.iconst 2, 1) := by decide +kernel
theorem dX7_setLength_4 : decode cX7_setLength 4 = .ok (.iload_n 1, 1) := by decide +kernel
theorem dX7_setLength_5 : decode cX7_setLength 5 = .ok (.invokevirtual 19, 3) := by decide +kernel
theorem dX7_setLength_8 : decode cX7_setLength 8 = .ok (.return_, 1) := by decide +kernel
theorem dX7_condition_0 : decode cX7_condition 0 = .ok (.aload_n 0, 1) := by decide +kernel
theorem dX7_condition_1 : decode cX7_condition 1 = .ok (.getfield 13, 3) := by decide +kernel
theorem dX7_condition_4 : decode cX7_condition 4 = .ok (.bipush 28, 2) := by decide +kernel
theorem dX7_condition_6 : decode cX7_condition 6 = .ok (.lushr, 1) := by decide +kernel
theorem dX7_condition_7 : decode cX7_condition 7 = .ok (.l2i, 1) := by decide +kernel
theorem dX7_condition_8 : decode cX7_condition 8 = .ok (.iconst 3, 1) := by decide +kernel
theorem dX7_condition_9 : decode cX7_condition 9 = .ok (.iand, 1) := by decide +kernel
theorem dX7_condition_10 : decode cX7_condition 10 = .ok (.ireturn, 1) := by decide +kernel
theorem dX7_setCondition_0 : decode cX7_setCondition 0 = .ok (.aload_n 0, 1) := by decide +kernel
theorem dX7_setCondition_1 : decode cX7_setCondition 1 = .ok (.aload_n 0, 1) := by decide +kernel
theorem dX7_setCondition_2 : decode cX7_setCondition 2 = .ok (.getfield 13, 3) := by decide +kernel
theorem dX7_setCondition_5 : decode cX7_setCondition 5 = .ok (.ldc2_w 23, 3) := by decide +kernel
theorem dX7_setCondition_8 : decode cX7_setCondition 8 = .ok (.land, 1) := by decide +kernel
theorem dX7_setCondition_9 : decode cX7_setCondition 9 = .ok (.iload_n 1, 1) := by decide +kernel
theorem dX7_setCondition_10 : decode cX7_setCondition 10 = .ok (.i2l, 1) := by decide +kernel
theorem dX7_setCondition_11 : decode cX7_setCondition 11 = .ok (.ldc2_w 25, 3) := by decide +kernel
theorem dX7_setCondition_14 : decode cX7_setCondition 14 = .ok (.land, 1) := by decide +kernel
theorem dX7_setCondition_15 : decode cX7_setCondition 15 = .ok (.bipush 28, 2) := by decide +kernel
theorem dX7_setCondition_17 : decode cX7_setCondition 17 = .ok (.lshl, 1) := by decide +kernel
theorem dX7_setCondition_18 : decode cX7_setCondition 18 = .ok (.lor, 1) := by decide +kernel
theorem dX7_setCondition_19 : decode cX7_setCondition 19 = .ok (.putfield 13, 3) := by decide +kernel
theorem dX7_setCondition_22 : decode cX7_setCondition 22 = .ok (.return_, 1) := by decide +kernel
theorem dX7_setConditionAndProgramMask_0 : decode cX7_setConditionAndProgramMask 0 = .ok (.aload_n 0, 1) := by decide +kernel
theorem dX7_setConditionAndProgramMask_1 : decode cX7_setConditionAndProgramMask 1 = .ok (.bipush 39, 2) := by decide +kernel
theorem dX7_setConditionAndProgramMask_3 : decode cX7_setConditionAndProgramMask 3 = .ok (.bipush 6, 2) := by decide +kernel
theorem dX7_setConditionAndProgramMask_5 : decode cX7_setConditionAndProgramMask 5 = .ok (.iload_n 1, 1) := by decide +kernel
theorem dX7_setConditionAndProgramMask_6 : decode cX7_setConditionAndProgramMask 6 = .ok (.invokevirtual 19, 3) := by decide +kernel
theorem dX7_setConditionAndProgramMask_9 : decode cX7_setConditionAndProgramMask 9 = .ok (.return_, 1) := by decide +kernel
theorem dX7_address_0 : decode cX7_address 0 = .ok (.aload_n 0, 1) := by decide +kernel
theorem dX7_address_1 : decode cX7_address 1 = .ok (.getfield 13, 3) := by decide +kernel
theorem dX7_address_4 : decode cX7_address 4 = .ok (.l2i, 1) := by decide +kernel
theorem dX7_address_5 : decode cX7_address 5 = .ok (.ldc 27, 2) := by decide +kernel
theorem dX7_address_7 : decode cX7_address 7 = .ok (.iand, 1) := by decide +kernel
theorem dX7_address_8 : decode cX7_address 8 = .ok (.ireturn, 1) := by decide +kernel
theorem dX7_setAddress_0 : decode cX7_setAddress 0 = .ok (.aload_n 0, 1) := by decide +kernel
theorem dX7_setAddress_1 : decode cX7_setAddress 1 = .ok (.bipush 63, 2) := by decide +kernel
theorem dX7_setAddress_3 : decode cX7_setAddress 3 = .ok (.bipush 24, 2) := by decide +kernel
theorem dX7_setAddress_5 : decode cX7_setAddress 5 = .ok (.iload_n 1, 1) := by decide +kernel
theorem dX7_setAddress_6 : decode cX7_setAddress 6 = .ok (.invokevirtual 19, 3) := by decide +kernel
theorem dX7_setAddress_9 : decode cX7_setAddress 9 = .ok (.return_, 1) := by decide +kernel
theorem dX8_init_0 : decode cX8_init 0 = .ok (.aload_n 0, 1) := by decide +kernel
theorem dX8_init_1 : decode cX8_init 1 = .ok (.invokespecial 3, 3) := by decide +kernel
theorem dX8_init_4 : decode cX8_init 4 = .ok (.aload_n 0, 1) := by decide +kernel
theorem dX8_init_5 : decode cX8_init 5 = .ok (.aload_n 1, 1) := by decide +kernel
theorem dX8_init_6 : decode cX8_init 6 = .ok (.putfield 9, 3) := by decide +kernel
theorem dX8_init_9 : decode cX8_init 9 = .ok (.aload_n 0, 1) := by decide +kernel
theorem dX8_init_10 : decode cX8_init 10 = .ok (.aload_n 2, 1) := by decide +kernel
theorem dX8_init_11 : decode cX8_init 11 = .ok (.putfield 15, 3) := by decide +kernel
theorem dX8_init_14 : decode cX8_init 14 = .ok (.return_, 1) := by decide +kernel
theorem dX8_shiftWord_0 : decode cX8_shiftWord 0 = .ok (.aload_n 0, 1) := by decide +kernel
theorem dX8_shiftWord_1 : decode cX8_shiftWord 1 = .ok (.getfield 15, 3) := by decide +kernel
theorem dX8_shiftWord_4 : decode cX8_shiftWord 4 = .ok (.getfield 19, 3) := by decide +kernel
theorem dX8_shiftWord_7 : decode cX8_shiftWord 7 = .ok (.bipush 63, 2) := by decide +kernel
theorem dX8_shiftWord_9 : decode cX8_shiftWord 9 = .ok (.iand, 1) := by decide +kernel
theorem dX8_shiftWord_10 : decode cX8_shiftWord 10 = .ok (.istore_n 1, 1) := by decide +kernel
theorem dX8_shiftWord_11 : decode cX8_shiftWord 11 = .ok (.aload_n 0, 1) := by decide +kernel
theorem dX8_shiftWord_12 : decode cX8_shiftWord 12 = .ok (.getfield 9, 3) := by decide +kernel
theorem dX8_shiftWord_15 : decode cX8_shiftWord 15 = .ok (.aload_n 0, 1) := by decide +kernel
theorem dX8_shiftWord_16 : decode cX8_shiftWord 16 = .ok (.getfield 15, 3) := by decide +kernel
theorem dX8_shiftWord_19 : decode cX8_shiftWord 19 = .ok (.getfield 25, 3) := by decide +kernel
theorem dX8_shiftWord_22 : decode cX8_shiftWord 22 = .ok (.invokevirtual 28, 3) := by decide +kernel
theorem dX8_shiftWord_25 : decode cX8_shiftWord 25 = .ok (.istore_n 2, 1) := by decide +kernel
theorem dX8_shiftWord_26 : decode cX8_shiftWord 26 = .ok (.aload_n 0, 1) := by decide +kernel
theorem dX8_shiftWord_27 : decode cX8_shiftWord 27 = .ok (.getfield 15, 3) := by decide +kernel
theorem dX8_shiftWord_30 : decode cX8_shiftWord 30 = .ok (.getfield 34, 3) := by decide +kernel
theorem dX8_shiftWord_33 : decode cX8_shiftWord 33 = .ok (.tableswitch 87 136 138 #[27, 53, 75], 27) := by decide +kernel
theorem dX8_shiftWord_60 : decode cX8_shiftWord 60 = .ok (.aload_n 0, 1) := by decide +kernel
theorem dX8_shiftWord_61 : decode cX8_shiftWord 61 = .ok (.getfield 9, 3) := by decide +kernel
theorem dX8_shiftWord_64 : decode cX8_shiftWord 64 = .ok (.aload_n 0, 1) := by decide +kernel
theorem dX8_shiftWord_65 : decode cX8_shiftWord 65 = .ok (.getfield 15, 3) := by decide +kernel
theorem dX8_shiftWord_68 : decode cX8_shiftWord 68 = .ok (.getfield 25, 3) := by decide +kernel
theorem dX8_shiftWord_71 : decode cX8_shiftWord 71 = .ok (.iload_n 2, 1) := by decide +kernel
theorem dX8_shiftWord_72 : decode cX8_shiftWord 72 = .ok (.i2l, 1) := by decide +kernel
theorem dX8_shiftWord_73 : decode cX8_shiftWord 73 = .ok (.ldc2_w 37, 3) := by decide +kernel
theorem dX8_shiftWord_76 : decode cX8_shiftWord 76 = .ok (.land, 1) := by decide +kernel
theorem dX8_shiftWord_77 : decode cX8_shiftWord 77 = .ok (.iload_n 1, 1) := by decide +kernel
theorem dX8_shiftWord_78 : decode cX8_shiftWord 78 = .ok (.lushr, 1) := by decide +kernel
theorem dX8_shiftWord_79 : decode cX8_shiftWord 79 = .ok (.l2i, 1) := by decide +kernel
theorem dX8_shiftWord_80 : decode cX8_shiftWord 80 = .ok (.invokevirtual 39, 3) := by decide +kernel
theorem dX8_shiftWord_83 : decode cX8_shiftWord 83 = .ok (.goto 47, 3) := by decide +kernel
theorem dX8_shiftWord_86 : decode cX8_shiftWord 86 = .ok (.aload_n 0, 1) := by decide +kernel
theorem dX8_shiftWord_87 : decode cX8_shiftWord 87 = .ok (.getfield 9, 3) := by decide +kernel
theorem dX8_shiftWord_90 : decode cX8_shiftWord 90 = .ok (.aload_n 0, 1) := by decide +kernel
theorem dX8_shiftWord_91 : decode cX8_shiftWord 91 = .ok (.getfield 15, 3) := by decide +kernel
theorem dX8_shiftWord_94 : decode cX8_shiftWord 94 = .ok (.getfield 25, 3) := by decide +kernel
theorem dX8_shiftWord_97 : decode cX8_shiftWord 97 = .ok (.iload_n 2, 1) := by decide +kernel
theorem dX8_shiftWord_98 : decode cX8_shiftWord 98 = .ok (.i2l, 1) := by decide +kernel
theorem dX8_shiftWord_99 : decode cX8_shiftWord 99 = .ok (.iload_n 1, 1) := by decide +kernel
theorem dX8_shiftWord_100 : decode cX8_shiftWord 100 = .ok (.lshl, 1) := by decide +kernel
theorem dX8_shiftWord_101 : decode cX8_shiftWord 101 = .ok (.l2i, 1) := by decide +kernel
theorem dX8_shiftWord_102 : decode cX8_shiftWord 102 = .ok (.invokevirtual 39, 3) := by decide +kernel
theorem dX8_shiftWord_105 : decode cX8_shiftWord 105 = .ok (.goto 25, 3) := by decide +kernel
theorem dX8_shiftWord_108 : decode cX8_shiftWord 108 = .ok (.aload_n 0, 1) := by decide +kernel
theorem dX8_shiftWord_109 : decode cX8_shiftWord 109 = .ok (.iload_n 2, 1) := by decide +kernel
theorem dX8_shiftWord_110 : decode cX8_shiftWord 110 = .ok (.i2l, 1) := by decide +kernel
theorem dX8_shiftWord_111 : decode cX8_shiftWord 111 = .ok (.iload_n 1, 1) := by decide +kernel
theorem dX8_shiftWord_112 : decode cX8_shiftWord 112 = .ok (.lshr, 1) := by decide +kernel
theorem dX8_shiftWord_113 : decode cX8_shiftWord 113 = .ok (.l2i, 1) := by decide +kernel
theorem dX8_shiftWord_114 : decode cX8_shiftWord 114 = .ok (.invokevirtual 43, 3) := by decide +kernel
theorem dX8_shiftWord_117 : decode cX8_shiftWord 117 = .ok (.goto 13, 3) := by decide +kernel
theorem dX8_shiftWord_120 : decode cX8_shiftWord 120 = .ok (.aload_n 0, 1) := by decide +kernel
theorem dX8_shiftWord_121 : decode cX8_shiftWord 121 = .ok (.iload_n 2, 1) := by decide +kernel
theorem dX8_shiftWord_122 : decode cX8_shiftWord 122 = .ok (.i2l, 1) := by decide +kernel
theorem dX8_shiftWord_123 : decode cX8_shiftWord 123 = .ok (.bipush 32, 2) := by decide +kernel
theorem dX8_shiftWord_125 : decode cX8_shiftWord 125 = .ok (.lshl, 1) := by decide +kernel
theorem dX8_shiftWord_126 : decode cX8_shiftWord 126 = .ok (.iload_n 1, 1) := by decide +kernel
theorem dX8_shiftWord_127 : decode cX8_shiftWord 127 = .ok (.invokevirtual 47, 3) := by decide +kernel
theorem dX8_shiftWord_130 : decode cX8_shiftWord 130 = .ok (.return_, 1) := by decide +kernel
theorem dX8_shiftDouble_0 : decode cX8_shiftDouble 0 = .ok (.aload_n 0, 1) := by decide +kernel
theorem dX8_shiftDouble_1 : decode cX8_shiftDouble 1 = .ok (.getfield 9, 3) := by decide +kernel
theorem dX8_shiftDouble_4 : decode cX8_shiftDouble 4 = .ok (.aload_n 0, 1) := by decide +kernel
theorem dX8_shiftDouble_5 : decode cX8_shiftDouble 5 = .ok (.getfield 15, 3) := by decide +kernel
theorem dX8_shiftDouble_8 : decode cX8_shiftDouble 8 = .ok (.getfield 25, 3) := by decide +kernel
theorem dX8_shiftDouble_11 : decode cX8_shiftDouble 11 = .ok (.invokevirtual 51, 3) := by decide +kernel
theorem dX8_shiftDouble_14 : decode cX8_shiftDouble 14 = .ok (.aload_n 0, 1) := by decide +kernel
theorem dX8_shiftDouble_15 : decode cX8_shiftDouble 15 = .ok (.getfield 9, 3) := by decide +kernel
theorem dX8_shiftDouble_18 : decode cX8_shiftDouble 18 = .ok (.invokevirtual 54, 3) := by decide +kernel
theorem dX8_shiftDouble_21 : decode cX8_shiftDouble 21 = .ok (.ifCond .ne 4, 3) := by decide +kernel
theorem dX8_shiftDouble_24 : decode cX8_shiftDouble 24 = .ok (.return_, 1) := by decide +kernel
theorem dX8_shiftDouble_25 : decode cX8_shiftDouble 25 = .ok (.aload_n 0, 1) := by decide +kernel
theorem dX8_shiftDouble_26 : decode cX8_shiftDouble 26 = .ok (.getfield 15, 3) := by decide +kernel
theorem dX8_shiftDouble_29 : decode cX8_shiftDouble 29 = .ok (.getfield 19, 3) := by decide +kernel
theorem dX8_shiftDouble_32 : decode cX8_shiftDouble 32 = .ok (.bipush 63, 2) := by decide +kernel
theorem dX8_shiftDouble_34 : decode cX8_shiftDouble 34 = .ok (.iand, 1) := by decide +kernel
theorem dX8_shiftDouble_35 : decode cX8_shiftDouble 35 = .ok (.istore_n 1, 1) := by decide +kernel
theorem dX8_shiftDouble_36 : decode cX8_shiftDouble 36 = .ok (.aload_n 0, 1) := by decide +kernel
theorem dX8_shiftDouble_37 : decode cX8_shiftDouble 37 = .ok (.getfield 9, 3) := by decide +kernel
theorem dX8_shiftDouble_40 : decode cX8_shiftDouble 40 = .ok (.aload_n 0, 1) := by decide +kernel
theorem dX8_shiftDouble_41 : decode cX8_shiftDouble 41 = .ok (.getfield 15, 3) := by decide +kernel
theorem dX8_shiftDouble_44 : decode cX8_shiftDouble 44 = .ok (.getfield 25, 3) := by decide +kernel
theorem dX8_shiftDouble_47 : decode cX8_shiftDouble 47 = .ok (.invokevirtual 58, 3) := by decide +kernel
theorem dX8_shiftDouble_50 : decode cX8_shiftDouble 50 = .ok (.lstore_n 2, 1) := by decide +kernel
theorem dX8_shiftDouble_51 : decode cX8_shiftDouble 51 = .ok (.aload_n 0, 1) := by decide +kernel
theorem dX8_shiftDouble_52 : decode cX8_shiftDouble 52 = .ok (.getfield 15, 3) := by decide +kernel
theorem dX8_shiftDouble_55 : decode cX8_shiftDouble 55 = .ok (.getfield 34, 3) := by decide +kernel
theorem dX8_shiftDouble_58 : decode cX8_shiftDouble 58 = .ok (.tableswitch 76 140 142 #[26, 46, 66], 26) := by decide +kernel
theorem dX8_shiftDouble_84 : decode cX8_shiftDouble 84 = .ok (.aload_n 0, 1) := by decide +kernel
theorem dX8_shiftDouble_85 : decode cX8_shiftDouble 85 = .ok (.getfield 9, 3) := by decide +kernel
theorem dX8_shiftDouble_88 : decode cX8_shiftDouble 88 = .ok (.aload_n 0, 1) := by decide +kernel
theorem dX8_shiftDouble_89 : decode cX8_shiftDouble 89 = .ok (.getfield 15, 3) := by decide +kernel
theorem dX8_shiftDouble_92 : decode cX8_shiftDouble 92 = .ok (.getfield 25, 3) := by decide +kernel
theorem dX8_shiftDouble_95 : decode cX8_shiftDouble 95 = .ok (.lload_n 2, 1) := by decide +kernel
theorem dX8_shiftDouble_96 : decode cX8_shiftDouble 96 = .ok (.iload_n 1, 1) := by decide +kernel
theorem dX8_shiftDouble_97 : decode cX8_shiftDouble 97 = .ok (.lushr, 1) := by decide +kernel
theorem dX8_shiftDouble_98 : decode cX8_shiftDouble 98 = .ok (.invokevirtual 62, 3) := by decide +kernel
theorem dX8_shiftDouble_101 : decode cX8_shiftDouble 101 = .ok (.goto 39, 3) := by decide +kernel
theorem dX8_shiftDouble_104 : decode cX8_shiftDouble 104 = .ok (.aload_n 0, 1) := by decide +kernel
theorem dX8_shiftDouble_105 : decode cX8_shiftDouble 105 = .ok (.getfield 9, 3) := by decide +kernel
theorem dX8_shiftDouble_108 : decode cX8_shiftDouble 108 = .ok (.aload_n 0, 1) := by decide +kernel
theorem dX8_shiftDouble_109 : decode cX8_shiftDouble 109 = .ok (.getfield 15, 3) := by decide +kernel
theorem dX8_shiftDouble_112 : decode cX8_shiftDouble 112 = .ok (.getfield 25, 3) := by decide +kernel
theorem dX8_shiftDouble_115 : decode cX8_shiftDouble 115 = .ok (.lload_n 2, 1) := by decide +kernel
theorem dX8_shiftDouble_116 : decode cX8_shiftDouble 116 = .ok (.iload_n 1, 1) := by decide +kernel
theorem dX8_shiftDouble_117 : decode cX8_shiftDouble 117 = .ok (.lshl, 1) := by decide +kernel
theorem dX8_shiftDouble_118 : decode cX8_shiftDouble 118 = .ok (.invokevirtual 62, 3) := by decide +kernel
theorem dX8_shiftDouble_121 : decode cX8_shiftDouble 121 = .ok (.goto 19, 3) := by decide +kernel
theorem dX8_shiftDouble_124 : decode cX8_shiftDouble 124 = .ok (.aload_n 0, 1) := by decide +kernel
theorem dX8_shiftDouble_125 : decode cX8_shiftDouble 125 = .ok (.lload_n 2, 1) := by decide +kernel
theorem dX8_shiftDouble_126 : decode cX8_shiftDouble 126 = .ok (.iload_n 1, 1) := by decide +kernel
theorem dX8_shiftDouble_127 : decode cX8_shiftDouble 127 = .ok (.lshr, 1) := by decide +kernel
theorem dX8_shiftDouble_128 : decode cX8_shiftDouble 128 = .ok (.invokevirtual 66, 3) := by decide +kernel
theorem dX8_shiftDouble_131 : decode cX8_shiftDouble 131 = .ok (.goto 9, 3) := by decide +kernel
theorem dX8_shiftDouble_134 : decode cX8_shiftDouble 134 = .ok (.aload_n 0, 1) := by decide +kernel
theorem dX8_shiftDouble_135 : decode cX8_shiftDouble 135 = .ok (.lload_n 2, 1) := by decide +kernel
theorem dX8_shiftDouble_136 : decode cX8_shiftDouble 136 = .ok (.iload_n 1, 1) := by decide +kernel
theorem dX8_shiftDouble_137 : decode cX8_shiftDouble 137 = .ok (.invokevirtual 70, 3) := by decide +kernel
theorem dX8_shiftDouble_140 : decode cX8_shiftDouble 140 = .ok (.return_, 1) := by decide +kernel
theorem dX8_shiftWordLeft_0 : decode cX8_shiftWordLeft 0 = .ok (.aload_n 0, 1) := by decide +kernel
theorem dX8_shiftWordLeft_1 : decode cX8_shiftWordLeft 1 = .ok (.lload_n 1, 1) := by decide +kernel
theorem dX8_shiftWordLeft_2 : decode cX8_shiftWordLeft 2 = .ok (.iload_n 3, 1) := by decide +kernel
theorem dX8_shiftWordLeft_3 : decode cX8_shiftWordLeft 3 = .ok (.invokestatic 73, 3) := by decide +kernel
theorem dX8_shiftWordLeft_6 : decode cX8_shiftWordLeft 6 = .ok (.bipush 32, 2) := by decide +kernel
theorem dX8_shiftWordLeft_8 : decode cX8_shiftWordLeft 8 = .ok (.lshr, 1) := by decide +kernel
theorem dX8_shiftWordLeft_9 : decode cX8_shiftWordLeft 9 = .ok (.l2i, 1) := by decide +kernel
theorem dX8_shiftWordLeft_10 : decode cX8_shiftWordLeft 10 = .ok (.invokevirtual 43, 3) := by decide +kernel
theorem dX8_shiftWordLeft_13 : decode cX8_shiftWordLeft 13 = .ok (.aload_n 0, 1) := by decide +kernel
theorem dX8_shiftWordLeft_14 : decode cX8_shiftWordLeft 14 = .ok (.lload_n 1, 1) := by decide +kernel
theorem dX8_shiftWordLeft_15 : decode cX8_shiftWordLeft 15 = .ok (.iload_n 3, 1) := by decide +kernel
theorem dX8_shiftWordLeft_16 : decode cX8_shiftWordLeft 16 = .ok (.invokevirtual 77, 3) := by decide +kernel
theorem dX8_shiftWordLeft_19 : decode cX8_shiftWordLeft 19 = .ok (.return_, 1) := by decide +kernel
theorem dX8_shiftDoubleLeft_0 : decode cX8_shiftDoubleLeft 0 = .ok (.aload_n 0, 1) := by decide +kernel
theorem dX8_shiftDoubleLeft_1 : decode cX8_shiftDoubleLeft 1 = .ok (.lload_n 1, 1) := by decide +kernel
theorem dX8_shiftDoubleLeft_2 : decode cX8_shiftDoubleLeft 2 = .ok (.iload_n 3, 1) := by decide +kernel
theorem dX8_shiftDoubleLeft_3 : decode cX8_shiftDoubleLeft 3 = .ok (.invokestatic 73, 3) := by decide +kernel
theorem dX8_shiftDoubleLeft_6 : decode cX8_shiftDoubleLeft 6 = .ok (.invokevirtual 66, 3) := by decide +kernel
theorem dX8_shiftDoubleLeft_9 : decode cX8_shiftDoubleLeft 9 = .ok (.aload_n 0, 1) := by decide +kernel
theorem dX8_shiftDoubleLeft_10 : decode cX8_shiftDoubleLeft 10 = .ok (.lload_n 1, 1) := by decide +kernel
theorem dX8_shiftDoubleLeft_11 : decode cX8_shiftDoubleLeft 11 = .ok (.iload_n 3, 1) := by decide +kernel
theorem dX8_shiftDoubleLeft_12 : decode cX8_shiftDoubleLeft 12 = .ok (.invokevirtual 77, 3) := by decide +kernel
theorem dX8_shiftDoubleLeft_15 : decode cX8_shiftDoubleLeft 15 = .ok (.return_, 1) := by decide +kernel
theorem dX8_shiftedKeepingSign_0 : decode cX8_shiftedKeepingSign 0 = .ok (.lload_n 0, 1) := by decide +kernel
theorem dX8_shiftedKeepingSign_1 : decode cX8_shiftedKeepingSign 1 = .ok (.ldc2_w 82, 3) := by decide +kernel
theorem dX8_shiftedKeepingSign_4 : decode cX8_shiftedKeepingSign 4 = .ok (.land, 1) := by decide +kernel
theorem dX8_shiftedKeepingSign_5 : decode cX8_shiftedKeepingSign 5 = .ok (.lload_n 0, 1) := by decide +kernel
theorem dX8_shiftedKeepingSign_6 : decode cX8_shiftedKeepingSign 6 = .ok (.iload_n 2, 1) := by decide +kernel
theorem dX8_shiftedKeepingSign_7 : decode cX8_shiftedKeepingSign 7 = .ok (.lshl, 1) := by decide +kernel
theorem dX8_shiftedKeepingSign_8 : decode cX8_shiftedKeepingSign 8 = .ok (.ldc2_w 84, 3) := by decide +kernel
theorem dX8_shiftedKeepingSign_11 : decode cX8_shiftedKeepingSign 11 = .ok (.land, 1) := by decide +kernel
theorem dX8_shiftedKeepingSign_12 : decode cX8_shiftedKeepingSign 12 = .ok (.lor, 1) := by decide +kernel
theorem dX8_shiftedKeepingSign_13 : decode cX8_shiftedKeepingSign 13 = .ok (.lreturn, 1) := by decide +kernel
theorem dX8_overflowIfLost_0 : decode cX8_overflowIfLost 0 = .ok (.iconst 1, 1) := by decide +kernel
theorem dX8_overflowIfLost_1 : decode cX8_overflowIfLost 1 = .ok (.istore 4, 2) := by decide +kernel
theorem dX8_overflowIfLost_3 : decode cX8_overflowIfLost 3 = .ok (.lload_n 1, 1) := by decide +kernel
theorem dX8_overflowIfLost_4 : decode cX8_overflowIfLost 4 = .ok (.lstore 5, 2) := by decide +kernel
theorem dX8_overflowIfLost_6 : decode cX8_overflowIfLost 6 = .ok (.iconst 0, 1) := by decide +kernel
theorem dX8_overflowIfLost_7 : decode cX8_overflowIfLost 7 = .ok (.istore 7, 2) := by decide +kernel
theorem dX8_overflowIfLost_9 : decode cX8_overflowIfLost 9 = .ok (.iload 7, 2) := by decide +kernel
theorem dX8_overflowIfLost_11 : decode cX8_overflowIfLost 11 = .ok (.iload_n 3, 1) := by decide +kernel
theorem dX8_overflowIfLost_12 : decode cX8_overflowIfLost 12 = .ok (.if_icmp .ge 53, 3) := by decide +kernel
theorem dX8_overflowIfLost_15 : decode cX8_overflowIfLost 15 = .ok (.lload 5, 2) := by decide +kernel
theorem dX8_overflowIfLost_17 : decode cX8_overflowIfLost 17 = .ok (.iconst 1, 1) := by decide +kernel
theorem dX8_overflowIfLost_18 : decode cX8_overflowIfLost 18 = .ok (.lshl, 1) := by decide +kernel
theorem dX8_overflowIfLost_19 : decode cX8_overflowIfLost 19 = .ok (.lstore 5, 2) := by decide +kernel
theorem dX8_overflowIfLost_21 : decode cX8_overflowIfLost 21 = .ok (.iload 4, 2) := by decide +kernel
theorem dX8_overflowIfLost_23 : decode cX8_overflowIfLost 23 = .ok (.ifCond .eq 33, 3) := by decide +kernel
theorem dX8_overflowIfLost_26 : decode cX8_overflowIfLost 26 = .ok (.lload 5, 2) := by decide +kernel
theorem dX8_overflowIfLost_28 : decode cX8_overflowIfLost 28 = .ok (.lconst 0, 1) := by decide +kernel
theorem dX8_overflowIfLost_29 : decode cX8_overflowIfLost 29 = .ok (.lcmp, 1) := by decide +kernel
theorem dX8_overflowIfLost_30 : decode cX8_overflowIfLost 30 = .ok (.ifCond .ge 7, 3) := by decide +kernel
theorem dX8_overflowIfLost_33 : decode cX8_overflowIfLost 33 = .ok (.iconst 1, 1) := by decide +kernel
theorem dX8_overflowIfLost_34 : decode cX8_overflowIfLost 34 = .ok (.goto 4, 3) := by decide +kernel
theorem dX8_overflowIfLost_37 : decode cX8_overflowIfLost 37 = .ok (.iconst 0, 1) := by decide +kernel
theorem dX8_overflowIfLost_38 : decode cX8_overflowIfLost 38 = .ok (.lload_n 1, 1) := by decide +kernel
theorem dX8_overflowIfLost_39 : decode cX8_overflowIfLost 39 = .ok (.lconst 0, 1) := by decide +kernel
theorem dX8_overflowIfLost_40 : decode cX8_overflowIfLost 40 = .ok (.lcmp, 1) := by decide +kernel
theorem dX8_overflowIfLost_41 : decode cX8_overflowIfLost 41 = .ok (.ifCond .ge 7, 3) := by decide +kernel
theorem dX8_overflowIfLost_44 : decode cX8_overflowIfLost 44 = .ok (.iconst 1, 1) := by decide +kernel
theorem dX8_overflowIfLost_45 : decode cX8_overflowIfLost 45 = .ok (.goto 4, 3) := by decide +kernel
theorem dX8_overflowIfLost_48 : decode cX8_overflowIfLost 48 = .ok (.iconst 0, 1) := by decide +kernel
theorem dX8_overflowIfLost_49 : decode cX8_overflowIfLost 49 = .ok (.if_icmp .ne 7, 3) := by decide +kernel
theorem dX8_overflowIfLost_52 : decode cX8_overflowIfLost 52 = .ok (.iconst 1, 1) := by decide +kernel
theorem dX8_overflowIfLost_53 : decode cX8_overflowIfLost 53 = .ok (.goto 4, 3) := by decide +kernel
theorem dX8_overflowIfLost_56 : decode cX8_overflowIfLost 56 = .ok (.iconst 0, 1) := by decide +kernel
theorem dX8_overflowIfLost_57 : decode cX8_overflowIfLost 57 = .ok (.istore 4, 2) := by decide +kernel
theorem dX8_overflowIfLost_59 : decode cX8_overflowIfLost 59 = .ok (.iinc 7 1, 3) := by decide +kernel
theorem dX8_overflowIfLost_62 : decode cX8_overflowIfLost 62 = .ok (.goto (-53), 3) := by decide +kernel
theorem dX8_overflowIfLost_65 : decode cX8_overflowIfLost 65 = .ok (.iload 4, 2) := by decide +kernel
theorem dX8_overflowIfLost_67 : decode cX8_overflowIfLost 67 = .ok (.ifCond .ne 14, 3) := by decide +kernel
theorem dX8_overflowIfLost_70 : decode cX8_overflowIfLost 70 = .ok (.aload_n 0, 1) := by decide +kernel
theorem dX8_overflowIfLost_71 : decode cX8_overflowIfLost 71 = .ok (.getfield 9, 3) := by decide +kernel
theorem dX8_overflowIfLost_74 : decode cX8_overflowIfLost 74 = .ok (.bipush 36, 2) := by decide +kernel
theorem dX8_overflowIfLost_76 : decode cX8_overflowIfLost 76 = .ok (.bipush 8, 2) := by decide +kernel
theorem dX8_overflowIfLost_78 : decode cX8_overflowIfLost 78 = .ok (.invokevirtual 88, 3) := by decide +kernel
theorem dX8_overflowIfLost_81 : decode cX8_overflowIfLost 81 = .ok (.return_, 1) := by decide +kernel
theorem dX8_setWord_0 : decode cX8_setWord 0 = .ok (.aload_n 0, 1) := by decide +kernel
theorem dX8_setWord_1 : decode cX8_setWord 1 = .ok (.getfield 9, 3) := by decide +kernel
theorem dX8_setWord_4 : decode cX8_setWord 4 = .ok (.aload_n 0, 1) := by decide +kernel
theorem dX8_setWord_5 : decode cX8_setWord 5 = .ok (.getfield 15, 3) := by decide +kernel
theorem dX8_setWord_8 : decode cX8_setWord 8 = .ok (.getfield 25, 3) := by decide +kernel
theorem dX8_setWord_11 : decode cX8_setWord 11 = .ok (.iload_n 1, 1) := by decide +kernel
theorem dX8_setWord_12 : decode cX8_setWord 12 = .ok (.invokevirtual 39, 3) := by decide +kernel
theorem dX8_setWord_15 : decode cX8_setWord 15 = .ok (.aload_n 0, 1) := by decide +kernel
theorem dX8_setWord_16 : decode cX8_setWord 16 = .ok (.getfield 9, 3) := by decide +kernel
theorem dX8_setWord_19 : decode cX8_setWord 19 = .ok (.iload_n 1, 1) := by decide +kernel
theorem dX8_setWord_20 : decode cX8_setWord 20 = .ok (.i2l, 1) := by decide +kernel
theorem dX8_setWord_21 : decode cX8_setWord 21 = .ok (.invokevirtual 91, 3) := by decide +kernel
theorem dX8_setWord_24 : decode cX8_setWord 24 = .ok (.return_, 1) := by decide +kernel
theorem dX8_setDouble_0 : decode cX8_setDouble 0 = .ok (.aload_n 0, 1) := by decide +kernel
theorem dX8_setDouble_1 : decode cX8_setDouble 1 = .ok (.getfield 9, 3) := by decide +kernel
theorem dX8_setDouble_4 : decode cX8_setDouble 4 = .ok (.aload_n 0, 1) := by decide +kernel
theorem dX8_setDouble_5 : decode cX8_setDouble 5 = .ok (.getfield 15, 3) := by decide +kernel
theorem dX8_setDouble_8 : decode cX8_setDouble 8 = .ok (.getfield 25, 3) := by decide +kernel
theorem dX8_setDouble_11 : decode cX8_setDouble 11 = .ok (.lload_n 1, 1) := by decide +kernel
theorem dX8_setDouble_12 : decode cX8_setDouble 12 = .ok (.invokevirtual 62, 3) := by decide +kernel
theorem dX8_setDouble_15 : decode cX8_setDouble 15 = .ok (.aload_n 0, 1) := by decide +kernel
theorem dX8_setDouble_16 : decode cX8_setDouble 16 = .ok (.getfield 9, 3) := by decide +kernel
theorem dX8_setDouble_19 : decode cX8_setDouble 19 = .ok (.lload_n 1, 1) := by decide +kernel
theorem dX8_setDouble_20 : decode cX8_setDouble 20 = .ok (.invokevirtual 91, 3) := by decide +kernel
theorem dX8_setDouble_23 : decode cX8_setDouble 23 = .ok (.return_, 1) := by decide +kernel
theorem dX9_init_0 : decode cX9_init 0 = .ok (.aload_n 0, 1) := by decide +kernel
theorem dX9_init_1 : decode cX9_init 1 = .ok (.invokespecial 3, 3) := by decide +kernel
theorem dX9_init_4 : decode cX9_init 4 = .ok (.aload_n 0, 1) := by decide +kernel
theorem dX9_init_5 : decode cX9_init 5 = .ok (.aload_n 1, 1) := by decide +kernel
theorem dX9_init_6 : decode cX9_init 6 = .ok (.putfield 9, 3) := by decide +kernel
theorem dX9_init_9 : decode cX9_init 9 = .ok (.aload_n 0, 1) := by decide +kernel
theorem dX9_init_10 : decode cX9_init 10 = .ok (.aload_n 2, 1) := by decide +kernel
theorem dX9_init_11 : decode cX9_init 11 = .ok (.putfield 15, 3) := by decide +kernel
theorem dX9_init_14 : decode cX9_init 14 = .ok (.aload_n 0, 1) := by decide +kernel
theorem dX9_init_15 : decode cX9_init 15 = .ok (.aload_n 1, 1) := by decide +kernel
theorem dX9_init_16 : decode cX9_init 16 = .ok (.getfield 19, 3) := by decide +kernel
theorem dX9_init_19 : decode cX9_init 19 = .ok (.putfield 25, 3) := by decide +kernel
theorem dX9_init_22 : decode cX9_init 22 = .ok (.return_, 1) := by decide +kernel
theorem dX9_testByte_0 : decode cX9_testByte 0 = .ok (.aload_n 0, 1) := by decide +kernel
theorem dX9_testByte_1 : decode cX9_testByte 1 = .ok (.getfield 9, 3) := by decide +kernel
theorem dX9_testByte_4 : decode cX9_testByte 4 = .ok (.aload_n 0, 1) := by decide +kernel
theorem dX9_testByte_5 : decode cX9_testByte 5 = .ok (.getfield 15, 3) := by decide +kernel
theorem dX9_testByte_8 : decode cX9_testByte 8 = .ok (.getfield 26, 3) := by decide +kernel
theorem dX9_testByte_11 : decode cX9_testByte 11 = .ok (.iconst 1, 1) := by decide +kernel
theorem dX9_testByte_12 : decode cX9_testByte 12 = .ok (.iconst 0, 1) := by decide +kernel
theorem dX9_testByte_13 : decode cX9_testByte 13 = .ok (.invokevirtual 32, 3) := by decide +kernel
theorem dX9_testByte_16 : decode cX9_testByte 16 = .ok (.aload_n 0, 1) := by decide +kernel
theorem dX9_testByte_17 : decode cX9_testByte 17 = .ok (.getfield 9, 3) := by decide +kernel
theorem dX9_testByte_20 : decode cX9_testByte 20 = .ok (.invokevirtual 36, 3) := by decide +kernel
theorem dX9_testByte_23 : decode cX9_testByte 23 = .ok (.ifCond .ne 4, 3) := by decide +kernel
theorem dX9_testByte_26 : decode cX9_testByte 26 = .ok (.return_, 1) := by decide +kernel
theorem dX9_testByte_27 : decode cX9_testByte 27 = .ok (.aload_n 0, 1) := by decide +kernel
theorem dX9_testByte_28 : decode cX9_testByte 28 = .ok (.getfield 25, 3) := by decide +kernel
theorem dX9_testByte_31 : decode cX9_testByte 31 = .ok (.aload_n 0, 1) := by decide +kernel
theorem dX9_testByte_32 : decode cX9_testByte 32 = .ok (.getfield 15, 3) := by decide +kernel
theorem dX9_testByte_35 : decode cX9_testByte 35 = .ok (.getfield 26, 3) := by decide +kernel
theorem dX9_testByte_38 : decode cX9_testByte 38 = .ok (.invokevirtual 40, 3) := by decide +kernel
theorem dX9_testByte_41 : decode cX9_testByte 41 = .ok (.istore_n 1, 1) := by decide +kernel
theorem dX9_testByte_42 : decode cX9_testByte 42 = .ok (.aload_n 0, 1) := by decide +kernel
theorem dX9_testByte_43 : decode cX9_testByte 43 = .ok (.getfield 15, 3) := by decide +kernel
theorem dX9_testByte_46 : decode cX9_testByte 46 = .ok (.getfield 46, 3) := by decide +kernel
theorem dX9_testByte_49 : decode cX9_testByte 49 = .ok (.sipush 149, 3) := by decide +kernel
theorem dX9_testByte_52 : decode cX9_testByte 52 = .ok (.if_icmp .ne 23, 3) := by decide +kernel
theorem dX9_testByte_55 : decode cX9_testByte 55 = .ok (.aload_n 0, 1) := by decide +kernel
theorem dX9_testByte_56 : decode cX9_testByte 56 = .ok (.getfield 9, 3) := by decide +kernel
theorem dX9_testByte_59 : decode cX9_testByte 59 = .ok (.iload_n 1, 1) := by decide +kernel
theorem dX9_testByte_60 : decode cX9_testByte 60 = .ok (.i2l, 1) := by decide +kernel
theorem dX9_testByte_61 : decode cX9_testByte 61 = .ok (.aload_n 0, 1) := by decide +kernel
theorem dX9_testByte_62 : decode cX9_testByte 62 = .ok (.getfield 15, 3) := by decide +kernel
theorem dX9_testByte_65 : decode cX9_testByte 65 = .ok (.getfield 49, 3) := by decide +kernel
theorem dX9_testByte_68 : decode cX9_testByte 68 = .ok (.i2l, 1) := by decide +kernel
theorem dX9_testByte_69 : decode cX9_testByte 69 = .ok (.invokevirtual 52, 3) := by decide +kernel
theorem dX9_testByte_72 : decode cX9_testByte 72 = .ok (.goto 47, 3) := by decide +kernel
theorem dX9_testByte_75 : decode cX9_testByte 75 = .ok (.iload_n 1, 1) := by decide +kernel
theorem dX9_testByte_76 : decode cX9_testByte 76 = .ok (.aload_n 0, 1) := by decide +kernel
theorem dX9_testByte_77 : decode cX9_testByte 77 = .ok (.getfield 15, 3) := by decide +kernel
theorem dX9_testByte_80 : decode cX9_testByte 80 = .ok (.getfield 49, 3) := by decide +kernel
theorem dX9_testByte_83 : decode cX9_testByte 83 = .ok (.iand, 1) := by decide +kernel
theorem dX9_testByte_84 : decode cX9_testByte 84 = .ok (.istore_n 2, 1) := by decide +kernel
theorem dX9_testByte_85 : decode cX9_testByte 85 = .ok (.aload_n 0, 1) := by decide +kernel
theorem dX9_testByte_86 : decode cX9_testByte 86 = .ok (.getfield 9, 3) := by decide +kernel
theorem dX9_testByte_89 : decode cX9_testByte 89 = .ok (.getfield 56, 3) := by decide +kernel
theorem dX9_testByte_92 : decode cX9_testByte 92 = .ok (.iload_n 2, 1) := by decide +kernel
theorem dX9_testByte_93 : decode cX9_testByte 93 = .ok (.ifCond .ne 7, 3) := by decide +kernel
theorem dX9_testByte_96 : decode cX9_testByte 96 = .ok (.iconst 0, 1) := by decide +kernel
theorem dX9_testByte_97 : decode cX9_testByte 97 = .ok (.goto 19, 3) := by decide +kernel
theorem dX9_testByte_100 : decode cX9_testByte 100 = .ok (.iload_n 2, 1) := by decide +kernel
theorem dX9_testByte_101 : decode cX9_testByte 101 = .ok (.aload_n 0, 1) := by decide +kernel
theorem dX9_testByte_102 : decode cX9_testByte 102 = .ok (.getfield 15, 3) := by decide +kernel
theorem dX9_testByte_105 : decode cX9_testByte 105 = .ok (.getfield 49, 3) := by decide +kernel
theorem dX9_testByte_108 : decode cX9_testByte 108 = .ok (.if_icmp .ne 7, 3) := by decide +kernel
theorem dX9_testByte_111 : decode cX9_testByte 111 = .ok (.iconst 3, 1) := by decide +kernel
theorem dX9_testByte_112 : decode cX9_testByte 112 = .ok (.goto 4, 3) := by decide +kernel
theorem dX9_testByte_115 : decode cX9_testByte 115 = .ok (.iconst 1, 1) := by decide +kernel
theorem dX9_testByte_116 : decode cX9_testByte 116 = .ok (.invokevirtual 60, 3) := by decide +kernel
theorem dX9_testByte_119 : decode cX9_testByte 119 = .ok (.return_, 1) := by decide +kernel
theorem dX9_changeByte_0 : decode cX9_changeByte 0 = .ok (.aload_n 0, 1) := by decide +kernel
theorem dX9_changeByte_1 : decode cX9_changeByte 1 = .ok (.getfield 9, 3) := by decide +kernel
theorem dX9_changeByte_4 : decode cX9_changeByte 4 = .ok (.aload_n 0, 1) := by decide +kernel
theorem dX9_changeByte_5 : decode cX9_changeByte 5 = .ok (.getfield 15, 3) := by decide +kernel
theorem dX9_changeByte_8 : decode cX9_changeByte 8 = .ok (.getfield 26, 3) := by decide +kernel
theorem dX9_changeByte_11 : decode cX9_changeByte 11 = .ok (.iconst 1, 1) := by decide +kernel
theorem dX9_changeByte_12 : decode cX9_changeByte 12 = .ok (.iconst 1, 1) := by decide +kernel
theorem dX9_changeByte_13 : decode cX9_changeByte 13 = .ok (.invokevirtual 32, 3) := by decide +kernel
theorem dX9_changeByte_16 : decode cX9_changeByte 16 = .ok (.aload_n 0, 1) := by decide +kernel
theorem dX9_changeByte_17 : decode cX9_changeByte 17 = .ok (.getfield 9, 3) := by decide +kernel
theorem dX9_changeByte_20 : decode cX9_changeByte 20 = .ok (.invokevirtual 36, 3) := by decide +kernel
theorem dX9_changeByte_23 : decode cX9_changeByte 23 = .ok (.ifCond .ne 4, 3) := by decide +kernel
theorem dX9_changeByte_26 : decode cX9_changeByte 26 = .ok (.return_, 1) := by decide +kernel
theorem dX9_changeByte_27 : decode cX9_changeByte 27 = .ok (.aload_n 0, 1) := by decide +kernel
theorem dX9_changeByte_28 : decode cX9_changeByte 28 = .ok (.getfield 25, 3) := by decide +kernel
theorem dX9_changeByte_31 : decode cX9_changeByte 31 = .ok (.aload_n 0, 1) := by decide +kernel
theorem dX9_changeByte_32 : decode cX9_changeByte 32 = .ok (.getfield 15, 3) := by decide +kernel
theorem dX9_changeByte_35 : decode cX9_changeByte 35 = .ok (.getfield 26, 3) := by decide +kernel
theorem dX9_changeByte_38 : decode cX9_changeByte 38 = .ok (.invokevirtual 40, 3) := by decide +kernel
theorem dX9_changeByte_41 : decode cX9_changeByte 41 = .ok (.istore_n 1, 1) := by decide +kernel
theorem dX9_changeByte_42 : decode cX9_changeByte 42 = .ok (.aload_n 0, 1) := by decide +kernel
theorem dX9_changeByte_43 : decode cX9_changeByte 43 = .ok (.getfield 15, 3) := by decide +kernel
theorem dX9_changeByte_46 : decode cX9_changeByte 46 = .ok (.getfield 46, 3) := by decide +kernel
theorem dX9_changeByte_49 : decode cX9_changeByte 49 = .ok (.tableswitch 99 146 150 #[35, 59, 67, 99, 83], 35) := by decide +kernel
theorem dX9_changeByte_84 : decode cX9_changeByte 84 = .ok (.aload_n 0, 1) := by decide +kernel
theorem dX9_changeByte_85 : decode cX9_changeByte 85 = .ok (.getfield 25, 3) := by decide +kernel
theorem dX9_changeByte_88 : decode cX9_changeByte 88 = .ok (.aload_n 0, 1) := by decide +kernel
theorem dX9_changeByte_89 : decode cX9_changeByte 89 = .ok (.getfield 15, 3) := by decide +kernel
theorem dX9_changeByte_92 : decode cX9_changeByte 92 = .ok (.getfield 26, 3) := by decide +kernel
theorem dX9_changeByte_95 : decode cX9_changeByte 95 = .ok (.aload_n 0, 1) := by decide +kernel
theorem dX9_changeByte_96 : decode cX9_changeByte 96 = .ok (.getfield 15, 3) := by decide +kernel
theorem dX9_changeByte_99 : decode cX9_changeByte 99 = .ok (.getfield 49, 3) := by decide +kernel
theorem dX9_changeByte_102 : decode cX9_changeByte 102 = .ok (.invokevirtual 66, 3) := by decide +kernel
theorem dX9_changeByte_105 : decode cX9_changeByte 105 = .ok (.goto 56, 3) := by decide +kernel
theorem dX9_changeByte_108 : decode cX9_changeByte 108 = .ok (.aload_n 0, 1) := by decide +kernel
theorem dX9_changeByte_109 : decode cX9_changeByte 109 = .ok (.iload_n 1, 1) := by decide +kernel
theorem dX9_changeByte_110 : decode cX9_changeByte 110 = .ok (.invokevirtual 70, 3) := by decide +kernel
theorem dX9_changeByte_113 : decode cX9_changeByte 113 = .ok (.goto 48, 3) := by decide +kernel
theorem dX9_changeByte_116 : decode cX9_changeByte 116 = .ok (.aload_n 0, 1) := by decide +kernel
theorem dX9_changeByte_117 : decode cX9_changeByte 117 = .ok (.iload_n 1, 1) := by decide +kernel
theorem dX9_changeByte_118 : decode cX9_changeByte 118 = .ok (.aload_n 0, 1) := by decide +kernel
theorem dX9_changeByte_119 : decode cX9_changeByte 119 = .ok (.getfield 15, 3) := by decide +kernel
theorem dX9_changeByte_122 : decode cX9_changeByte 122 = .ok (.getfield 49, 3) := by decide +kernel
theorem dX9_changeByte_125 : decode cX9_changeByte 125 = .ok (.iand, 1) := by decide +kernel
theorem dX9_changeByte_126 : decode cX9_changeByte 126 = .ok (.invokevirtual 73, 3) := by decide +kernel
theorem dX9_changeByte_129 : decode cX9_changeByte 129 = .ok (.goto 32, 3) := by decide +kernel
theorem dX9_changeByte_132 : decode cX9_changeByte 132 = .ok (.aload_n 0, 1) := by decide +kernel
theorem dX9_changeByte_133 : decode cX9_changeByte 133 = .ok (.iload_n 1, 1) := by decide +kernel
theorem dX9_changeByte_134 : decode cX9_changeByte 134 = .ok (.aload_n 0, 1) := by decide +kernel
theorem dX9_changeByte_135 : decode cX9_changeByte 135 = .ok (.getfield 15, 3) := by decide +kernel
theorem dX9_changeByte_138 : decode cX9_changeByte 138 = .ok (.getfield 49, 3) := by decide +kernel
theorem dX9_changeByte_141 : decode cX9_changeByte 141 = .ok (.ior, 1) := by decide +kernel
theorem dX9_changeByte_142 : decode cX9_changeByte 142 = .ok (.invokevirtual 73, 3) := by decide +kernel
theorem dX9_changeByte_145 : decode cX9_changeByte 145 = .ok (.goto 16, 3) := by decide +kernel
theorem dX9_changeByte_148 : decode cX9_changeByte 148 = .ok (.aload_n 0, 1) := by decide +kernel
theorem dX9_changeByte_149 : decode cX9_changeByte 149 = .ok (.iload_n 1, 1) := by decide +kernel
theorem dX9_changeByte_150 : decode cX9_changeByte 150 = .ok (.aload_n 0, 1) := by decide +kernel
theorem dX9_changeByte_151 : decode cX9_changeByte 151 = .ok (.getfield 15, 3) := by decide +kernel
theorem dX9_changeByte_154 : decode cX9_changeByte 154 = .ok (.getfield 49, 3) := by decide +kernel
theorem dX9_changeByte_157 : decode cX9_changeByte 157 = .ok (.ixor, 1) := by decide +kernel
theorem dX9_changeByte_158 : decode cX9_changeByte 158 = .ok (.invokevirtual 73, 3) := by decide +kernel
theorem dX9_changeByte_161 : decode cX9_changeByte 161 = .ok (.return_, 1) := by decide +kernel
theorem dX9_testAndSet_0 : decode cX9_testAndSet 0 = .ok (.aload_n 0, 1) := by decide +kernel
theorem dX9_testAndSet_1 : decode cX9_testAndSet 1 = .ok (.getfield 9, 3) := by decide +kernel
theorem dX9_testAndSet_4 : decode cX9_testAndSet 4 = .ok (.getfield 56, 3) := by decide +kernel
theorem dX9_testAndSet_7 : decode cX9_testAndSet 7 = .ok (.iload_n 1, 1) := by decide +kernel
theorem dX9_testAndSet_8 : decode cX9_testAndSet 8 = .ok (.bipush 7, 2) := by decide +kernel
theorem dX9_testAndSet_10 : decode cX9_testAndSet 10 = .ok (.ishr, 1) := by decide +kernel
theorem dX9_testAndSet_11 : decode cX9_testAndSet 11 = .ok (.invokevirtual 60, 3) := by decide +kernel
theorem dX9_testAndSet_14 : decode cX9_testAndSet 14 = .ok (.aload_n 0, 1) := by decide +kernel
theorem dX9_testAndSet_15 : decode cX9_testAndSet 15 = .ok (.getfield 25, 3) := by decide +kernel
theorem dX9_testAndSet_18 : decode cX9_testAndSet 18 = .ok (.aload_n 0, 1) := by decide +kernel
theorem dX9_testAndSet_19 : decode cX9_testAndSet 19 = .ok (.getfield 15, 3) := by decide +kernel
theorem dX9_testAndSet_22 : decode cX9_testAndSet 22 = .ok (.getfield 26, 3) := by decide +kernel
theorem dX9_testAndSet_25 : decode cX9_testAndSet 25 = .ok (.sipush 255, 3) := by decide +kernel
theorem dX9_testAndSet_28 : decode cX9_testAndSet 28 = .ok (.invokevirtual 66, 3) := by decide +kernel
theorem dX9_testAndSet_31 : decode cX9_testAndSet 31 = .ok (.return_, 1) := by decide +kernel
theorem dX9_setByBits_0 : decode cX9_setByBits 0 = .ok (.aload_n 0, 1) := by decide +kernel
theorem dX9_setByBits_1 : decode cX9_setByBits 1 = .ok (.getfield 25, 3) := by decide +kernel
theorem dX9_setByBits_4 : decode cX9_setByBits 4 = .ok (.aload_n 0, 1) := by decide +kernel
theorem dX9_setByBits_5 : decode cX9_setByBits 5 = .ok (.getfield 15, 3) := by decide +kernel
theorem dX9_setByBits_8 : decode cX9_setByBits 8 = .ok (.getfield 26, 3) := by decide +kernel
theorem dX9_setByBits_11 : decode cX9_setByBits 11 = .ok (.iload_n 1, 1) := by decide +kernel
theorem dX9_setByBits_12 : decode cX9_setByBits 12 = .ok (.invokevirtual 66, 3) := by decide +kernel
theorem dX9_setByBits_15 : decode cX9_setByBits 15 = .ok (.aload_n 0, 1) := by decide +kernel
theorem dX9_setByBits_16 : decode cX9_setByBits 16 = .ok (.getfield 9, 3) := by decide +kernel
theorem dX9_setByBits_19 : decode cX9_setByBits 19 = .ok (.iload_n 1, 1) := by decide +kernel
theorem dX9_setByBits_20 : decode cX9_setByBits 20 = .ok (.invokevirtual 76, 3) := by decide +kernel
theorem dX9_setByBits_23 : decode cX9_setByBits 23 = .ok (.return_, 1) := by decide +kernel
theorem dX9_compare_0 : decode cX9_compare 0 = .ok (.aload_n 0, 1) := by decide +kernel
theorem dX9_compare_1 : decode cX9_compare 1 = .ok (.iconst 0, 1) := by decide +kernel
theorem dX9_compare_2 : decode cX9_compare 2 = .ok (.invokevirtual 79, 3) := by decide +kernel
theorem dX9_compare_5 : decode cX9_compare 5 = .ok (.istore_n 1, 1) := by decide +kernel
theorem dX9_compare_6 : decode cX9_compare 6 = .ok (.iconst 0, 1) := by decide +kernel
theorem dX9_compare_7 : decode cX9_compare 7 = .ok (.istore_n 2, 1) := by decide +kernel
theorem dX9_compare_8 : decode cX9_compare 8 = .ok (.iconst 0, 1) := by decide +kernel
theorem dX9_compare_9 : decode cX9_compare 9 = .ok (.istore_n 3, 1) := by decide +kernel
theorem dX9_compare_10 : decode cX9_compare 10 = .ok (.iconst 0, 1) := by decide +kernel
theorem dX9_compare_11 : decode cX9_compare 11 = .ok (.istore 4, 2) := by decide +kernel
theorem dX9_compare_13 : decode cX9_compare 13 = .ok (.iload 4, 2) := by decide +kernel
theorem dX9_compare_15 : decode cX9_compare 15 = .ok (.iload_n 1, 1) := by decide +kernel
theorem dX9_compare_16 : decode cX9_compare 16 = .ok (.if_icmp .ge 60, 3) := by decide +kernel
theorem dX9_compare_19 : decode cX9_compare 19 = .ok (.iload_n 2, 1) := by decide +kernel
theorem dX9_compare_20 : decode cX9_compare 20 = .ok (.iload_n 3, 1) := by decide +kernel
theorem dX9_compare_21 : decode cX9_compare 21 = .ok (.if_icmp .ne 55, 3) := by decide +kernel
theorem dX9_compare_24 : decode cX9_compare 24 = .ok (.aload_n 0, 1) := by decide +kernel
theorem dX9_compare_25 : decode cX9_compare 25 = .ok (.getfield 9, 3) := by decide +kernel
theorem dX9_compare_28 : decode cX9_compare 28 = .ok (.invokevirtual 36, 3) := by decide +kernel
theorem dX9_compare_31 : decode cX9_compare 31 = .ok (.ifCond .eq 45, 3) := by decide +kernel
theorem dX9_compare_34 : decode cX9_compare 34 = .ok (.aload_n 0, 1) := by decide +kernel
theorem dX9_compare_35 : decode cX9_compare 35 = .ok (.getfield 25, 3) := by decide +kernel
theorem dX9_compare_38 : decode cX9_compare 38 = .ok (.aload_n 0, 1) := by decide +kernel
theorem dX9_compare_39 : decode cX9_compare 39 = .ok (.getfield 15, 3) := by decide +kernel
theorem dX9_compare_42 : decode cX9_compare 42 = .ok (.getfield 26, 3) := by decide +kernel
theorem dX9_compare_45 : decode cX9_compare 45 = .ok (.iload 4, 2) := by decide +kernel
theorem dX9_compare_47 : decode cX9_compare 47 = .ok (.iadd, 1) := by decide +kernel
theorem dX9_compare_48 : decode cX9_compare 48 = .ok (.invokevirtual 40, 3) := by decide +kernel
theorem dX9_compare_51 : decode cX9_compare 51 = .ok (.istore_n 2, 1) := by decide +kernel
theorem dX9_compare_52 : decode cX9_compare 52 = .ok (.aload_n 0, 1) := by decide +kernel
theorem dX9_compare_53 : decode cX9_compare 53 = .ok (.getfield 25, 3) := by decide +kernel
theorem dX9_compare_56 : decode cX9_compare 56 = .ok (.aload_n 0, 1) := by decide +kernel
theorem dX9_compare_57 : decode cX9_compare 57 = .ok (.getfield 15, 3) := by decide +kernel
theorem dX9_compare_60 : decode cX9_compare 60 = .ok (.getfield 83, 3) := by decide +kernel
theorem dX9_compare_63 : decode cX9_compare 63 = .ok (.iload 4, 2) := by decide +kernel
theorem dX9_compare_65 : decode cX9_compare 65 = .ok (.iadd, 1) := by decide +kernel
theorem dX9_compare_66 : decode cX9_compare 66 = .ok (.invokevirtual 40, 3) := by decide +kernel
theorem dX9_compare_69 : decode cX9_compare 69 = .ok (.istore_n 3, 1) := by decide +kernel
theorem dX9_compare_70 : decode cX9_compare 70 = .ok (.iinc 4 1, 3) := by decide +kernel
theorem dX9_compare_73 : decode cX9_compare 73 = .ok (.goto (-60), 3) := by decide +kernel
theorem dX9_compare_76 : decode cX9_compare 76 = .ok (.aload_n 0, 1) := by decide +kernel
theorem dX9_compare_77 : decode cX9_compare 77 = .ok (.getfield 9, 3) := by decide +kernel
theorem dX9_compare_80 : decode cX9_compare 80 = .ok (.invokevirtual 36, 3) := by decide +kernel
theorem dX9_compare_83 : decode cX9_compare 83 = .ok (.ifCond .eq 14, 3) := by decide +kernel
theorem dX9_compare_86 : decode cX9_compare 86 = .ok (.aload_n 0, 1) := by decide +kernel
theorem dX9_compare_87 : decode cX9_compare 87 = .ok (.getfield 9, 3) := by decide +kernel
theorem dX9_compare_90 : decode cX9_compare 90 = .ok (.iload_n 2, 1) := by decide +kernel
theorem dX9_compare_91 : decode cX9_compare 91 = .ok (.i2l, 1) := by decide +kernel
theorem dX9_compare_92 : decode cX9_compare 92 = .ok (.iload_n 3, 1) := by decide +kernel
theorem dX9_compare_93 : decode cX9_compare 93 = .ok (.i2l, 1) := by decide +kernel
theorem dX9_compare_94 : decode cX9_compare 94 = .ok (.invokevirtual 52, 3) := by decide +kernel
theorem dX9_compare_97 : decode cX9_compare 97 = .ok (.return_, 1) := by decide +kernel
theorem dX9_change_0 : decode cX9_change 0 = .ok (.aload_n 0, 1) := by decide +kernel
theorem dX9_change_1 : decode cX9_change 1 = .ok (.iconst 1, 1) := by decide +kernel
theorem dX9_change_2 : decode cX9_change 2 = .ok (.invokevirtual 79, 3) := by decide +kernel
theorem dX9_change_5 : decode cX9_change 5 = .ok (.istore_n 1, 1) := by decide +kernel
theorem dX9_change_6 : decode cX9_change 6 = .ok (.iconst 0, 1) := by decide +kernel
theorem dX9_change_7 : decode cX9_change 7 = .ok (.istore_n 2, 1) := by decide +kernel
theorem dX9_change_8 : decode cX9_change 8 = .ok (.iconst 0, 1) := by decide +kernel
theorem dX9_change_9 : decode cX9_change 9 = .ok (.istore_n 3, 1) := by decide +kernel
theorem dX9_change_10 : decode cX9_change 10 = .ok (.iload_n 3, 1) := by decide +kernel
theorem dX9_change_11 : decode cX9_change 11 = .ok (.iload_n 1, 1) := by decide +kernel
theorem dX9_change_12 : decode cX9_change 12 = .ok (.if_icmp .ge 80, 3) := by decide +kernel
theorem dX9_change_15 : decode cX9_change 15 = .ok (.aload_n 0, 1) := by decide +kernel
theorem dX9_change_16 : decode cX9_change 16 = .ok (.getfield 9, 3) := by decide +kernel
theorem dX9_change_19 : decode cX9_change 19 = .ok (.invokevirtual 36, 3) := by decide +kernel
theorem dX9_change_22 : decode cX9_change 22 = .ok (.ifCond .eq 70, 3) := by decide +kernel
theorem dX9_change_25 : decode cX9_change 25 = .ok (.aload_n 0, 1) := by decide +kernel
theorem dX9_change_26 : decode cX9_change 26 = .ok (.aload_n 0, 1) := by decide +kernel
theorem dX9_change_27 : decode cX9_change 27 = .ok (.getfield 25, 3) := by decide +kernel
theorem dX9_change_30 : decode cX9_change 30 = .ok (.aload_n 0, 1) := by decide +kernel
theorem dX9_change_31 : decode cX9_change 31 = .ok (.getfield 15, 3) := by decide +kernel
theorem dX9_change_34 : decode cX9_change 34 = .ok (.getfield 26, 3) := by decide +kernel
theorem dX9_change_37 : decode cX9_change 37 = .ok (.iload_n 3, 1) := by decide +kernel
theorem dX9_change_38 : decode cX9_change 38 = .ok (.iadd, 1) := by decide +kernel
theorem dX9_change_39 : decode cX9_change 39 = .ok (.invokevirtual 40, 3) := by decide +kernel
theorem dX9_change_42 : decode cX9_change 42 = .ok (.aload_n 0, 1) := by decide +kernel
theorem dX9_change_43 : decode cX9_change 43 = .ok (.getfield 25, 3) := by decide +kernel
theorem dX9_change_46 : decode cX9_change 46 = .ok (.aload_n 0, 1) := by decide +kernel
theorem dX9_change_47 : decode cX9_change 47 = .ok (.getfield 15, 3) := by decide +kernel
theorem dX9_change_50 : decode cX9_change 50 = .ok (.getfield 83, 3) := by decide +kernel
theorem dX9_change_53 : decode cX9_change 53 = .ok (.iload_n 3, 1) := by decide +kernel
theorem dX9_change_54 : decode cX9_change 54 = .ok (.iadd, 1) := by decide +kernel
theorem dX9_change_55 : decode cX9_change 55 = .ok (.invokevirtual 40, 3) := by decide +kernel
theorem dX9_change_58 : decode cX9_change 58 = .ok (.invokevirtual 86, 3) := by decide +kernel
theorem dX9_change_61 : decode cX9_change 61 = .ok (.istore 4, 2) := by decide +kernel
theorem dX9_change_63 : decode cX9_change 63 = .ok (.aload_n 0, 1) := by decide +kernel
theorem dX9_change_64 : decode cX9_change 64 = .ok (.getfield 25, 3) := by decide +kernel
theorem dX9_change_67 : decode cX9_change 67 = .ok (.aload_n 0, 1) := by decide +kernel
theorem dX9_change_68 : decode cX9_change 68 = .ok (.getfield 15, 3) := by decide +kernel
theorem dX9_change_71 : decode cX9_change 71 = .ok (.getfield 26, 3) := by decide +kernel
theorem dX9_change_74 : decode cX9_change 74 = .ok (.iload_n 3, 1) := by decide +kernel
theorem dX9_change_75 : decode cX9_change 75 = .ok (.iadd, 1) := by decide +kernel
theorem dX9_change_76 : decode cX9_change 76 = .ok (.iload 4, 2) := by decide +kernel
theorem dX9_change_78 : decode cX9_change 78 = .ok (.invokevirtual 66, 3) := by decide +kernel
theorem dX9_change_81 : decode cX9_change 81 = .ok (.iload_n 2, 1) := by decide +kernel
theorem dX9_change_82 : decode cX9_change 82 = .ok (.iload 4, 2) := by decide +kernel
theorem dX9_change_84 : decode cX9_change 84 = .ok (.ior, 1) := by decide +kernel
theorem dX9_change_85 : decode cX9_change 85 = .ok (.istore_n 2, 1) := by decide +kernel
theorem dX9_change_86 : decode cX9_change 86 = .ok (.iinc 3 1, 3) := by decide +kernel
theorem dX9_change_89 : decode cX9_change 89 = .ok (.goto (-79), 3) := by decide +kernel
theorem dX9_change_92 : decode cX9_change 92 = .ok (.aload_n 0, 1) := by decide +kernel
theorem dX9_change_93 : decode cX9_change 93 = .ok (.getfield 9, 3) := by decide +kernel
theorem dX9_change_96 : decode cX9_change 96 = .ok (.invokevirtual 36, 3) := by decide +kernel
theorem dX9_change_99 : decode cX9_change 99 = .ok (.ifCond .eq 24, 3) := by decide +kernel
theorem dX9_change_102 : decode cX9_change 102 = .ok (.aload_n 0, 1) := by decide +kernel
theorem dX9_change_103 : decode cX9_change 103 = .ok (.getfield 15, 3) := by decide +kernel
theorem dX9_change_106 : decode cX9_change 106 = .ok (.getfield 46, 3) := by decide +kernel
theorem dX9_change_109 : decode cX9_change 109 = .ok (.sipush 212, 3) := by decide +kernel
theorem dX9_change_112 : decode cX9_change 112 = .ok (.if_icmp .lt 11, 3) := by decide +kernel
theorem dX9_change_115 : decode cX9_change 115 = .ok (.aload_n 0, 1) := by decide +kernel
theorem dX9_change_116 : decode cX9_change 116 = .ok (.getfield 9, 3) := by decide +kernel
theorem dX9_change_119 : decode cX9_change 119 = .ok (.iload_n 2, 1) := by decide +kernel
theorem dX9_change_120 : decode cX9_change 120 = .ok (.invokevirtual 76, 3) := by decide +kernel
theorem dX9_change_123 : decode cX9_change 123 = .ok (.return_, 1) := by decide +kernel
theorem dX9_demandBoth_0 : decode cX9_demandBoth 0 = .ok (.aload_n 0, 1) := by decide +kernel
theorem dX9_demandBoth_1 : decode cX9_demandBoth 1 = .ok (.getfield 15, 3) := by decide +kernel
theorem dX9_demandBoth_4 : decode cX9_demandBoth 4 = .ok (.getfield 49, 3) := by decide +kernel
theorem dX9_demandBoth_7 : decode cX9_demandBoth 7 = .ok (.iconst 1, 1) := by decide +kernel
theorem dX9_demandBoth_8 : decode cX9_demandBoth 8 = .ok (.iadd, 1) := by decide +kernel
theorem dX9_demandBoth_9 : decode cX9_demandBoth 9 = .ok (.istore_n 2, 1) := by decide +kernel
theorem dX9_demandBoth_10 : decode cX9_demandBoth 10 = .ok (.aload_n 0, 1) := by decide +kernel
theorem dX9_demandBoth_11 : decode cX9_demandBoth 11 = .ok (.getfield 9, 3) := by decide +kernel
theorem dX9_demandBoth_14 : decode cX9_demandBoth 14 = .ok (.aload_n 0, 1) := by decide +kernel
theorem dX9_demandBoth_15 : decode cX9_demandBoth 15 = .ok (.getfield 15, 3) := by decide +kernel
theorem dX9_demandBoth_18 : decode cX9_demandBoth 18 = .ok (.getfield 26, 3) := by decide +kernel
theorem dX9_demandBoth_21 : decode cX9_demandBoth 21 = .ok (.iload_n 2, 1) := by decide +kernel
theorem dX9_demandBoth_22 : decode cX9_demandBoth 22 = .ok (.iload_n 1, 1) := by decide +kernel
theorem dX9_demandBoth_23 : decode cX9_demandBoth 23 = .ok (.invokevirtual 32, 3) := by decide +kernel
theorem dX9_demandBoth_26 : decode cX9_demandBoth 26 = .ok (.aload_n 0, 1) := by decide +kernel
theorem dX9_demandBoth_27 : decode cX9_demandBoth 27 = .ok (.getfield 9, 3) := by decide +kernel
theorem dX9_demandBoth_30 : decode cX9_demandBoth 30 = .ok (.aload_n 0, 1) := by decide +kernel
theorem dX9_demandBoth_31 : decode cX9_demandBoth 31 = .ok (.getfield 15, 3) := by decide +kernel
theorem dX9_demandBoth_34 : decode cX9_demandBoth 34 = .ok (.getfield 83, 3) := by decide +kernel
theorem dX9_demandBoth_37 : decode cX9_demandBoth 37 = .ok (.iload_n 2, 1) := by decide +kernel
theorem dX9_demandBoth_38 : decode cX9_demandBoth 38 = .ok (.iconst 0, 1) := by decide +kernel
theorem dX9_demandBoth_39 : decode cX9_demandBoth 39 = .ok (.invokevirtual 32, 3) := by decide +kernel
theorem dX9_demandBoth_42 : decode cX9_demandBoth 42 = .ok (.iload_n 2, 1) := by decide +kernel
theorem dX9_demandBoth_43 : decode cX9_demandBoth 43 = .ok (.ireturn, 1) := by decide +kernel
theorem dX9_joined_0 : decode cX9_joined 0 = .ok (.aload_n 0, 1) := by decide +kernel
theorem dX9_joined_1 : decode cX9_joined 1 = .ok (.getfield 15, 3) := by decide +kernel
theorem dX9_joined_4 : decode cX9_joined 4 = .ok (.getfield 46, 3) := by decide +kernel
theorem dX9_joined_7 : decode cX9_joined 7 = .ok (.tableswitch 69 209 214 #[37, 48, 50, 61, 69, 65], 37) := by decide +kernel
theorem dX9_joined_44 : decode cX9_joined 44 = .ok (.iload_n 1, 1) := by decide +kernel
theorem dX9_joined_45 : decode cX9_joined 45 = .ok (.sipush 240, 3) := by decide +kernel
theorem dX9_joined_48 : decode cX9_joined 48 = .ok (.iand, 1) := by decide +kernel
theorem dX9_joined_49 : decode cX9_joined 49 = .ok (.iload_n 2, 1) := by decide +kernel
theorem dX9_joined_50 : decode cX9_joined 50 = .ok (.bipush 15, 2) := by decide +kernel
theorem dX9_joined_52 : decode cX9_joined 52 = .ok (.iand, 1) := by decide +kernel
theorem dX9_joined_53 : decode cX9_joined 53 = .ok (.ior, 1) := by decide +kernel
theorem dX9_joined_54 : decode cX9_joined 54 = .ok (.ireturn, 1) := by decide +kernel
theorem dX9_joined_55 : decode cX9_joined 55 = .ok (.iload_n 2, 1) := by decide +kernel
theorem dX9_joined_56 : decode cX9_joined 56 = .ok (.ireturn, 1) := by decide +kernel
theorem dX9_joined_57 : decode cX9_joined 57 = .ok (.iload_n 1, 1) := by decide +kernel
theorem dX9_joined_58 : decode cX9_joined 58 = .ok (.bipush 15, 2) := by decide +kernel
theorem dX9_joined_60 : decode cX9_joined 60 = .ok (.iand, 1) := by decide +kernel
theorem dX9_joined_61 : decode cX9_joined 61 = .ok (.iload_n 2, 1) := by decide +kernel
theorem dX9_joined_62 : decode cX9_joined 62 = .ok (.sipush 240, 3) := by decide +kernel
theorem dX9_joined_65 : decode cX9_joined 65 = .ok (.iand, 1) := by decide +kernel
theorem dX9_joined_66 : decode cX9_joined 66 = .ok (.ior, 1) := by decide +kernel
theorem dX9_joined_67 : decode cX9_joined 67 = .ok (.ireturn, 1) := by decide +kernel
theorem dX9_joined_68 : decode cX9_joined 68 = .ok (.iload_n 1, 1) := by decide +kernel
theorem dX9_joined_69 : decode cX9_joined 69 = .ok (.iload_n 2, 1) := by decide +kernel
theorem dX9_joined_70 : decode cX9_joined 70 = .ok (.iand, 1) := by decide +kernel
theorem dX9_joined_71 : decode cX9_joined 71 = .ok (.ireturn, 1) := by decide +kernel
theorem dX9_joined_72 : decode cX9_joined 72 = .ok (.iload_n 1, 1) := by decide +kernel
theorem dX9_joined_73 : decode cX9_joined 73 = .ok (.iload_n 2, 1) := by decide +kernel
theorem dX9_joined_74 : decode cX9_joined 74 = .ok (.ior, 1) := by decide +kernel
theorem dX9_joined_75 : decode cX9_joined 75 = .ok (.ireturn, 1) := by decide +kernel
theorem dX9_joined_76 : decode cX9_joined 76 = .ok (.iload_n 1, 1) := by decide +kernel
theorem dX9_joined_77 : decode cX9_joined 77 = .ok (.iload_n 2, 1) := by decide +kernel
theorem dX9_joined_78 : decode cX9_joined 78 = .ok (.ixor, 1) := by decide +kernel
theorem dX9_joined_79 : decode cX9_joined 79 = .ok (.ireturn, 1) := by decide +kernel
theorem dX9_translate_0 : decode cX9_translate 0 = .ok (.aload_n 0, 1) := by decide +kernel
theorem dX9_translate_1 : decode cX9_translate 1 = .ok (.iconst 1, 1) := by decide +kernel
theorem dX9_translate_2 : decode cX9_translate 2 = .ok (.invokevirtual 90, 3) := by decide +kernel
theorem dX9_translate_5 : decode cX9_translate 5 = .ok (.istore_n 1, 1) := by decide +kernel
theorem dX9_translate_6 : decode cX9_translate 6 = .ok (.iconst 0, 1) := by decide +kernel
theorem dX9_translate_7 : decode cX9_translate 7 = .ok (.istore_n 2, 1) := by decide +kernel
theorem dX9_translate_8 : decode cX9_translate 8 = .ok (.iload_n 2, 1) := by decide +kernel
theorem dX9_translate_9 : decode cX9_translate 9 = .ok (.iload_n 1, 1) := by decide +kernel
theorem dX9_translate_10 : decode cX9_translate 10 = .ok (.if_icmp .ge 55, 3) := by decide +kernel
theorem dX9_translate_13 : decode cX9_translate 13 = .ok (.aload_n 0, 1) := by decide +kernel
theorem dX9_translate_14 : decode cX9_translate 14 = .ok (.getfield 9, 3) := by decide +kernel
theorem dX9_translate_17 : decode cX9_translate 17 = .ok (.invokevirtual 36, 3) := by decide +kernel
theorem dX9_translate_20 : decode cX9_translate 20 = .ok (.ifCond .eq 45, 3) := by decide +kernel
theorem dX9_translate_23 : decode cX9_translate 23 = .ok (.aload_n 0, 1) := by decide +kernel
theorem dX9_translate_24 : decode cX9_translate 24 = .ok (.getfield 25, 3) := by decide +kernel
theorem dX9_translate_27 : decode cX9_translate 27 = .ok (.aload_n 0, 1) := by decide +kernel
theorem dX9_translate_28 : decode cX9_translate 28 = .ok (.getfield 15, 3) := by decide +kernel
theorem dX9_translate_31 : decode cX9_translate 31 = .ok (.getfield 26, 3) := by decide +kernel
theorem dX9_translate_34 : decode cX9_translate 34 = .ok (.iload_n 2, 1) := by decide +kernel
theorem dX9_translate_35 : decode cX9_translate 35 = .ok (.iadd, 1) := by decide +kernel
theorem dX9_translate_36 : decode cX9_translate 36 = .ok (.aload_n 0, 1) := by decide +kernel
theorem dX9_translate_37 : decode cX9_translate 37 = .ok (.getfield 25, 3) := by decide +kernel
theorem dX9_translate_40 : decode cX9_translate 40 = .ok (.aload_n 0, 1) := by decide +kernel
theorem dX9_translate_41 : decode cX9_translate 41 = .ok (.aload_n 0, 1) := by decide +kernel
theorem dX9_translate_42 : decode cX9_translate 42 = .ok (.getfield 15, 3) := by decide +kernel
theorem dX9_translate_45 : decode cX9_translate 45 = .ok (.getfield 26, 3) := by decide +kernel
theorem dX9_translate_48 : decode cX9_translate 48 = .ok (.iload_n 2, 1) := by decide +kernel
theorem dX9_translate_49 : decode cX9_translate 49 = .ok (.iadd, 1) := by decide +kernel
theorem dX9_translate_50 : decode cX9_translate 50 = .ok (.invokevirtual 93, 3) := by decide +kernel
theorem dX9_translate_53 : decode cX9_translate 53 = .ok (.invokevirtual 40, 3) := by decide +kernel
theorem dX9_translate_56 : decode cX9_translate 56 = .ok (.invokevirtual 66, 3) := by decide +kernel
theorem dX9_translate_59 : decode cX9_translate 59 = .ok (.iinc 2 1, 3) := by decide +kernel
theorem dX9_translate_62 : decode cX9_translate 62 = .ok (.goto (-54), 3) := by decide +kernel
theorem dX9_translate_65 : decode cX9_translate 65 = .ok (.return_, 1) := by decide +kernel
theorem dX9_translateAndTest_0 : decode cX9_translateAndTest 0 = .ok (.aload_n 0, 1) := by decide +kernel
theorem dX9_translateAndTest_1 : decode cX9_translateAndTest 1 = .ok (.iconst 0, 1) := by decide +kernel
theorem dX9_translateAndTest_2 : decode cX9_translateAndTest 2 = .ok (.invokevirtual 90, 3) := by decide +kernel
theorem dX9_translateAndTest_5 : decode cX9_translateAndTest 5 = .ok (.istore_n 1, 1) := by decide +kernel
theorem dX9_translateAndTest_6 : decode cX9_translateAndTest 6 = .ok (.aload_n 0, 1) := by decide +kernel
theorem dX9_translateAndTest_7 : decode cX9_translateAndTest 7 = .ok (.getfield 9, 3) := by decide +kernel
theorem dX9_translateAndTest_10 : decode cX9_translateAndTest 10 = .ok (.invokevirtual 36, 3) := by decide +kernel
theorem dX9_translateAndTest_13 : decode cX9_translateAndTest 13 = .ok (.ifCond .ne 4, 3) := by decide +kernel
theorem dX9_translateAndTest_16 : decode cX9_translateAndTest 16 = .ok (.return_, 1) := by decide +kernel
theorem dX9_translateAndTest_17 : decode cX9_translateAndTest 17 = .ok (.iconst 0, 1) := by decide +kernel
theorem dX9_translateAndTest_18 : decode cX9_translateAndTest 18 = .ok (.istore_n 2, 1) := by decide +kernel
theorem dX9_translateAndTest_19 : decode cX9_translateAndTest 19 = .ok (.iconst 0, 1) := by decide +kernel
theorem dX9_translateAndTest_20 : decode cX9_translateAndTest 20 = .ok (.istore_n 3, 1) := by decide +kernel
theorem dX9_translateAndTest_21 : decode cX9_translateAndTest 21 = .ok (.iconst 0, 1) := by decide +kernel
theorem dX9_translateAndTest_22 : decode cX9_translateAndTest 22 = .ok (.istore 4, 2) := by decide +kernel
theorem dX9_translateAndTest_24 : decode cX9_translateAndTest 24 = .ok (.iload 4, 2) := by decide +kernel
theorem dX9_translateAndTest_26 : decode cX9_translateAndTest 26 = .ok (.iload_n 1, 1) := by decide +kernel
theorem dX9_translateAndTest_27 : decode cX9_translateAndTest 27 = .ok (.if_icmp .ge 38, 3) := by decide +kernel
theorem dX9_translateAndTest_30 : decode cX9_translateAndTest 30 = .ok (.iload_n 2, 1) := by decide +kernel
theorem dX9_translateAndTest_31 : decode cX9_translateAndTest 31 = .ok (.ifCond .ne 34, 3) := by decide +kernel
theorem dX9_translateAndTest_34 : decode cX9_translateAndTest 34 = .ok (.iload 4, 2) := by decide +kernel
theorem dX9_translateAndTest_36 : decode cX9_translateAndTest 36 = .ok (.istore_n 3, 1) := by decide +kernel
theorem dX9_translateAndTest_37 : decode cX9_translateAndTest 37 = .ok (.aload_n 0, 1) := by decide +kernel
theorem dX9_translateAndTest_38 : decode cX9_translateAndTest 38 = .ok (.getfield 25, 3) := by decide +kernel
theorem dX9_translateAndTest_41 : decode cX9_translateAndTest 41 = .ok (.aload_n 0, 1) := by decide +kernel
theorem dX9_translateAndTest_42 : decode cX9_translateAndTest 42 = .ok (.aload_n 0, 1) := by decide +kernel
theorem dX9_translateAndTest_43 : decode cX9_translateAndTest 43 = .ok (.getfield 15, 3) := by decide +kernel
theorem dX9_translateAndTest_46 : decode cX9_translateAndTest 46 = .ok (.getfield 26, 3) := by decide +kernel
theorem dX9_translateAndTest_49 : decode cX9_translateAndTest 49 = .ok (.iload 4, 2) := by decide +kernel
theorem dX9_translateAndTest_51 : decode cX9_translateAndTest 51 = .ok (.iadd, 1) := by decide +kernel
theorem dX9_translateAndTest_52 : decode cX9_translateAndTest 52 = .ok (.invokevirtual 93, 3) := by decide +kernel
theorem dX9_translateAndTest_55 : decode cX9_translateAndTest 55 = .ok (.invokevirtual 40, 3) := by decide +kernel
theorem dX9_translateAndTest_58 : decode cX9_translateAndTest 58 = .ok (.istore_n 2, 1) := by decide +kernel
theorem dX9_translateAndTest_59 : decode cX9_translateAndTest 59 = .ok (.iinc 4 1, 3) := by decide +kernel
theorem dX9_translateAndTest_62 : decode cX9_translateAndTest 62 = .ok (.goto (-38), 3) := by decide +kernel
theorem dX9_translateAndTest_65 : decode cX9_translateAndTest 65 = .ok (.iload_n 2, 1) := by decide +kernel
theorem dX9_translateAndTest_66 : decode cX9_translateAndTest 66 = .ok (.ifCond .eq 29, 3) := by decide +kernel
theorem dX9_translateAndTest_69 : decode cX9_translateAndTest 69 = .ok (.aload_n 0, 1) := by decide +kernel
theorem dX9_translateAndTest_70 : decode cX9_translateAndTest 70 = .ok (.getfield 9, 3) := by decide +kernel
theorem dX9_translateAndTest_73 : decode cX9_translateAndTest 73 = .ok (.iconst 1, 1) := by decide +kernel
theorem dX9_translateAndTest_74 : decode cX9_translateAndTest 74 = .ok (.aload_n 0, 1) := by decide +kernel
theorem dX9_translateAndTest_75 : decode cX9_translateAndTest 75 = .ok (.getfield 15, 3) := by decide +kernel
theorem dX9_translateAndTest_78 : decode cX9_translateAndTest 78 = .ok (.getfield 26, 3) := by decide +kernel
theorem dX9_translateAndTest_81 : decode cX9_translateAndTest 81 = .ok (.iload_n 3, 1) := by decide +kernel
theorem dX9_translateAndTest_82 : decode cX9_translateAndTest 82 = .ok (.iadd, 1) := by decide +kernel
theorem dX9_translateAndTest_83 : decode cX9_translateAndTest 83 = .ok (.invokevirtual 96, 3) := by decide +kernel
theorem dX9_translateAndTest_86 : decode cX9_translateAndTest 86 = .ok (.aload_n 0, 1) := by decide +kernel
theorem dX9_translateAndTest_87 : decode cX9_translateAndTest 87 = .ok (.getfield 9, 3) := by decide +kernel
theorem dX9_translateAndTest_90 : decode cX9_translateAndTest 90 = .ok (.iconst 2, 1) := by decide +kernel
theorem dX9_translateAndTest_91 : decode cX9_translateAndTest 91 = .ok (.iload_n 2, 1) := by decide +kernel
theorem dX9_translateAndTest_92 : decode cX9_translateAndTest 92 = .ok (.invokevirtual 99, 3) := by decide +kernel
theorem dX9_translateAndTest_95 : decode cX9_translateAndTest 95 = .ok (.aload_n 0, 1) := by decide +kernel
theorem dX9_translateAndTest_96 : decode cX9_translateAndTest 96 = .ok (.getfield 9, 3) := by decide +kernel
theorem dX9_translateAndTest_99 : decode cX9_translateAndTest 99 = .ok (.getfield 56, 3) := by decide +kernel
theorem dX9_translateAndTest_102 : decode cX9_translateAndTest 102 = .ok (.iload_n 2, 1) := by decide +kernel
theorem dX9_translateAndTest_103 : decode cX9_translateAndTest 103 = .ok (.ifCond .ne 7, 3) := by decide +kernel
theorem dX9_translateAndTest_106 : decode cX9_translateAndTest 106 = .ok (.iconst 0, 1) := by decide +kernel
theorem dX9_translateAndTest_107 : decode cX9_translateAndTest 107 = .ok (.goto 15, 3) := by decide +kernel
theorem dX9_translateAndTest_110 : decode cX9_translateAndTest 110 = .ok (.iload_n 3, 1) := by decide +kernel
theorem dX9_translateAndTest_111 : decode cX9_translateAndTest 111 = .ok (.iload_n 1, 1) := by decide +kernel
theorem dX9_translateAndTest_112 : decode cX9_translateAndTest 112 = .ok (.iconst 1, 1) := by decide +kernel
theorem dX9_translateAndTest_113 : decode cX9_translateAndTest 113 = .ok (.isub, 1) := by decide +kernel
theorem dX9_translateAndTest_114 : decode cX9_translateAndTest 114 = .ok (.if_icmp .ne 7, 3) := by decide +kernel
theorem dX9_translateAndTest_117 : decode cX9_translateAndTest 117 = .ok (.iconst 2, 1) := by decide +kernel
theorem dX9_translateAndTest_118 : decode cX9_translateAndTest 118 = .ok (.goto 4, 3) := by decide +kernel
theorem dX9_translateAndTest_121 : decode cX9_translateAndTest 121 = .ok (.iconst 1, 1) := by decide +kernel
theorem dX9_translateAndTest_122 : decode cX9_translateAndTest 122 = .ok (.invokevirtual 60, 3) := by decide +kernel
theorem dX9_translateAndTest_125 : decode cX9_translateAndTest 125 = .ok (.return_, 1) := by decide +kernel
theorem dX9_demandTold_0 : decode cX9_demandTold 0 = .ok (.aload_n 0, 1) := by decide +kernel
theorem dX9_demandTold_1 : decode cX9_demandTold 1 = .ok (.getfield 15, 3) := by decide +kernel
theorem dX9_demandTold_4 : decode cX9_demandTold 4 = .ok (.getfield 49, 3) := by decide +kernel
theorem dX9_demandTold_7 : decode cX9_demandTold 7 = .ok (.iconst 1, 1) := by decide +kernel
theorem dX9_demandTold_8 : decode cX9_demandTold 8 = .ok (.iadd, 1) := by decide +kernel
theorem dX9_demandTold_9 : decode cX9_demandTold 9 = .ok (.istore_n 2, 1) := by decide +kernel
theorem dX9_demandTold_10 : decode cX9_demandTold 10 = .ok (.aload_n 0, 1) := by decide +kernel
theorem dX9_demandTold_11 : decode cX9_demandTold 11 = .ok (.getfield 9, 3) := by decide +kernel
theorem dX9_demandTold_14 : decode cX9_demandTold 14 = .ok (.aload_n 0, 1) := by decide +kernel
theorem dX9_demandTold_15 : decode cX9_demandTold 15 = .ok (.getfield 15, 3) := by decide +kernel
theorem dX9_demandTold_18 : decode cX9_demandTold 18 = .ok (.getfield 26, 3) := by decide +kernel
theorem dX9_demandTold_21 : decode cX9_demandTold 21 = .ok (.iload_n 2, 1) := by decide +kernel
theorem dX9_demandTold_22 : decode cX9_demandTold 22 = .ok (.iload_n 1, 1) := by decide +kernel
theorem dX9_demandTold_23 : decode cX9_demandTold 23 = .ok (.invokevirtual 32, 3) := by decide +kernel
theorem dX9_demandTold_26 : decode cX9_demandTold 26 = .ok (.iconst 0, 1) := by decide +kernel
theorem dX9_demandTold_27 : decode cX9_demandTold 27 = .ok (.istore_n 3, 1) := by decide +kernel
theorem dX9_demandTold_28 : decode cX9_demandTold 28 = .ok (.iload_n 3, 1) := by decide +kernel
theorem dX9_demandTold_29 : decode cX9_demandTold 29 = .ok (.iload_n 2, 1) := by decide +kernel
theorem dX9_demandTold_30 : decode cX9_demandTold 30 = .ok (.if_icmp .ge 46, 3) := by decide +kernel
theorem dX9_demandTold_33 : decode cX9_demandTold 33 = .ok (.aload_n 0, 1) := by decide +kernel
theorem dX9_demandTold_34 : decode cX9_demandTold 34 = .ok (.getfield 15, 3) := by decide +kernel
theorem dX9_demandTold_37 : decode cX9_demandTold 37 = .ok (.getfield 26, 3) := by decide +kernel
theorem dX9_demandTold_40 : decode cX9_demandTold 40 = .ok (.iload_n 3, 1) := by decide +kernel
theorem dX9_demandTold_41 : decode cX9_demandTold 41 = .ok (.iadd, 1) := by decide +kernel
theorem dX9_demandTold_42 : decode cX9_demandTold 42 = .ok (.ldc 102, 2) := by decide +kernel
theorem dX9_demandTold_44 : decode cX9_demandTold 44 = .ok (.iand, 1) := by decide +kernel
theorem dX9_demandTold_45 : decode cX9_demandTold 45 = .ok (.istore 4, 2) := by decide +kernel
theorem dX9_demandTold_47 : decode cX9_demandTold 47 = .ok (.iload 4, 2) := by decide +kernel
theorem dX9_demandTold_49 : decode cX9_demandTold 49 = .ok (.sipush 8192, 3) := by decide +kernel
theorem dX9_demandTold_52 : decode cX9_demandTold 52 = .ok (.if_icmp .ge 18, 3) := by decide +kernel
theorem dX9_demandTold_55 : decode cX9_demandTold 55 = .ok (.aload_n 0, 1) := by decide +kernel
theorem dX9_demandTold_56 : decode cX9_demandTold 56 = .ok (.getfield 9, 3) := by decide +kernel
theorem dX9_demandTold_59 : decode cX9_demandTold 59 = .ok (.aload_n 0, 1) := by decide +kernel
theorem dX9_demandTold_60 : decode cX9_demandTold 60 = .ok (.iload 4, 2) := by decide +kernel
theorem dX9_demandTold_62 : decode cX9_demandTold 62 = .ok (.invokevirtual 93, 3) := by decide +kernel
theorem dX9_demandTold_65 : decode cX9_demandTold 65 = .ok (.iconst 1, 1) := by decide +kernel
theorem dX9_demandTold_66 : decode cX9_demandTold 66 = .ok (.iconst 0, 1) := by decide +kernel
theorem dX9_demandTold_67 : decode cX9_demandTold 67 = .ok (.invokevirtual 32, 3) := by decide +kernel
theorem dX9_demandTold_70 : decode cX9_demandTold 70 = .ok (.iinc 3 1, 3) := by decide +kernel
theorem dX9_demandTold_73 : decode cX9_demandTold 73 = .ok (.goto (-45), 3) := by decide +kernel
theorem dX9_demandTold_76 : decode cX9_demandTold 76 = .ok (.iload_n 2, 1) := by decide +kernel
theorem dX9_demandTold_77 : decode cX9_demandTold 77 = .ok (.ireturn, 1) := by decide +kernel
theorem dX9_toldBy_0 : decode cX9_toldBy 0 = .ok (.aload_n 0, 1) := by decide +kernel
theorem dX9_toldBy_1 : decode cX9_toldBy 1 = .ok (.getfield 15, 3) := by decide +kernel
theorem dX9_toldBy_4 : decode cX9_toldBy 4 = .ok (.getfield 83, 3) := by decide +kernel
theorem dX9_toldBy_7 : decode cX9_toldBy 7 = .ok (.aload_n 0, 1) := by decide +kernel
