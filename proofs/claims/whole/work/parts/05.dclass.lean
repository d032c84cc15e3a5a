theorem d_TC_init_0 : decode b_TC_init 0 = .ok (.aload_n 0, 1) := by decide +kernel
theorem d_TC_init_1 : decode b_TC_init 1 = .ok (.invokespecial 1, 3) := by decide +kernel
theorem d_TC_init_4 : decode b_TC_init 4 = .ok (.iload_n 1, 1) := by decide +kernel
theorem d_TC_init_5 : decode b_TC_init 5 = .ok (.invokestatic 7, 3) := by decide +kernel
theorem d_TC_init_8 : decode b_TC_init 8 = .ok (.istore 4, 2) := by decide +kernel
theorem d_TC_init_10 : decode b_TC_init 10 = .ok (.aload_n 0, 1) := by decide +kernel
theorem d_TC_init_11 : decode b_TC_init 11 = .ok (.new 13, 3) := by decide +kernel
theorem d_TC_init_14 : decode b_TC_init 14 = .ok (.dup, 1) := by decide +kernel
theorem d_TC_init_15 : decode b_TC_init 15 = .ok (.invokespecial 15, 3) := by decide +kernel
theorem d_TC_init_18 : decode b_TC_init 18 = .ok (.putfield 16, 3) := by decide +kernel
theorem d_TC_init_21 : decode b_TC_init 21 = .ok (.aload_n 0, 1) := by decide +kernel
theorem d_TC_init_22 : decode b_TC_init 22 = .ok (.iload 4, 2) := by decide +kernel
theorem d_TC_init_24 : decode b_TC_init 24 = .ok (.anewarray 20, 3) := by decide +kernel
theorem d_TC_init_27 : decode b_TC_init 27 = .ok (.putfield 22, 3) := by decide +kernel
theorem d_TC_init_30 : decode b_TC_init 30 = .ok (.iconst 0, 1) := by decide +kernel
theorem d_TC_init_31 : decode b_TC_init 31 = .ok (.istore 5, 2) := by decide +kernel
theorem d_TC_init_33 : decode b_TC_init 33 = .ok (.iload 5, 2) := by decide +kernel
theorem d_TC_init_35 : decode b_TC_init 35 = .ok (.iload 4, 2) := by decide +kernel
theorem d_TC_init_37 : decode b_TC_init 37 = .ok (.if_icmp .ge 40, 3) := by decide +kernel
theorem d_TC_init_40 : decode b_TC_init 40 = .ok (.aload_n 0, 1) := by decide +kernel
theorem d_TC_init_41 : decode b_TC_init 41 = .ok (.getfield 22, 3) := by decide +kernel
theorem d_TC_init_44 : decode b_TC_init 44 = .ok (.iload 5, 2) := by decide +kernel
theorem d_TC_init_46 : decode b_TC_init 46 = .ok (.new 20, 3) := by decide +kernel
theorem d_TC_init_49 : decode b_TC_init 49 = .ok (.dup, 1) := by decide +kernel
theorem d_TC_init_50 : decode b_TC_init 50 = .ok (.iload 5, 2) := by decide +kernel
theorem d_TC_init_52 : decode b_TC_init 52 = .ok (.new 26, 3) := by decide +kernel
theorem d_TC_init_55 : decode b_TC_init 55 = .ok (.dup, 1) := by decide +kernel
theorem d_TC_init_56 : decode b_TC_init 56 = .ok (.iload_n 2, 1) := by decide +kernel
theorem d_TC_init_57 : decode b_TC_init 57 = .ok (.invokestatic 28, 3) := by decide +kernel
theorem d_TC_init_60 : decode b_TC_init 60 = .ok (.iload_n 3, 1) := by decide +kernel
theorem d_TC_init_61 : decode b_TC_init 61 = .ok (.invokestatic 7, 3) := by decide +kernel
theorem d_TC_init_64 : decode b_TC_init 64 = .ok (.invokespecial 31, 3) := by decide +kernel
theorem d_TC_init_67 : decode b_TC_init 67 = .ok (.invokespecial 34, 3) := by decide +kernel
theorem d_TC_init_70 : decode b_TC_init 70 = .ok (.aastore, 1) := by decide +kernel
theorem d_TC_init_71 : decode b_TC_init 71 = .ok (.iinc 5 1, 3) := by decide +kernel
theorem d_TC_init_74 : decode b_TC_init 74 = .ok (.goto (-41), 3) := by decide +kernel
theorem d_TC_init_77 : decode b_TC_init 77 = .ok (.return_, 1) := by decide +kernel
theorem d_TC_oneToThree_0 : decode b_TC_oneToThree 0 = .ok (.iconst 1, 1) := by decide +kernel
theorem d_TC_oneToThree_1 : decode b_TC_oneToThree 1 = .ok (.iconst 3, 1) := by decide +kernel
theorem d_TC_oneToThree_2 : decode b_TC_oneToThree 2 = .ok (.iload_n 0, 1) := by decide +kernel
theorem d_TC_oneToThree_3 : decode b_TC_oneToThree 3 = .ok (.invokestatic 131, 3) := by decide +kernel
theorem d_TC_oneToThree_6 : decode b_TC_oneToThree 6 = .ok (.invokestatic 137, 3) := by decide +kernel
theorem d_TC_oneToThree_9 : decode b_TC_oneToThree 9 = .ok (.ireturn, 1) := by decide +kernel
theorem d_Store_init_0 : decode b_Store_init 0 = .ok (.aload_n 0, 1) := by decide +kernel
theorem d_Store_init_1 : decode b_Store_init 1 = .ok (.invokespecial 3, 3) := by decide +kernel
theorem d_Store_init_4 : decode b_Store_init 4 = .ok (.aload_n 0, 1) := by decide +kernel
theorem d_Store_init_5 : decode b_Store_init 5 = .ok (.bipush 64, 2) := by decide +kernel
theorem d_Store_init_7 : decode b_Store_init 7 = .ok (.newarray .int, 2) := by decide +kernel
theorem d_Store_init_9 : decode b_Store_init 9 = .ok (.putfield 9, 3) := by decide +kernel
theorem d_Store_init_12 : decode b_Store_init 12 = .ok (.return_, 1) := by decide +kernel
theorem d_TC_nearestSets_0 : decode b_TC_nearestSets 0 = .ok (.iload_n 0, 1) := by decide +kernel
theorem d_TC_nearestSets_1 : decode b_TC_nearestSets 1 = .ok (.iconst 1, 1) := by decide +kernel
theorem d_TC_nearestSets_2 : decode b_TC_nearestSets 2 = .ok (.if_icmp .gt 5, 3) := by decide +kernel
theorem d_TC_nearestSets_5 : decode b_TC_nearestSets 5 = .ok (.iconst 1, 1) := by decide +kernel
theorem d_TC_nearestSets_6 : decode b_TC_nearestSets 6 = .ok (.ireturn, 1) := by decide +kernel
theorem d_TC_nearestSets_7 : decode b_TC_nearestSets 7 = .ok (.iload_n 0, 1) := by decide +kernel
theorem d_TC_nearestSets_8 : decode b_TC_nearestSets 8 = .ok (.iconst 3, 1) := by decide +kernel
theorem d_TC_nearestSets_9 : decode b_TC_nearestSets 9 = .ok (.if_icmp .gt 7, 3) := by decide +kernel
theorem d_TC_nearestSets_12 : decode b_TC_nearestSets 12 = .ok (.iconst 2, 1) := by decide +kernel
theorem d_TC_nearestSets_13 : decode b_TC_nearestSets 13 = .ok (.goto 4, 3) := by decide +kernel
theorem d_TC_nearestSets_16 : decode b_TC_nearestSets 16 = .ok (.iconst 4, 1) := by decide +kernel
theorem d_TC_nearestSets_17 : decode b_TC_nearestSets 17 = .ok (.ireturn, 1) := by decide +kernel
theorem d_Cache_init_0 : decode b_Cache_init 0 = .ok (.aload_n 0, 1) := by decide +kernel
theorem d_Cache_init_1 : decode b_Cache_init 1 = .ok (.invokespecial 3, 3) := by decide +kernel
theorem d_Cache_init_4 : decode b_Cache_init 4 = .ok (.aload_n 0, 1) := by decide +kernel
theorem d_Cache_init_5 : decode b_Cache_init 5 = .ok (.iload_n 1, 1) := by decide +kernel
theorem d_Cache_init_6 : decode b_Cache_init 6 = .ok (.putfield 9, 3) := by decide +kernel
theorem d_Cache_init_9 : decode b_Cache_init 9 = .ok (.aload_n 0, 1) := by decide +kernel
theorem d_Cache_init_10 : decode b_Cache_init 10 = .ok (.iload_n 2, 1) := by decide +kernel
theorem d_Cache_init_11 : decode b_Cache_init 11 = .ok (.putfield 15, 3) := by decide +kernel
theorem d_Cache_init_14 : decode b_Cache_init 14 = .ok (.aload_n 0, 1) := by decide +kernel
theorem d_Cache_init_15 : decode b_Cache_init 15 = .ok (.iload_n 1, 1) := by decide +kernel
theorem d_Cache_init_16 : decode b_Cache_init 16 = .ok (.iload_n 2, 1) := by decide +kernel
theorem d_Cache_init_17 : decode b_Cache_init 17 = .ok (.imul, 1) := by decide +kernel
theorem d_Cache_init_18 : decode b_Cache_init 18 = .ok (.anewarray 18, 3) := by decide +kernel
theorem d_Cache_init_21 : decode b_Cache_init 21 = .ok (.putfield 20, 3) := by decide +kernel
theorem d_Cache_init_24 : decode b_Cache_init 24 = .ok (.iconst 0, 1) := by decide +kernel
theorem d_Cache_init_25 : decode b_Cache_init 25 = .ok (.istore_n 3, 1) := by decide +kernel
theorem d_Cache_init_26 : decode b_Cache_init 26 = .ok (.iload_n 3, 1) := by decide +kernel
theorem d_Cache_init_27 : decode b_Cache_init 27 = .ok (.aload_n 0, 1) := by decide +kernel
theorem d_Cache_init_28 : decode b_Cache_init 28 = .ok (.getfield 20, 3) := by decide +kernel
theorem d_Cache_init_31 : decode b_Cache_init 31 = .ok (.arraylength, 1) := by decide +kernel
theorem d_Cache_init_32 : decode b_Cache_init 32 = .ok (.if_icmp .ge 22, 3) := by decide +kernel
theorem d_Cache_init_35 : decode b_Cache_init 35 = .ok (.aload_n 0, 1) := by decide +kernel
theorem d_Cache_init_36 : decode b_Cache_init 36 = .ok (.getfield 20, 3) := by decide +kernel
theorem d_Cache_init_39 : decode b_Cache_init 39 = .ok (.iload_n 3, 1) := by decide +kernel
theorem d_Cache_init_40 : decode b_Cache_init 40 = .ok (.new 18, 3) := by decide +kernel
theorem d_Cache_init_43 : decode b_Cache_init 43 = .ok (.dup, 1) := by decide +kernel
theorem d_Cache_init_44 : decode b_Cache_init 44 = .ok (.invokespecial 24, 3) := by decide +kernel
theorem d_Cache_init_47 : decode b_Cache_init 47 = .ok (.aastore, 1) := by decide +kernel
theorem d_Cache_init_48 : decode b_Cache_init 48 = .ok (.iinc 3 1, 3) := by decide +kernel
theorem d_Cache_init_51 : decode b_Cache_init 51 = .ok (.goto (-25), 3) := by decide +kernel
theorem d_Cache_init_54 : decode b_Cache_init 54 = .ok (.return_, 1) := by decide +kernel
theorem d_Way_init_0 : decode b_Way_init 0 = .ok (.aload_n 0, 1) := by decide +kernel
theorem d_Way_init_1 : decode b_Way_init 1 = .ok (.invokespecial 1, 3) := by decide +kernel
theorem d_Way_init_4 : decode b_Way_init 4 = .ok (.return_, 1) := by decide +kernel
theorem d_Core_init_0 : decode b_Core_init 0 = .ok (.aload_n 0, 1) := by decide +kernel
theorem d_Core_init_1 : decode b_Core_init 1 = .ok (.invokespecial 3, 3) := by decide +kernel
theorem d_Core_init_4 : decode b_Core_init 4 = .ok (.aload_n 0, 1) := by decide +kernel
theorem d_Core_init_5 : decode b_Core_init 5 = .ok (.bipush 16, 2) := by decide +kernel
theorem d_Core_init_7 : decode b_Core_init 7 = .ok (.newarray .int, 2) := by decide +kernel
theorem d_Core_init_9 : decode b_Core_init 9 = .ok (.putfield 9, 3) := by decide +kernel
theorem d_Core_init_12 : decode b_Core_init 12 = .ok (.aload_n 0, 1) := by decide +kernel
theorem d_Core_init_13 : decode b_Core_init 13 = .ok (.bipush 8, 2) := by decide +kernel
theorem d_Core_init_15 : decode b_Core_init 15 = .ok (.newarray .int, 2) := by decide +kernel
theorem d_Core_init_17 : decode b_Core_init 17 = .ok (.putfield 15, 3) := by decide +kernel
theorem d_Core_init_20 : decode b_Core_init 20 = .ok (.aload_n 0, 1) := by decide +kernel
theorem d_Core_init_21 : decode b_Core_init 21 = .ok (.bipush 8, 2) := by decide +kernel
theorem d_Core_init_23 : decode b_Core_init 23 = .ok (.newarray .int, 2) := by decide +kernel
theorem d_Core_init_25 : decode b_Core_init 25 = .ok (.putfield 18, 3) := by decide +kernel
theorem d_Core_init_28 : decode b_Core_init 28 = .ok (.aload_n 0, 1) := by decide +kernel
theorem d_Core_init_29 : decode b_Core_init 29 = .ok (.bipush 6, 2) := by decide +kernel
theorem d_Core_init_31 : decode b_Core_init 31 = .ok (.newarray .int, 2) := by decide +kernel
theorem d_Core_init_33 : decode b_Core_init 33 = .ok (.putfield 21, 3) := by decide +kernel
theorem d_Core_init_36 : decode b_Core_init 36 = .ok (.aload_n 0, 1) := by decide +kernel
theorem d_Core_init_37 : decode b_Core_init 37 = .ok (.iload_n 1, 1) := by decide +kernel
theorem d_Core_init_38 : decode b_Core_init 38 = .ok (.putfield 24, 3) := by decide +kernel
theorem d_Core_init_41 : decode b_Core_init 41 = .ok (.aload_n 0, 1) := by decide +kernel
theorem d_Core_init_42 : decode b_Core_init 42 = .ok (.aload_n 2, 1) := by decide +kernel
theorem d_Core_init_43 : decode b_Core_init 43 = .ok (.putfield 28, 3) := by decide +kernel
theorem d_Core_init_46 : decode b_Core_init 46 = .ok (.return_, 1) := by decide +kernel
theorem d_TC_poke_0 : decode b_TC_poke 0 = .ok (.aload_n 0, 1) := by decide +kernel
theorem d_TC_poke_1 : decode b_TC_poke 1 = .ok (.iconst (-1), 1) := by decide +kernel
theorem d_TC_poke_2 : decode b_TC_poke 2 = .ok (.iload_n 1, 1) := by decide +kernel
theorem d_TC_poke_3 : decode b_TC_poke 3 = .ok (.invokestatic 44, 3) := by decide +kernel
theorem d_TC_poke_6 : decode b_TC_poke 6 = .ok (.iconst 1, 1) := by decide +kernel
theorem d_TC_poke_7 : decode b_TC_poke 7 = .ok (.invokevirtual 47, 3) := by decide +kernel
theorem d_TC_poke_10 : decode b_TC_poke 10 = .ok (.aload_n 0, 1) := by decide +kernel
theorem d_TC_poke_11 : decode b_TC_poke 11 = .ok (.getfield 16, 3) := by decide +kernel
theorem d_TC_poke_14 : decode b_TC_poke 14 = .ok (.iload_n 1, 1) := by decide +kernel
theorem d_TC_poke_15 : decode b_TC_poke 15 = .ok (.iload_n 2, 1) := by decide +kernel
theorem d_TC_poke_16 : decode b_TC_poke 16 = .ok (.invokevirtual 51, 3) := by decide +kernel
theorem d_TC_poke_19 : decode b_TC_poke 19 = .ok (.return_, 1) := by decide +kernel
theorem d_TC_lineOf_0 : decode b_TC_lineOf 0 = .ok (.iload_n 0, 1) := by decide +kernel
theorem d_TC_lineOf_1 : decode b_TC_lineOf 1 = .ok (.bipush 63, 2) := by decide +kernel
theorem d_TC_lineOf_3 : decode b_TC_lineOf 3 = .ok (.iand, 1) := by decide +kernel
theorem d_TC_lineOf_4 : decode b_TC_lineOf 4 = .ok (.iconst 1, 1) := by decide +kernel
theorem d_TC_lineOf_5 : decode b_TC_lineOf 5 = .ok (.ishr, 1) := by decide +kernel
theorem d_TC_lineOf_6 : decode b_TC_lineOf 6 = .ok (.ireturn, 1) := by decide +kernel
theorem d_TC_sendRequest_0 : decode b_TC_sendRequest 0 = .ok (.iconst 0, 1) := by decide +kernel
theorem d_TC_sendRequest_1 : decode b_TC_sendRequest 1 = .ok (.istore 4, 2) := by decide +kernel
theorem d_TC_sendRequest_3 : decode b_TC_sendRequest 3 = .ok (.iload 4, 2) := by decide +kernel
theorem d_TC_sendRequest_5 : decode b_TC_sendRequest 5 = .ok (.aload_n 0, 1) := by decide +kernel
theorem d_TC_sendRequest_6 : decode b_TC_sendRequest 6 = .ok (.getfield 22, 3) := by decide +kernel
theorem d_TC_sendRequest_9 : decode b_TC_sendRequest 9 = .ok (.arraylength, 1) := by decide +kernel
theorem d_TC_sendRequest_10 : decode b_TC_sendRequest 10 = .ok (.if_icmp .ge 54, 3) := by decide +kernel
theorem d_TC_sendRequest_13 : decode b_TC_sendRequest 13 = .ok (.iload 4, 2) := by decide +kernel
theorem d_TC_sendRequest_15 : decode b_TC_sendRequest 15 = .ok (.iload_n 1, 1) := by decide +kernel
theorem d_TC_sendRequest_16 : decode b_TC_sendRequest 16 = .ok (.if_icmp .ne 7, 3) := by decide +kernel
theorem d_TC_sendRequest_19 : decode b_TC_sendRequest 19 = .ok (.aconst_null, 1) := by decide +kernel
theorem d_TC_sendRequest_20 : decode b_TC_sendRequest 20 = .ok (.goto 17, 3) := by decide +kernel
theorem d_TC_sendRequest_23 : decode b_TC_sendRequest 23 = .ok (.aload_n 0, 1) := by decide +kernel
theorem d_TC_sendRequest_24 : decode b_TC_sendRequest 24 = .ok (.getfield 22, 3) := by decide +kernel
theorem d_TC_sendRequest_27 : decode b_TC_sendRequest 27 = .ok (.iload 4, 2) := by decide +kernel
theorem d_TC_sendRequest_29 : decode b_TC_sendRequest 29 = .ok (.aaload, 1) := by decide +kernel
theorem d_TC_sendRequest_30 : decode b_TC_sendRequest 30 = .ok (.getfield 54, 3) := by decide +kernel
theorem d_TC_sendRequest_33 : decode b_TC_sendRequest 33 = .ok (.iload_n 2, 1) := by decide +kernel
theorem d_TC_sendRequest_34 : decode b_TC_sendRequest 34 = .ok (.invokevirtual 58, 3) := by decide +kernel
theorem d_TC_sendRequest_37 : decode b_TC_sendRequest 37 = .ok (.astore 5, 2) := by decide +kernel
theorem d_TC_sendRequest_39 : decode b_TC_sendRequest 39 = .ok (.aload 5, 2) := by decide +kernel
theorem d_TC_sendRequest_41 : decode b_TC_sendRequest 41 = .ok (.ifnull 17, 3) := by decide +kernel
theorem d_TC_sendRequest_44 : decode b_TC_sendRequest 44 = .ok (.aload_n 0, 1) := by decide +kernel
theorem d_TC_sendRequest_45 : decode b_TC_sendRequest 45 = .ok (.aload_n 0, 1) := by decide +kernel
theorem d_TC_sendRequest_46 : decode b_TC_sendRequest 46 = .ok (.getfield 22, 3) := by decide +kernel
theorem d_TC_sendRequest_49 : decode b_TC_sendRequest 49 = .ok (.iload 4, 2) := by decide +kernel
theorem d_TC_sendRequest_51 : decode b_TC_sendRequest 51 = .ok (.aaload, 1) := by decide +kernel
theorem d_TC_sendRequest_52 : decode b_TC_sendRequest 52 = .ok (.aload 5, 2) := by decide +kernel
theorem d_TC_sendRequest_54 : decode b_TC_sendRequest 54 = .ok (.iload_n 3, 1) := by decide +kernel
theorem d_TC_sendRequest_55 : decode b_TC_sendRequest 55 = .ok (.invokevirtual 214, 3) := by decide +kernel
theorem d_TC_sendRequest_58 : decode b_TC_sendRequest 58 = .ok (.iinc 4 1, 3) := by decide +kernel
theorem d_TC_sendRequest_61 : decode b_TC_sendRequest 61 = .ok (.goto (-58), 3) := by decide +kernel
theorem d_TC_sendRequest_64 : decode b_TC_sendRequest 64 = .ok (.return_, 1) := by decide +kernel
theorem d_Cache_find_0 : decode b_Cache_find 0 = .ok (.aload_n 0, 1) := by decide +kernel
theorem d_Cache_find_1 : decode b_Cache_find 1 = .ok (.iload_n 1, 1) := by decide +kernel
theorem d_Cache_find_2 : decode b_Cache_find 2 = .ok (.invokevirtual 25, 3) := by decide +kernel
theorem d_Cache_find_5 : decode b_Cache_find 5 = .ok (.istore_n 2, 1) := by decide +kernel
theorem d_Cache_find_6 : decode b_Cache_find 6 = .ok (.iload_n 2, 1) := by decide +kernel
theorem d_Cache_find_7 : decode b_Cache_find 7 = .ok (.istore_n 3, 1) := by decide +kernel
theorem d_Cache_find_8 : decode b_Cache_find 8 = .ok (.iload_n 3, 1) := by decide +kernel
theorem d_Cache_find_9 : decode b_Cache_find 9 = .ok (.iload_n 2, 1) := by decide +kernel
theorem d_Cache_find_10 : decode b_Cache_find 10 = .ok (.aload_n 0, 1) := by decide +kernel
theorem d_Cache_find_11 : decode b_Cache_find 11 = .ok (.getfield 15, 3) := by decide +kernel
theorem d_Cache_find_14 : decode b_Cache_find 14 = .ok (.iadd, 1) := by decide +kernel
theorem d_Cache_find_15 : decode b_Cache_find 15 = .ok (.if_icmp .ge 41, 3) := by decide +kernel
theorem d_Cache_find_18 : decode b_Cache_find 18 = .ok (.aload_n 0, 1) := by decide +kernel
theorem d_Cache_find_19 : decode b_Cache_find 19 = .ok (.getfield 20, 3) := by decide +kernel
theorem d_Cache_find_22 : decode b_Cache_find 22 = .ok (.iload_n 3, 1) := by decide +kernel
theorem d_Cache_find_23 : decode b_Cache_find 23 = .ok (.aaload, 1) := by decide +kernel
theorem d_Cache_find_24 : decode b_Cache_find 24 = .ok (.getfield 29, 3) := by decide +kernel
theorem d_Cache_find_27 : decode b_Cache_find 27 = .ok (.ifCond .eq 23, 3) := by decide +kernel
theorem d_Cache_find_30 : decode b_Cache_find 30 = .ok (.aload_n 0, 1) := by decide +kernel
theorem d_Cache_find_31 : decode b_Cache_find 31 = .ok (.getfield 20, 3) := by decide +kernel
theorem d_Cache_find_34 : decode b_Cache_find 34 = .ok (.iload_n 3, 1) := by decide +kernel
theorem d_Cache_find_35 : decode b_Cache_find 35 = .ok (.aaload, 1) := by decide +kernel
theorem d_Cache_find_36 : decode b_Cache_find 36 = .ok (.getfield 32, 3) := by decide +kernel
theorem d_Cache_find_39 : decode b_Cache_find 39 = .ok (.iload_n 1, 1) := by decide +kernel
theorem d_Cache_find_40 : decode b_Cache_find 40 = .ok (.if_icmp .ne 10, 3) := by decide +kernel
theorem d_Cache_find_43 : decode b_Cache_find 43 = .ok (.aload_n 0, 1) := by decide +kernel
theorem d_Cache_find_44 : decode b_Cache_find 44 = .ok (.getfield 20, 3) := by decide +kernel
theorem d_Cache_find_47 : decode b_Cache_find 47 = .ok (.iload_n 3, 1) := by decide +kernel
theorem d_Cache_find_48 : decode b_Cache_find 48 = .ok (.aaload, 1) := by decide +kernel
theorem d_Cache_find_49 : decode b_Cache_find 49 = .ok (.areturn, 1) := by decide +kernel
theorem d_Cache_find_50 : decode b_Cache_find 50 = .ok (.iinc 3 1, 3) := by decide +kernel
theorem d_Cache_find_53 : decode b_Cache_find 53 = .ok (.goto (-45), 3) := by decide +kernel
theorem d_Cache_find_56 : decode b_Cache_find 56 = .ok (.aconst_null, 1) := by decide +kernel
theorem d_Cache_find_57 : decode b_Cache_find 57 = .ok (.areturn, 1) := by decide +kernel
theorem d_Cache_firstOfSet_0 : decode b_Cache_firstOfSet 0 = .ok (.iload_n 1, 1) := by decide +kernel
theorem d_Cache_firstOfSet_1 : decode b_Cache_firstOfSet 1 = .ok (.aload_n 0, 1) := by decide +kernel
theorem d_Cache_firstOfSet_2 : decode b_Cache_firstOfSet 2 = .ok (.getfield 9, 3) := by decide +kernel
theorem d_Cache_firstOfSet_5 : decode b_Cache_firstOfSet 5 = .ok (.iconst 1, 1) := by decide +kernel
theorem d_Cache_firstOfSet_6 : decode b_Cache_firstOfSet 6 = .ok (.isub, 1) := by decide +kernel
theorem d_Cache_firstOfSet_7 : decode b_Cache_firstOfSet 7 = .ok (.iand, 1) := by decide +kernel
theorem d_Cache_firstOfSet_8 : decode b_Cache_firstOfSet 8 = .ok (.aload_n 0, 1) := by decide +kernel
theorem d_Cache_firstOfSet_9 : decode b_Cache_firstOfSet 9 = .ok (.getfield 15, 3) := by decide +kernel
theorem d_Cache_firstOfSet_12 : decode b_Cache_firstOfSet 12 = .ok (.imul, 1) := by decide +kernel
theorem d_Cache_firstOfSet_13 : decode b_Cache_firstOfSet 13 = .ok (.ireturn, 1) := by decide +kernel
theorem d_TC_meetRequest_0 : decode b_TC_meetRequest 0 = .ok (.aload_n 2, 1) := by decide +kernel
theorem d_TC_meetRequest_1 : decode b_TC_meetRequest 1 = .ok (.getfield 68, 3) := by decide +kernel
theorem d_TC_meetRequest_4 : decode b_TC_meetRequest 4 = .ok (.iconst 2, 1) := by decide +kernel
theorem d_TC_meetRequest_5 : decode b_TC_meetRequest 5 = .ok (.iand, 1) := by decide +kernel
theorem d_TC_meetRequest_6 : decode b_TC_meetRequest 6 = .ok (.ifCond .ne 14, 3) := by decide +kernel
theorem d_TC_meetRequest_9 : decode b_TC_meetRequest 9 = .ok (.iload_n 3, 1) := by decide +kernel
theorem d_TC_meetRequest_10 : decode b_TC_meetRequest 10 = .ok (.ifCond .eq 17, 3) := by decide +kernel
theorem d_TC_meetRequest_13 : decode b_TC_meetRequest 13 = .ok (.aload_n 2, 1) := by decide +kernel
theorem d_TC_meetRequest_14 : decode b_TC_meetRequest 14 = .ok (.getfield 68, 3) := by decide +kernel
theorem d_TC_meetRequest_17 : decode b_TC_meetRequest 17 = .ok (.ifCond .eq 10, 3) := by decide +kernel
theorem d_TC_meetRequest_20 : decode b_TC_meetRequest 20 = .ok (.aload_n 1, 1) := by decide +kernel
theorem d_TC_meetRequest_21 : decode b_TC_meetRequest 21 = .ok (.iconst 1, 1) := by decide +kernel
theorem d_TC_meetRequest_22 : decode b_TC_meetRequest 22 = .ok (.iconst 0, 1) := by decide +kernel
theorem d_TC_meetRequest_23 : decode b_TC_meetRequest 23 = .ok (.invokevirtual 187, 3) := by decide +kernel
theorem d_TC_meetRequest_26 : decode b_TC_meetRequest 26 = .ok (.pop, 1) := by decide +kernel
theorem d_TC_meetRequest_27 : decode b_TC_meetRequest 27 = .ok (.aload_n 2, 1) := by decide +kernel
theorem d_TC_meetRequest_28 : decode b_TC_meetRequest 28 = .ok (.getfield 62, 3) := by decide +kernel
theorem d_TC_meetRequest_31 : decode b_TC_meetRequest 31 = .ok (.ifCond .ne 4, 3) := by decide +kernel
theorem d_TC_meetRequest_34 : decode b_TC_meetRequest 34 = .ok (.return_, 1) := by decide +kernel
theorem d_TC_meetRequest_35 : decode b_TC_meetRequest 35 = .ok (.aload_n 2, 1) := by decide +kernel
theorem d_TC_meetRequest_36 : decode b_TC_meetRequest 36 = .ok (.getfield 62, 3) := by decide +kernel
theorem d_TC_meetRequest_39 : decode b_TC_meetRequest 39 = .ok (.iconst 2, 1) := by decide +kernel
theorem d_TC_meetRequest_40 : decode b_TC_meetRequest 40 = .ok (.if_icmp .ne 11, 3) := by decide +kernel
theorem d_TC_meetRequest_43 : decode b_TC_meetRequest 43 = .ok (.aload_n 0, 1) := by decide +kernel
theorem d_TC_meetRequest_44 : decode b_TC_meetRequest 44 = .ok (.getfield 16, 3) := by decide +kernel
theorem d_TC_meetRequest_47 : decode b_TC_meetRequest 47 = .ok (.aload_n 2, 1) := by decide +kernel
theorem d_TC_meetRequest_48 : decode b_TC_meetRequest 48 = .ok (.invokevirtual 207, 3) := by decide +kernel
theorem d_TC_meetRequest_51 : decode b_TC_meetRequest 51 = .ok (.aload_n 2, 1) := by decide +kernel
theorem d_TC_meetRequest_52 : decode b_TC_meetRequest 52 = .ok (.iload_n 3, 1) := by decide +kernel
theorem d_TC_meetRequest_53 : decode b_TC_meetRequest 53 = .ok (.ifCond .eq 7, 3) := by decide +kernel
theorem d_TC_meetRequest_56 : decode b_TC_meetRequest 56 = .ok (.iconst 0, 1) := by decide +kernel
theorem d_TC_meetRequest_57 : decode b_TC_meetRequest 57 = .ok (.goto 4, 3) := by decide +kernel
theorem d_TC_meetRequest_60 : decode b_TC_meetRequest 60 = .ok (.iconst 1, 1) := by decide +kernel
theorem d_TC_meetRequest_61 : decode b_TC_meetRequest 61 = .ok (.putfield 62, 3) := by decide +kernel
theorem d_TC_meetRequest_64 : decode b_TC_meetRequest 64 = .ok (.return_, 1) := by decide +kernel
theorem d_Core_abort_0 : decode b_Core_abort 0 = .ok (.aload_n 0, 1) := by decide +kernel
theorem d_Core_abort_1 : decode b_Core_abort 1 = .ok (.getfield 28, 3) := by decide +kernel
theorem d_Core_abort_4 : decode b_Core_abort 4 = .ok (.invokevirtual 79, 3) := by decide +kernel
theorem d_Core_abort_7 : decode b_Core_abort 7 = .ok (.aload_n 0, 1) := by decide +kernel
theorem d_Core_abort_8 : decode b_Core_abort 8 = .ok (.getfield 28, 3) := by decide +kernel
theorem d_Core_abort_11 : decode b_Core_abort 11 = .ok (.invokevirtual 70, 3) := by decide +kernel
theorem d_Core_abort_14 : decode b_Core_abort 14 = .ok (.aload_n 0, 1) := by decide +kernel
theorem d_Core_abort_15 : decode b_Core_abort 15 = .ok (.getfield 18, 3) := by decide +kernel
theorem d_Core_abort_18 : decode b_Core_abort 18 = .ok (.iconst 0, 1) := by decide +kernel
theorem d_Core_abort_19 : decode b_Core_abort 19 = .ok (.aload_n 0, 1) := by decide +kernel
theorem d_Core_abort_20 : decode b_Core_abort 20 = .ok (.getfield 15, 3) := by decide +kernel
theorem d_Core_abort_23 : decode b_Core_abort 23 = .ok (.iconst 0, 1) := by decide +kernel
theorem d_Core_abort_24 : decode b_Core_abort 24 = .ok (.bipush 8, 2) := by decide +kernel
theorem d_Core_abort_26 : decode b_Core_abort 26 = .ok (.invokestatic 61, 3) := by decide +kernel
theorem d_Core_abort_29 : decode b_Core_abort 29 = .ok (.aload_n 0, 1) := by decide +kernel
theorem d_Core_abort_30 : decode b_Core_abort 30 = .ok (.getfield 15, 3) := by decide +kernel
theorem d_Core_abort_33 : decode b_Core_abort 33 = .ok (.bipush 7, 2) := by decide +kernel
theorem d_Core_abort_35 : decode b_Core_abort 35 = .ok (.iload_n 1, 1) := by decide +kernel
theorem d_Core_abort_36 : decode b_Core_abort 36 = .ok (.iload_n 2, 1) := by decide +kernel
theorem d_Core_abort_37 : decode b_Core_abort 37 = .ok (.iadd, 1) := by decide +kernel
theorem d_Core_abort_38 : decode b_Core_abort 38 = .ok (.iastore, 1) := by decide +kernel
theorem d_Core_abort_39 : decode b_Core_abort 39 = .ok (.aload_n 0, 1) := by decide +kernel
theorem d_Core_abort_40 : decode b_Core_abort 40 = .ok (.aload_n 0, 1) := by decide +kernel
theorem d_Core_abort_41 : decode b_Core_abort 41 = .ok (.getfield 67, 3) := by decide +kernel
theorem d_Core_abort_44 : decode b_Core_abort 44 = .ok (.putfield 51, 3) := by decide +kernel
theorem d_Core_abort_47 : decode b_Core_abort 47 = .ok (.aload_n 0, 1) := by decide +kernel
theorem d_Core_abort_48 : decode b_Core_abort 48 = .ok (.iconst 0, 1) := by decide +kernel
theorem d_Core_abort_49 : decode b_Core_abort 49 = .ok (.putfield 48, 3) := by decide +kernel
theorem d_Core_abort_52 : decode b_Core_abort 52 = .ok (.aload_n 0, 1) := by decide +kernel
theorem d_Core_abort_53 : decode b_Core_abort 53 = .ok (.getfield 21, 3) := by decide +kernel
theorem d_Core_abort_56 : decode b_Core_abort 56 = .ok (.iload_n 1, 1) := by decide +kernel
theorem d_Core_abort_57 : decode b_Core_abort 57 = .ok (.dup2, 1) := by decide +kernel
theorem d_Core_abort_58 : decode b_Core_abort 58 = .ok (.iaload, 1) := by decide +kernel
theorem d_Core_abort_59 : decode b_Core_abort 59 = .ok (.iconst 1, 1) := by decide +kernel
theorem d_Core_abort_60 : decode b_Core_abort 60 = .ok (.iadd, 1) := by decide +kernel
theorem d_Core_abort_61 : decode b_Core_abort 61 = .ok (.iastore, 1) := by decide +kernel
theorem d_Core_abort_62 : decode b_Core_abort 62 = .ok (.iconst 2, 1) := by decide +kernel
theorem d_Core_abort_63 : decode b_Core_abort 63 = .ok (.ireturn, 1) := by decide +kernel
theorem d_Cache_dropWritten_0 : decode b_Cache_dropWritten 0 = .ok (.iconst 0, 1) := by decide +kernel
theorem d_Cache_dropWritten_1 : decode b_Cache_dropWritten 1 = .ok (.istore_n 1, 1) := by decide +kernel
theorem d_Cache_dropWritten_2 : decode b_Cache_dropWritten 2 = .ok (.iload_n 1, 1) := by decide +kernel
theorem d_Cache_dropWritten_3 : decode b_Cache_dropWritten 3 = .ok (.aload_n 0, 1) := by decide +kernel
theorem d_Cache_dropWritten_4 : decode b_Cache_dropWritten 4 = .ok (.getfield 20, 3) := by decide +kernel
theorem d_Cache_dropWritten_7 : decode b_Cache_dropWritten 7 = .ok (.arraylength, 1) := by decide +kernel
theorem d_Cache_dropWritten_8 : decode b_Cache_dropWritten 8 = .ok (.if_icmp .ge 33, 3) := by decide +kernel
theorem d_Cache_dropWritten_11 : decode b_Cache_dropWritten 11 = .ok (.aload_n 0, 1) := by decide +kernel
theorem d_Cache_dropWritten_12 : decode b_Cache_dropWritten 12 = .ok (.getfield 20, 3) := by decide +kernel
theorem d_Cache_dropWritten_15 : decode b_Cache_dropWritten 15 = .ok (.iload_n 1, 1) := by decide +kernel
theorem d_Cache_dropWritten_16 : decode b_Cache_dropWritten 16 = .ok (.aaload, 1) := by decide +kernel
theorem d_Cache_dropWritten_17 : decode b_Cache_dropWritten 17 = .ok (.getfield 35, 3) := by decide +kernel
theorem d_Cache_dropWritten_20 : decode b_Cache_dropWritten 20 = .ok (.iconst 2, 1) := by decide +kernel
theorem d_Cache_dropWritten_21 : decode b_Cache_dropWritten 21 = .ok (.iand, 1) := by decide +kernel
theorem d_Cache_dropWritten_22 : decode b_Cache_dropWritten 22 = .ok (.ifCond .eq 13, 3) := by decide +kernel
theorem d_Cache_dropWritten_25 : decode b_Cache_dropWritten 25 = .ok (.aload_n 0, 1) := by decide +kernel
theorem d_Cache_dropWritten_26 : decode b_Cache_dropWritten 26 = .ok (.getfield 20, 3) := by decide +kernel
theorem d_Cache_dropWritten_29 : decode b_Cache_dropWritten 29 = .ok (.iload_n 1, 1) := by decide +kernel
theorem d_Cache_dropWritten_30 : decode b_Cache_dropWritten 30 = .ok (.aaload, 1) := by decide +kernel
theorem d_Cache_dropWritten_31 : decode b_Cache_dropWritten 31 = .ok (.iconst 0, 1) := by decide +kernel
theorem d_Cache_dropWritten_32 : decode b_Cache_dropWritten 32 = .ok (.putfield 29, 3) := by decide +kernel
theorem d_Cache_dropWritten_35 : decode b_Cache_dropWritten 35 = .ok (.iinc 1 1, 3) := by decide +kernel
theorem d_Cache_dropWritten_38 : decode b_Cache_dropWritten 38 = .ok (.goto (-36), 3) := by decide +kernel
theorem d_Cache_dropWritten_41 : decode b_Cache_dropWritten 41 = .ok (.return_, 1) := by decide +kernel
theorem d_Cache_dropMarks_0 : decode b_Cache_dropMarks 0 = .ok (.iconst 0, 1) := by decide +kernel
theorem d_Cache_dropMarks_1 : decode b_Cache_dropMarks 1 = .ok (.istore_n 1, 1) := by decide +kernel
theorem d_Cache_dropMarks_2 : decode b_Cache_dropMarks 2 = .ok (.iload_n 1, 1) := by decide +kernel
theorem d_Cache_dropMarks_3 : decode b_Cache_dropMarks 3 = .ok (.aload_n 0, 1) := by decide +kernel
theorem d_Cache_dropMarks_4 : decode b_Cache_dropMarks 4 = .ok (.getfield 20, 3) := by decide +kernel
theorem d_Cache_dropMarks_7 : decode b_Cache_dropMarks 7 = .ok (.arraylength, 1) := by decide +kernel
theorem d_Cache_dropMarks_8 : decode b_Cache_dropMarks 8 = .ok (.if_icmp .ge 19, 3) := by decide +kernel
theorem d_Cache_dropMarks_11 : decode b_Cache_dropMarks 11 = .ok (.aload_n 0, 1) := by decide +kernel
theorem d_Cache_dropMarks_12 : decode b_Cache_dropMarks 12 = .ok (.getfield 20, 3) := by decide +kernel
theorem d_Cache_dropMarks_15 : decode b_Cache_dropMarks 15 = .ok (.iload_n 1, 1) := by decide +kernel
theorem d_Cache_dropMarks_16 : decode b_Cache_dropMarks 16 = .ok (.aaload, 1) := by decide +kernel
theorem d_Cache_dropMarks_17 : decode b_Cache_dropMarks 17 = .ok (.iconst 0, 1) := by decide +kernel
theorem d_Cache_dropMarks_18 : decode b_Cache_dropMarks 18 = .ok (.putfield 35, 3) := by decide +kernel
theorem d_Cache_dropMarks_21 : decode b_Cache_dropMarks 21 = .ok (.iinc 1 1, 3) := by decide +kernel
theorem d_Cache_dropMarks_24 : decode b_Cache_dropMarks 24 = .ok (.goto (-22), 3) := by decide +kernel
theorem d_Cache_dropMarks_27 : decode b_Cache_dropMarks 27 = .ok (.return_, 1) := by decide +kernel
theorem d_Store_keep_0 : decode b_Store_keep 0 = .ok (.aload_n 0, 1) := by decide +kernel
theorem d_Store_keep_1 : decode b_Store_keep 1 = .ok (.iconst 2, 1) := by decide +kernel
theorem d_Store_keep_2 : decode b_Store_keep 2 = .ok (.aload_n 1, 1) := by decide +kernel
theorem d_Store_keep_3 : decode b_Store_keep 3 = .ok (.getfield 15, 3) := by decide +kernel
theorem d_Store_keep_6 : decode b_Store_keep 6 = .ok (.imul, 1) := by decide +kernel
theorem d_Store_keep_7 : decode b_Store_keep 7 = .ok (.aload_n 1, 1) := by decide +kernel
theorem d_Store_keep_8 : decode b_Store_keep 8 = .ok (.getfield 21, 3) := by decide +kernel
theorem d_Store_keep_11 : decode b_Store_keep 11 = .ok (.invokevirtual 24, 3) := by decide +kernel
theorem d_Store_keep_14 : decode b_Store_keep 14 = .ok (.aload_n 0, 1) := by decide +kernel
theorem d_Store_keep_15 : decode b_Store_keep 15 = .ok (.iconst 2, 1) := by decide +kernel
theorem d_Store_keep_16 : decode b_Store_keep 16 = .ok (.aload_n 1, 1) := by decide +kernel
theorem d_Store_keep_17 : decode b_Store_keep 17 = .ok (.getfield 15, 3) := by decide +kernel
theorem d_Store_keep_20 : decode b_Store_keep 20 = .ok (.imul, 1) := by decide +kernel
theorem d_Store_keep_21 : decode b_Store_keep 21 = .ok (.iconst 1, 1) := by decide +kernel
theorem d_Store_keep_22 : decode b_Store_keep 22 = .ok (.iadd, 1) := by decide +kernel
theorem d_Store_keep_23 : decode b_Store_keep 23 = .ok (.aload_n 1, 1) := by decide +kernel
theorem d_Store_keep_24 : decode b_Store_keep 24 = .ok (.getfield 28, 3) := by decide +kernel
theorem d_Store_keep_27 : decode b_Store_keep 27 = .ok (.invokevirtual 24, 3) := by decide +kernel
theorem d_Store_keep_30 : decode b_Store_keep 30 = .ok (.return_, 1) := by decide +kernel
theorem d_Store_put_0 : decode b_Store_put 0 = .ok (.aload_n 0, 1) := by decide +kernel
theorem d_Store_put_1 : decode b_Store_put 1 = .ok (.getfield 9, 3) := by decide +kernel
theorem d_Store_put_4 : decode b_Store_put 4 = .ok (.iload_n 1, 1) := by decide +kernel
theorem d_Store_put_5 : decode b_Store_put 5 = .ok (.bipush 63, 2) := by decide +kernel
theorem d_Store_put_7 : decode b_Store_put 7 = .ok (.iand, 1) := by decide +kernel
theorem d_Store_put_8 : decode b_Store_put 8 = .ok (.iload_n 2, 1) := by decide +kernel
theorem d_Store_put_9 : decode b_Store_put 9 = .ok (.iastore, 1) := by decide +kernel
theorem d_Store_put_10 : decode b_Store_put 10 = .ok (.return_, 1) := by decide +kernel
theorem d_TC_peek_0 : decode b_TC_peek 0 = .ok (.iload_n 1, 1) := by decide +kernel
theorem d_TC_peek_1 : decode b_TC_peek 1 = .ok (.invokestatic 44, 3) := by decide +kernel
theorem d_TC_peek_4 : decode b_TC_peek 4 = .ok (.istore_n 2, 1) := by decide +kernel
theorem d_TC_peek_5 : decode b_TC_peek 5 = .ok (.iconst 0, 1) := by decide +kernel
theorem d_TC_peek_6 : decode b_TC_peek 6 = .ok (.istore_n 3, 1) := by decide +kernel
theorem d_TC_peek_7 : decode b_TC_peek 7 = .ok (.iload_n 3, 1) := by decide +kernel
theorem d_TC_peek_8 : decode b_TC_peek 8 = .ok (.aload_n 0, 1) := by decide +kernel
theorem d_TC_peek_9 : decode b_TC_peek 9 = .ok (.getfield 22, 3) := by decide +kernel
theorem d_TC_peek_12 : decode b_TC_peek 12 = .ok (.arraylength, 1) := by decide +kernel
theorem d_TC_peek_13 : decode b_TC_peek 13 = .ok (.if_icmp .ge 55, 3) := by decide +kernel
theorem d_TC_peek_16 : decode b_TC_peek 16 = .ok (.aload_n 0, 1) := by decide +kernel
theorem d_TC_peek_17 : decode b_TC_peek 17 = .ok (.getfield 22, 3) := by decide +kernel
theorem d_TC_peek_20 : decode b_TC_peek 20 = .ok (.iload_n 3, 1) := by decide +kernel
theorem d_TC_peek_21 : decode b_TC_peek 21 = .ok (.aaload, 1) := by decide +kernel
theorem d_TC_peek_22 : decode b_TC_peek 22 = .ok (.getfield 54, 3) := by decide +kernel
theorem d_TC_peek_25 : decode b_TC_peek 25 = .ok (.iload_n 2, 1) := by decide +kernel
theorem d_TC_peek_26 : decode b_TC_peek 26 = .ok (.invokevirtual 58, 3) := by decide +kernel
theorem d_TC_peek_29 : decode b_TC_peek 29 = .ok (.astore 4, 2) := by decide +kernel
theorem d_TC_peek_31 : decode b_TC_peek 31 = .ok (.aload 4, 2) := by decide +kernel
theorem d_TC_peek_33 : decode b_TC_peek 33 = .ok (.ifnull 29, 3) := by decide +kernel
theorem d_TC_peek_36 : decode b_TC_peek 36 = .ok (.aload 4, 2) := by decide +kernel
theorem d_TC_peek_38 : decode b_TC_peek 38 = .ok (.getfield 62, 3) := by decide +kernel
theorem d_TC_peek_41 : decode b_TC_peek 41 = .ok (.iconst 2, 1) := by decide +kernel
theorem d_TC_peek_42 : decode b_TC_peek 42 = .ok (.if_icmp .ne 20, 3) := by decide +kernel
theorem d_TC_peek_45 : decode b_TC_peek 45 = .ok (.aload 4, 2) := by decide +kernel
theorem d_TC_peek_47 : decode b_TC_peek 47 = .ok (.getfield 68, 3) := by decide +kernel
theorem d_TC_peek_50 : decode b_TC_peek 50 = .ok (.iconst 2, 1) := by decide +kernel
theorem d_TC_peek_51 : decode b_TC_peek 51 = .ok (.iand, 1) := by decide +kernel
theorem d_TC_peek_52 : decode b_TC_peek 52 = .ok (.ifCond .ne 10, 3) := by decide +kernel
theorem d_TC_peek_55 : decode b_TC_peek 55 = .ok (.aload 4, 2) := by decide +kernel
theorem d_TC_peek_57 : decode b_TC_peek 57 = .ok (.iload_n 1, 1) := by decide +kernel
theorem d_TC_peek_58 : decode b_TC_peek 58 = .ok (.invokevirtual 71, 3) := by decide +kernel
theorem d_TC_peek_61 : decode b_TC_peek 61 = .ok (.ireturn, 1) := by decide +kernel
theorem d_TC_peek_62 : decode b_TC_peek 62 = .ok (.iinc 3 1, 3) := by decide +kernel
theorem d_TC_peek_65 : decode b_TC_peek 65 = .ok (.goto (-58), 3) := by decide +kernel
theorem d_TC_peek_68 : decode b_TC_peek 68 = .ok (.aload_n 0, 1) := by decide +kernel
theorem d_TC_peek_69 : decode b_TC_peek 69 = .ok (.getfield 16, 3) := by decide +kernel
theorem d_TC_peek_72 : decode b_TC_peek 72 = .ok (.iload_n 1, 1) := by decide +kernel
theorem d_TC_peek_73 : decode b_TC_peek 73 = .ok (.invokevirtual 74, 3) := by decide +kernel
theorem d_TC_peek_76 : decode b_TC_peek 76 = .ok (.ireturn, 1) := by decide +kernel
theorem d_Way_get_0 : decode b_Way_get 0 = .ok (.iload_n 1, 1) := by decide +kernel
theorem d_Way_get_1 : decode b_Way_get 1 = .ok (.iconst 1, 1) := by decide +kernel
theorem d_Way_get_2 : decode b_Way_get 2 = .ok (.iand, 1) := by decide +kernel
theorem d_Way_get_3 : decode b_Way_get 3 = .ok (.ifCond .ne 10, 3) := by decide +kernel
theorem d_Way_get_6 : decode b_Way_get 6 = .ok (.aload_n 0, 1) := by decide +kernel
theorem d_Way_get_7 : decode b_Way_get 7 = .ok (.getfield 7, 3) := by decide +kernel
theorem d_Way_get_10 : decode b_Way_get 10 = .ok (.goto 7, 3) := by decide +kernel
theorem d_Way_get_13 : decode b_Way_get 13 = .ok (.aload_n 0, 1) := by decide +kernel
theorem d_Way_get_14 : decode b_Way_get 14 = .ok (.getfield 13, 3) := by decide +kernel
theorem d_Way_get_17 : decode b_Way_get 17 = .ok (.ireturn, 1) := by decide +kernel
theorem d_Store_get_0 : decode b_Store_get 0 = .ok (.aload_n 0, 1) := by decide +kernel
theorem d_Store_get_1 : decode b_Store_get 1 = .ok (.getfield 9, 3) := by decide +kernel
theorem d_Store_get_4 : decode b_Store_get 4 = .ok (.iload_n 1, 1) := by decide +kernel
theorem d_Store_get_5 : decode b_Store_get 5 = .ok (.bipush 63, 2) := by decide +kernel
theorem d_Store_get_7 : decode b_Store_get 7 = .ok (.iand, 1) := by decide +kernel
theorem d_Store_get_8 : decode b_Store_get 8 = .ok (.iaload, 1) := by decide +kernel
theorem d_Store_get_9 : decode b_Store_get 9 = .ok (.ireturn, 1) := by decide +kernel
theorem d_TC_memory_0 : decode b_TC_memory 0 = .ok (.aload_n 0, 1) := by decide +kernel
theorem d_TC_memory_1 : decode b_TC_memory 1 = .ok (.getfield 16, 3) := by decide +kernel
theorem d_TC_memory_4 : decode b_TC_memory 4 = .ok (.iload_n 1, 1) := by decide +kernel
theorem d_TC_memory_5 : decode b_TC_memory 5 = .ok (.invokevirtual 74, 3) := by decide +kernel
theorem d_TC_memory_8 : decode b_TC_memory 8 = .ok (.ireturn, 1) := by decide +kernel
theorem d_TC_requests_0 : decode b_TC_requests 0 = .ok (.aload_n 0, 1) := by decide +kernel
theorem d_TC_requests_1 : decode b_TC_requests 1 = .ok (.getfield 123, 3) := by decide +kernel
theorem d_TC_requests_4 : decode b_TC_requests 4 = .ok (.ireturn, 1) := by decide +kernel
theorem d_TC_code_0 : decode b_TC_code 0 = .ok (.iload_n 1, 1) := by decide +kernel
theorem d_TC_code_1 : decode b_TC_code 1 = .ok (.aload_n 0, 1) := by decide +kernel
theorem d_TC_code_2 : decode b_TC_code 2 = .ok (.getfield 22, 3) := by decide +kernel
theorem d_TC_code_5 : decode b_TC_code 5 = .ok (.arraylength, 1) := by decide +kernel
theorem d_TC_code_6 : decode b_TC_code 6 = .ok (.invokestatic 37, 3) := by decide +kernel
theorem d_TC_code_9 : decode b_TC_code 9 = .ok (.iload_n 2, 1) := by decide +kernel
theorem d_TC_code_10 : decode b_TC_code 10 = .ok (.bipush 16, 2) := by decide +kernel
theorem d_TC_code_12 : decode b_TC_code 12 = .ok (.invokestatic 37, 3) := by decide +kernel
theorem d_TC_code_15 : decode b_TC_code 15 = .ok (.aload_n 0, 1) := by decide +kernel
theorem d_TC_code_16 : decode b_TC_code 16 = .ok (.getfield 22, 3) := by decide +kernel
theorem d_TC_code_19 : decode b_TC_code 19 = .ok (.iload_n 1, 1) := by decide +kernel
theorem d_TC_code_20 : decode b_TC_code 20 = .ok (.aaload, 1) := by decide +kernel
theorem d_TC_code_21 : decode b_TC_code 21 = .ok (.getfield 40, 3) := by decide +kernel
theorem d_TC_code_24 : decode b_TC_code 24 = .ok (.iload_n 2, 1) := by decide +kernel
theorem d_TC_code_25 : decode b_TC_code 25 = .ok (.iload_n 3, 1) := by decide +kernel
theorem d_TC_code_26 : decode b_TC_code 26 = .ok (.iastore, 1) := by decide +kernel
theorem d_TC_code_27 : decode b_TC_code 27 = .ok (.return_, 1) := by decide +kernel
theorem d_TC_checkThere_0 : decode b_TC_checkThere 0 = .ok (.iload_n 0, 1) := by decide +kernel
theorem d_TC_checkThere_1 : decode b_TC_checkThere 1 = .ok (.ifCond .lt 8, 3) := by decide +kernel
theorem d_TC_checkThere_4 : decode b_TC_checkThere 4 = .ok (.iload_n 0, 1) := by decide +kernel
theorem d_TC_checkThere_5 : decode b_TC_checkThere 5 = .ok (.iload_n 1, 1) := by decide +kernel
theorem d_TC_checkThere_6 : decode b_TC_checkThere 6 = .ok (.if_icmp .lt 13, 3) := by decide +kernel
theorem d_TC_checkThere_9 : decode b_TC_checkThere 9 = .ok (.new 126, 3) := by decide +kernel
theorem d_TC_checkThere_12 : decode b_TC_checkThere 12 = .ok (.dup, 1) := by decide +kernel
theorem d_TC_checkThere_13 : decode b_TC_checkThere 13 = .ok (.ldc 128, 2) := by decide +kernel
theorem d_TC_checkThere_15 : decode b_TC_checkThere 15 = .ok (.invokespecial 130, 3) := by decide +kernel
theorem d_TC_checkThere_18 : decode b_TC_checkThere 18 = .ok (.athrow, 1) := by decide +kernel
theorem d_TC_checkThere_19 : decode b_TC_checkThere 19 = .ok (.return_, 1) := by decide +kernel
theorem d_TC_step_0 : decode b_TC_step 0 = .ok (.iload_n 1, 1) := by decide +kernel
theorem d_TC_step_1 : decode b_TC_step 1 = .ok (.aload_n 0, 1) := by decide +kernel
theorem d_TC_step_2 : decode b_TC_step 2 = .ok (.getfield 22, 3) := by decide +kernel
theorem d_TC_step_5 : decode b_TC_step 5 = .ok (.arraylength, 1) := by decide +kernel
theorem d_TC_step_6 : decode b_TC_step 6 = .ok (.invokestatic 37, 3) := by decide +kernel
theorem d_TC_step_9 : decode b_TC_step 9 = .ok (.aload_n 0, 1) := by decide +kernel
theorem d_TC_step_10 : decode b_TC_step 10 = .ok (.aload_n 0, 1) := by decide +kernel
theorem d_TC_step_11 : decode b_TC_step 11 = .ok (.getfield 22, 3) := by decide +kernel
theorem d_TC_step_14 : decode b_TC_step 14 = .ok (.iload_n 1, 1) := by decide +kernel
theorem d_TC_step_15 : decode b_TC_step 15 = .ok (.aaload, 1) := by decide +kernel
theorem d_TC_step_16 : decode b_TC_step 16 = .ok (.invokevirtual 75, 3) := by decide +kernel
theorem d_TC_step_19 : decode b_TC_step 19 = .ok (.ireturn, 1) := by decide +kernel
theorem d_TC_takeStep_0 : decode b_TC_takeStep 0 = .ok (.aload_n 1, 1) := by decide +kernel
theorem d_TC_takeStep_1 : decode b_TC_takeStep 1 = .ok (.getfield 100, 3) := by decide +kernel
theorem d_TC_takeStep_4 : decode b_TC_takeStep 4 = .ok (.ifCond .eq 5, 3) := by decide +kernel
theorem d_TC_takeStep_7 : decode b_TC_takeStep 7 = .ok (.iconst 0, 1) := by decide +kernel
theorem d_TC_takeStep_8 : decode b_TC_takeStep 8 = .ok (.ireturn, 1) := by decide +kernel
theorem d_TC_takeStep_9 : decode b_TC_takeStep 9 = .ok (.aload_n 1, 1) := by decide +kernel
theorem d_TC_takeStep_10 : decode b_TC_takeStep 10 = .ok (.getfield 97, 3) := by decide +kernel
theorem d_TC_takeStep_13 : decode b_TC_takeStep 13 = .ok (.istore_n 2, 1) := by decide +kernel
theorem d_TC_takeStep_14 : decode b_TC_takeStep 14 = .ok (.aload_n 1, 1) := by decide +kernel
theorem d_TC_takeStep_15 : decode b_TC_takeStep 15 = .ok (.getfield 40, 3) := by decide +kernel
theorem d_TC_takeStep_18 : decode b_TC_takeStep 18 = .ok (.iload_n 2, 1) := by decide +kernel
theorem d_TC_takeStep_19 : decode b_TC_takeStep 19 = .ok (.iaload, 1) := by decide +kernel
theorem d_TC_takeStep_20 : decode b_TC_takeStep 20 = .ok (.istore_n 3, 1) := by decide +kernel
theorem d_TC_takeStep_21 : decode b_TC_takeStep 21 = .ok (.aload_n 1, 1) := by decide +kernel
theorem d_TC_takeStep_22 : decode b_TC_takeStep 22 = .ok (.iload_n 2, 1) := by decide +kernel
theorem d_TC_takeStep_23 : decode b_TC_takeStep 23 = .ok (.iconst 1, 1) := by decide +kernel
theorem d_TC_takeStep_24 : decode b_TC_takeStep 24 = .ok (.iadd, 1) := by decide +kernel
theorem d_TC_takeStep_25 : decode b_TC_takeStep 25 = .ok (.invokestatic 94, 3) := by decide +kernel
theorem d_TC_takeStep_28 : decode b_TC_takeStep 28 = .ok (.putfield 97, 3) := by decide +kernel
theorem d_TC_takeStep_31 : decode b_TC_takeStep 31 = .ok (.iload_n 3, 1) := by decide +kernel
theorem d_TC_takeStep_32 : decode b_TC_takeStep 32 = .ok (.invokestatic 143, 3) := by decide +kernel
theorem d_TC_takeStep_35 : decode b_TC_takeStep 35 = .ok (.tableswitch 142 0 13 #[69, 76, 76, 76, 76, 83, 90, 97, 97, 104, 113, 133, 76, 76], 69) := by decide +kernel
theorem d_TC_takeStep_104 : decode b_TC_takeStep 104 = .ok (.aload_n 1, 1) := by decide +kernel
theorem d_TC_takeStep_105 : decode b_TC_takeStep 105 = .ok (.iload_n 2, 1) := by decide +kernel
theorem d_TC_takeStep_106 : decode b_TC_takeStep 106 = .ok (.putfield 97, 3) := by decide +kernel
theorem d_TC_takeStep_109 : decode b_TC_takeStep 109 = .ok (.iconst 1, 1) := by decide +kernel
theorem d_TC_takeStep_110 : decode b_TC_takeStep 110 = .ok (.ireturn, 1) := by decide +kernel
theorem d_TC_takeStep_111 : decode b_TC_takeStep 111 = .ok (.aload_n 1, 1) := by decide +kernel
theorem d_TC_takeStep_112 : decode b_TC_takeStep 112 = .ok (.iload_n 3, 1) := by decide +kernel
theorem d_TC_takeStep_113 : decode b_TC_takeStep 113 = .ok (.invokevirtual 146, 3) := by decide +kernel
theorem d_TC_takeStep_116 : decode b_TC_takeStep 116 = .ok (.iconst 4, 1) := by decide +kernel
theorem d_TC_takeStep_117 : decode b_TC_takeStep 117 = .ok (.ireturn, 1) := by decide +kernel
theorem d_TC_takeStep_118 : decode b_TC_takeStep 118 = .ok (.aload_n 0, 1) := by decide +kernel
theorem d_TC_takeStep_119 : decode b_TC_takeStep 119 = .ok (.aload_n 1, 1) := by decide +kernel
theorem d_TC_takeStep_120 : decode b_TC_takeStep 120 = .ok (.iload_n 3, 1) := by decide +kernel
theorem d_TC_takeStep_121 : decode b_TC_takeStep 121 = .ok (.invokevirtual 150, 3) := by decide +kernel
theorem d_TC_takeStep_124 : decode b_TC_takeStep 124 = .ok (.ireturn, 1) := by decide +kernel
theorem d_TC_takeStep_125 : decode b_TC_takeStep 125 = .ok (.aload_n 0, 1) := by decide +kernel
theorem d_TC_takeStep_126 : decode b_TC_takeStep 126 = .ok (.aload_n 1, 1) := by decide +kernel
theorem d_TC_takeStep_127 : decode b_TC_takeStep 127 = .ok (.iload_n 3, 1) := by decide +kernel
theorem d_TC_takeStep_128 : decode b_TC_takeStep 128 = .ok (.invokevirtual 154, 3) := by decide +kernel
theorem d_TC_takeStep_131 : decode b_TC_takeStep 131 = .ok (.ireturn, 1) := by decide +kernel
theorem d_TC_takeStep_132 : decode b_TC_takeStep 132 = .ok (.aload_n 1, 1) := by decide +kernel
theorem d_TC_takeStep_133 : decode b_TC_takeStep 133 = .ok (.iload_n 3, 1) := by decide +kernel
theorem d_TC_takeStep_134 : decode b_TC_takeStep 134 = .ok (.invokevirtual 157, 3) := by decide +kernel
theorem d_TC_takeStep_137 : decode b_TC_takeStep 137 = .ok (.iconst 4, 1) := by decide +kernel
theorem d_TC_takeStep_138 : decode b_TC_takeStep 138 = .ok (.ireturn, 1) := by decide +kernel
theorem d_TC_takeStep_139 : decode b_TC_takeStep 139 = .ok (.aload_n 1, 1) := by decide +kernel
theorem d_TC_takeStep_140 : decode b_TC_takeStep 140 = .ok (.iload_n 3, 1) := by decide +kernel
theorem d_TC_takeStep_141 : decode b_TC_takeStep 141 = .ok (.invokestatic 140, 3) := by decide +kernel
theorem d_TC_takeStep_144 : decode b_TC_takeStep 144 = .ok (.invokevirtual 160, 3) := by decide +kernel
theorem d_TC_takeStep_147 : decode b_TC_takeStep 147 = .ok (.ireturn, 1) := by decide +kernel
theorem d_TC_takeStep_148 : decode b_TC_takeStep 148 = .ok (.aload_n 1, 1) := by decide +kernel
theorem d_TC_takeStep_149 : decode b_TC_takeStep 149 = .ok (.getfield 86, 3) := by decide +kernel
theorem d_TC_takeStep_152 : decode b_TC_takeStep 152 = .ok (.ifCond .ne 11, 3) := by decide +kernel
theorem d_TC_takeStep_155 : decode b_TC_takeStep 155 = .ok (.aload_n 1, 1) := by decide +kernel
theorem d_TC_takeStep_156 : decode b_TC_takeStep 156 = .ok (.iload_n 2, 1) := by decide +kernel
theorem d_TC_takeStep_157 : decode b_TC_takeStep 157 = .ok (.invokevirtual 163, 3) := by decide +kernel
theorem d_TC_takeStep_160 : decode b_TC_takeStep 160 = .ok (.goto 7, 3) := by decide +kernel
theorem d_TC_takeStep_163 : decode b_TC_takeStep 163 = .ok (.aload_n 1, 1) := by decide +kernel
theorem d_TC_takeStep_164 : decode b_TC_takeStep 164 = .ok (.invokevirtual 166, 3) := by decide +kernel
theorem d_TC_takeStep_167 : decode b_TC_takeStep 167 = .ok (.ireturn, 1) := by decide +kernel
theorem d_TC_takeStep_168 : decode b_TC_takeStep 168 = .ok (.aload_n 1, 1) := by decide +kernel
theorem d_TC_takeStep_169 : decode b_TC_takeStep 169 = .ok (.iload_n 3, 1) := by decide +kernel
theorem d_TC_takeStep_170 : decode b_TC_takeStep 170 = .ok (.invokestatic 140, 3) := by decide +kernel
theorem d_TC_takeStep_173 : decode b_TC_takeStep 173 = .ok (.invokevirtual 170, 3) := by decide +kernel
theorem d_TC_takeStep_176 : decode b_TC_takeStep 176 = .ok (.ireturn, 1) := by decide +kernel
theorem d_TC_takeStep_177 : decode b_TC_takeStep 177 = .ok (.aload_n 1, 1) := by decide +kernel
theorem d_TC_takeStep_178 : decode b_TC_takeStep 178 = .ok (.iload_n 2, 1) := by decide +kernel
theorem d_TC_takeStep_179 : decode b_TC_takeStep 179 = .ok (.invokevirtual 163, 3) := by decide +kernel
theorem d_TC_takeStep_182 : decode b_TC_takeStep 182 = .ok (.ireturn, 1) := by decide +kernel
theorem d_TC_place_0 : decode b_TC_place 0 = .ok (.iload_n 0, 1) := by decide +kernel
theorem d_TC_place_1 : decode b_TC_place 1 = .ok (.bipush 15, 2) := by decide +kernel
theorem d_TC_place_3 : decode b_TC_place 3 = .ok (.iand, 1) := by decide +kernel
theorem d_TC_place_4 : decode b_TC_place 4 = .ok (.ireturn, 1) := by decide +kernel
theorem d_TC_kindOf_0 : decode b_TC_kindOf 0 = .ok (.iload_n 0, 1) := by decide +kernel
theorem d_TC_kindOf_1 : decode b_TC_kindOf 1 = .ok (.bipush 15, 2) := by decide +kernel
theorem d_TC_kindOf_3 : decode b_TC_kindOf 3 = .ok (.iand, 1) := by decide +kernel
theorem d_TC_kindOf_4 : decode b_TC_kindOf 4 = .ok (.ireturn, 1) := by decide +kernel
theorem d_Core_reckon_0 : decode b_Core_reckon 0 = .ok (.aload_n 0, 1) := by decide +kernel
theorem d_Core_reckon_1 : decode b_Core_reckon 1 = .ok (.getfield 15, 3) := by decide +kernel
theorem d_Core_reckon_4 : decode b_Core_reckon 4 = .ok (.iload_n 1, 1) := by decide +kernel
theorem d_Core_reckon_5 : decode b_Core_reckon 5 = .ok (.invokestatic 32, 3) := by decide +kernel
theorem d_Core_reckon_8 : decode b_Core_reckon 8 = .ok (.iaload, 1) := by decide +kernel
theorem d_Core_reckon_9 : decode b_Core_reckon 9 = .ok (.istore_n 2, 1) := by decide +kernel
theorem d_Core_reckon_10 : decode b_Core_reckon 10 = .ok (.aload_n 0, 1) := by decide +kernel
theorem d_Core_reckon_11 : decode b_Core_reckon 11 = .ok (.getfield 15, 3) := by decide +kernel
theorem d_Core_reckon_14 : decode b_Core_reckon 14 = .ok (.iload_n 1, 1) := by decide +kernel
theorem d_Core_reckon_15 : decode b_Core_reckon 15 = .ok (.invokestatic 36, 3) := by decide +kernel
theorem d_Core_reckon_18 : decode b_Core_reckon 18 = .ok (.iaload, 1) := by decide +kernel
theorem d_Core_reckon_19 : decode b_Core_reckon 19 = .ok (.istore_n 3, 1) := by decide +kernel
theorem d_Core_reckon_20 : decode b_Core_reckon 20 = .ok (.iload_n 1, 1) := by decide +kernel
theorem d_Core_reckon_21 : decode b_Core_reckon 21 = .ok (.invokestatic 39, 3) := by decide +kernel
theorem d_Core_reckon_24 : decode b_Core_reckon 24 = .ok (.istore 4, 2) := by decide +kernel
theorem d_Core_reckon_26 : decode b_Core_reckon 26 = .ok (.iload_n 1, 1) := by decide +kernel
theorem d_Core_reckon_27 : decode b_Core_reckon 27 = .ok (.invokestatic 42, 3) := by decide +kernel
theorem d_Core_reckon_30 : decode b_Core_reckon 30 = .ok (.tableswitch 129 1 12 #[62, 76, 89, 102, 129, 129, 129, 129, 129, 129, 129, 115], 62) := by decide +kernel
theorem d_Core_reckon_92 : decode b_Core_reckon 92 = .ok (.aload_n 0, 1) := by decide +kernel
theorem d_Core_reckon_93 : decode b_Core_reckon 93 = .ok (.getfield 15, 3) := by decide +kernel
theorem d_Core_reckon_96 : decode b_Core_reckon 96 = .ok (.iload 4, 2) := by decide +kernel
theorem d_Core_reckon_98 : decode b_Core_reckon 98 = .ok (.iload_n 1, 1) := by decide +kernel
theorem d_Core_reckon_99 : decode b_Core_reckon 99 = .ok (.invokestatic 45, 3) := by decide +kernel
theorem d_Core_reckon_102 : decode b_Core_reckon 102 = .ok (.iastore, 1) := by decide +kernel
theorem d_Core_reckon_103 : decode b_Core_reckon 103 = .ok (.goto 67, 3) := by decide +kernel
theorem d_Core_reckon_106 : decode b_Core_reckon 106 = .ok (.aload_n 0, 1) := by decide +kernel
theorem d_Core_reckon_107 : decode b_Core_reckon 107 = .ok (.getfield 15, 3) := by decide +kernel
theorem d_Core_reckon_110 : decode b_Core_reckon 110 = .ok (.iload 4, 2) := by decide +kernel
theorem d_Core_reckon_112 : decode b_Core_reckon 112 = .ok (.iload_n 2, 1) := by decide +kernel
theorem d_Core_reckon_113 : decode b_Core_reckon 113 = .ok (.iload_n 3, 1) := by decide +kernel
theorem d_Core_reckon_114 : decode b_Core_reckon 114 = .ok (.iadd, 1) := by decide +kernel
theorem d_Core_reckon_115 : decode b_Core_reckon 115 = .ok (.iastore, 1) := by decide +kernel
theorem d_Core_reckon_116 : decode b_Core_reckon 116 = .ok (.goto 54, 3) := by decide +kernel
theorem d_Core_reckon_119 : decode b_Core_reckon 119 = .ok (.aload_n 0, 1) := by decide +kernel
theorem d_Core_reckon_120 : decode b_Core_reckon 120 = .ok (.getfield 15, 3) := by decide +kernel
theorem d_Core_reckon_123 : decode b_Core_reckon 123 = .ok (.iload 4, 2) := by decide +kernel
theorem d_Core_reckon_125 : decode b_Core_reckon 125 = .ok (.iload_n 2, 1) := by decide +kernel
theorem d_Core_reckon_126 : decode b_Core_reckon 126 = .ok (.iload_n 3, 1) := by decide +kernel
theorem d_Core_reckon_127 : decode b_Core_reckon 127 = .ok (.isub, 1) := by decide +kernel
theorem d_Core_reckon_128 : decode b_Core_reckon 128 = .ok (.iastore, 1) := by decide +kernel
theorem d_Core_reckon_129 : decode b_Core_reckon 129 = .ok (.goto 41, 3) := by decide +kernel
theorem d_Core_reckon_132 : decode b_Core_reckon 132 = .ok (.aload_n 0, 1) := by decide +kernel
theorem d_Core_reckon_133 : decode b_Core_reckon 133 = .ok (.getfield 15, 3) := by decide +kernel
theorem d_Core_reckon_136 : decode b_Core_reckon 136 = .ok (.iload 4, 2) := by decide +kernel
theorem d_Core_reckon_138 : decode b_Core_reckon 138 = .ok (.iload_n 2, 1) := by decide +kernel
theorem d_Core_reckon_139 : decode b_Core_reckon 139 = .ok (.iload_n 3, 1) := by decide +kernel
theorem d_Core_reckon_140 : decode b_Core_reckon 140 = .ok (.iand, 1) := by decide +kernel
theorem d_Core_reckon_141 : decode b_Core_reckon 141 = .ok (.iastore, 1) := by decide +kernel
theorem d_Core_reckon_142 : decode b_Core_reckon 142 = .ok (.goto 28, 3) := by decide +kernel
theorem d_Core_reckon_145 : decode b_Core_reckon 145 = .ok (.aload_n 0, 1) := by decide +kernel
theorem d_Core_reckon_146 : decode b_Core_reckon 146 = .ok (.getfield 15, 3) := by decide +kernel
theorem d_Core_reckon_149 : decode b_Core_reckon 149 = .ok (.iload 4, 2) := by decide +kernel
theorem d_Core_reckon_151 : decode b_Core_reckon 151 = .ok (.aload_n 0, 1) := by decide +kernel
theorem d_Core_reckon_152 : decode b_Core_reckon 152 = .ok (.getfield 48, 3) := by decide +kernel
theorem d_Core_reckon_155 : decode b_Core_reckon 155 = .ok (.iastore, 1) := by decide +kernel
theorem d_Core_reckon_156 : decode b_Core_reckon 156 = .ok (.goto 14, 3) := by decide +kernel
theorem d_Core_reckon_159 : decode b_Core_reckon 159 = .ok (.aload_n 0, 1) := by decide +kernel
theorem d_Core_reckon_160 : decode b_Core_reckon 160 = .ok (.getfield 15, 3) := by decide +kernel
theorem d_Core_reckon_163 : decode b_Core_reckon 163 = .ok (.iload 4, 2) := by decide +kernel
theorem d_Core_reckon_165 : decode b_Core_reckon 165 = .ok (.aload_n 0, 1) := by decide +kernel
theorem d_Core_reckon_166 : decode b_Core_reckon 166 = .ok (.getfield 24, 3) := by decide +kernel
theorem d_Core_reckon_169 : decode b_Core_reckon 169 = .ok (.iastore, 1) := by decide +kernel
theorem d_Core_reckon_170 : decode b_Core_reckon 170 = .ok (.return_, 1) := by decide +kernel
theorem d_TC_registerB_0 : decode b_TC_registerB 0 = .ok (.iload_n 0, 1) := by decide +kernel
theorem d_TC_registerB_1 : decode b_TC_registerB 1 = .ok (.bipush 7, 2) := by decide +kernel
theorem d_TC_registerB_3 : decode b_TC_registerB 3 = .ok (.ishr, 1) := by decide +kernel
theorem d_TC_registerB_4 : decode b_TC_registerB 4 = .ok (.bipush 7, 2) := by decide +kernel
theorem d_TC_registerB_6 : decode b_TC_registerB 6 = .ok (.iand, 1) := by decide +kernel
theorem d_TC_registerB_7 : decode b_TC_registerB 7 = .ok (.ireturn, 1) := by decide +kernel
theorem d_TC_registerC_0 : decode b_TC_registerC 0 = .ok (.iload_n 0, 1) := by decide +kernel
theorem d_TC_registerC_1 : decode b_TC_registerC 1 = .ok (.invokestatic 140, 3) := by decide +kernel
theorem d_TC_registerC_4 : decode b_TC_registerC 4 = .ok (.bipush 7, 2) := by decide +kernel
theorem d_TC_registerC_6 : decode b_TC_registerC 6 = .ok (.iand, 1) := by decide +kernel
theorem d_TC_registerC_7 : decode b_TC_registerC 7 = .ok (.ireturn, 1) := by decide +kernel
theorem d_TC_immediateOf_0 : decode b_TC_immediateOf 0 = .ok (.iload_n 0, 1) := by decide +kernel
theorem d_TC_immediateOf_1 : decode b_TC_immediateOf 1 = .ok (.bipush 11, 2) := by decide +kernel
theorem d_TC_immediateOf_3 : decode b_TC_immediateOf 3 = .ok (.ishr, 1) := by decide +kernel
theorem d_TC_immediateOf_4 : decode b_TC_immediateOf 4 = .ok (.ireturn, 1) := by decide +kernel
theorem d_TC_registerA_0 : decode b_TC_registerA 0 = .ok (.iload_n 0, 1) := by decide +kernel
theorem d_TC_registerA_1 : decode b_TC_registerA 1 = .ok (.iconst 4, 1) := by decide +kernel
theorem d_TC_registerA_2 : decode b_TC_registerA 2 = .ok (.ishr, 1) := by decide +kernel
theorem d_TC_registerA_3 : decode b_TC_registerA 3 = .ok (.bipush 7, 2) := by decide +kernel
theorem d_TC_registerA_5 : decode b_TC_registerA 5 = .ok (.iand, 1) := by decide +kernel
theorem d_TC_registerA_6 : decode b_TC_registerA 6 = .ok (.ireturn, 1) := by decide +kernel
theorem d_TC_load_0 : decode b_TC_load 0 = .ok (.aload_n 1, 1) := by decide +kernel
theorem d_TC_load_1 : decode b_TC_load 1 = .ok (.iload_n 2, 1) := by decide +kernel
theorem d_TC_load_2 : decode b_TC_load 2 = .ok (.invokevirtual 173, 3) := by decide +kernel
theorem d_TC_load_5 : decode b_TC_load 5 = .ok (.istore_n 3, 1) := by decide +kernel
theorem d_TC_load_6 : decode b_TC_load 6 = .ok (.aload_n 0, 1) := by decide +kernel
theorem d_TC_load_7 : decode b_TC_load 7 = .ok (.aload_n 1, 1) := by decide +kernel
theorem d_TC_load_8 : decode b_TC_load 8 = .ok (.iload_n 3, 1) := by decide +kernel
theorem d_TC_load_9 : decode b_TC_load 9 = .ok (.invokestatic 44, 3) := by decide +kernel
theorem d_TC_load_12 : decode b_TC_load 12 = .ok (.iconst 0, 1) := by decide +kernel
theorem d_TC_load_13 : decode b_TC_load 13 = .ok (.invokevirtual 176, 3) := by decide +kernel
theorem d_TC_load_16 : decode b_TC_load 16 = .ok (.astore 4, 2) := by decide +kernel
theorem d_TC_load_18 : decode b_TC_load 18 = .ok (.aload 4, 2) := by decide +kernel
theorem d_TC_load_20 : decode b_TC_load 20 = .ok (.ifnonnull 5, 3) := by decide +kernel
theorem d_TC_load_23 : decode b_TC_load 23 = .ok (.iconst 2, 1) := by decide +kernel
theorem d_TC_load_24 : decode b_TC_load 24 = .ok (.ireturn, 1) := by decide +kernel
theorem d_TC_load_25 : decode b_TC_load 25 = .ok (.aload_n 1, 1) := by decide +kernel
theorem d_TC_load_26 : decode b_TC_load 26 = .ok (.getfield 104, 3) := by decide +kernel
theorem d_TC_load_29 : decode b_TC_load 29 = .ok (.iload_n 2, 1) := by decide +kernel
theorem d_TC_load_30 : decode b_TC_load 30 = .ok (.invokestatic 180, 3) := by decide +kernel
theorem d_TC_load_33 : decode b_TC_load 33 = .ok (.aload 4, 2) := by decide +kernel
theorem d_TC_load_35 : decode b_TC_load 35 = .ok (.iload_n 3, 1) := by decide +kernel
theorem d_TC_load_36 : decode b_TC_load 36 = .ok (.invokevirtual 71, 3) := by decide +kernel
theorem d_TC_load_39 : decode b_TC_load 39 = .ok (.iastore, 1) := by decide +kernel
theorem d_TC_load_40 : decode b_TC_load 40 = .ok (.iconst 4, 1) := by decide +kernel
theorem d_TC_load_41 : decode b_TC_load 41 = .ok (.ireturn, 1) := by decide +kernel
theorem d_Core_addressOf_0 : decode b_Core_addressOf 0 = .ok (.aload_n 0, 1) := by decide +kernel
theorem d_Core_addressOf_1 : decode b_Core_addressOf 1 = .ok (.getfield 15, 3) := by decide +kernel
theorem d_Core_addressOf_4 : decode b_Core_addressOf 4 = .ok (.iload_n 1, 1) := by decide +kernel
theorem d_Core_addressOf_5 : decode b_Core_addressOf 5 = .ok (.invokestatic 32, 3) := by decide +kernel
theorem d_Core_addressOf_8 : decode b_Core_addressOf 8 = .ok (.iaload, 1) := by decide +kernel
theorem d_Core_addressOf_9 : decode b_Core_addressOf 9 = .ok (.iload_n 1, 1) := by decide +kernel
theorem d_Core_addressOf_10 : decode b_Core_addressOf 10 = .ok (.invokestatic 45, 3) := by decide +kernel
theorem d_Core_addressOf_13 : decode b_Core_addressOf 13 = .ok (.iadd, 1) := by decide +kernel
theorem d_Core_addressOf_14 : decode b_Core_addressOf 14 = .ok (.ireturn, 1) := by decide +kernel
theorem d_TC_access_0 : decode b_TC_access 0 = .ok (.aload_n 1, 1) := by decide +kernel
theorem d_TC_access_1 : decode b_TC_access 1 = .ok (.getfield 54, 3) := by decide +kernel
theorem d_TC_access_4 : decode b_TC_access 4 = .ok (.iload_n 2, 1) := by decide +kernel
theorem d_TC_access_5 : decode b_TC_access 5 = .ok (.invokevirtual 58, 3) := by decide +kernel
theorem d_TC_access_8 : decode b_TC_access 8 = .ok (.astore 4, 2) := by decide +kernel
theorem d_TC_access_10 : decode b_TC_access 10 = .ok (.aload 4, 2) := by decide +kernel
theorem d_TC_access_12 : decode b_TC_access 12 = .ok (.ifnull 8, 3) := by decide +kernel
theorem d_TC_access_15 : decode b_TC_access 15 = .ok (.aload 4, 2) := by decide +kernel
theorem d_TC_access_17 : decode b_TC_access 17 = .ok (.goto 11, 3) := by decide +kernel
theorem d_TC_access_20 : decode b_TC_access 20 = .ok (.aload_n 1, 1) := by decide +kernel
theorem d_TC_access_21 : decode b_TC_access 21 = .ok (.getfield 54, 3) := by decide +kernel
theorem d_TC_access_24 : decode b_TC_access 24 = .ok (.iload_n 2, 1) := by decide +kernel
theorem d_TC_access_25 : decode b_TC_access 25 = .ok (.invokevirtual 184, 3) := by decide +kernel
theorem d_TC_access_28 : decode b_TC_access 28 = .ok (.astore 5, 2) := by decide +kernel
theorem d_TC_access_30 : decode b_TC_access 30 = .ok (.aload 5, 2) := by decide +kernel
theorem d_TC_access_32 : decode b_TC_access 32 = .ok (.ifnonnull 12, 3) := by decide +kernel
theorem d_TC_access_35 : decode b_TC_access 35 = .ok (.aload_n 1, 1) := by decide +kernel
theorem d_TC_access_36 : decode b_TC_access 36 = .ok (.iconst 2, 1) := by decide +kernel
theorem d_TC_access_37 : decode b_TC_access 37 = .ok (.iconst 0, 1) := by decide +kernel
theorem d_TC_access_38 : decode b_TC_access 38 = .ok (.invokevirtual 187, 3) := by decide +kernel
theorem d_TC_access_41 : decode b_TC_access 41 = .ok (.pop, 1) := by decide +kernel
theorem d_TC_access_42 : decode b_TC_access 42 = .ok (.aconst_null, 1) := by decide +kernel
theorem d_TC_access_43 : decode b_TC_access 43 = .ok (.areturn, 1) := by decide +kernel
theorem d_TC_access_44 : decode b_TC_access 44 = .ok (.aload 4, 2) := by decide +kernel
theorem d_TC_access_46 : decode b_TC_access 46 = .ok (.ifnull 16, 3) := by decide +kernel
theorem d_TC_access_49 : decode b_TC_access 49 = .ok (.iload_n 3, 1) := by decide +kernel
theorem d_TC_access_50 : decode b_TC_access 50 = .ok (.ifCond .eq 32, 3) := by decide +kernel
theorem d_TC_access_53 : decode b_TC_access 53 = .ok (.aload 4, 2) := by decide +kernel
theorem d_TC_access_55 : decode b_TC_access 55 = .ok (.getfield 62, 3) := by decide +kernel
theorem d_TC_access_58 : decode b_TC_access 58 = .ok (.iconst 2, 1) := by decide +kernel
theorem d_TC_access_59 : decode b_TC_access 59 = .ok (.if_icmp .eq 23, 3) := by decide +kernel
theorem d_TC_access_62 : decode b_TC_access 62 = .ok (.aload_n 0, 1) := by decide +kernel
theorem d_TC_access_63 : decode b_TC_access 63 = .ok (.dup, 1) := by decide +kernel
theorem d_TC_access_64 : decode b_TC_access 64 = .ok (.getfield 123, 3) := by decide +kernel
theorem d_TC_access_67 : decode b_TC_access 67 = .ok (.iconst 1, 1) := by decide +kernel
theorem d_TC_access_68 : decode b_TC_access 68 = .ok (.iadd, 1) := by decide +kernel
theorem d_TC_access_69 : decode b_TC_access 69 = .ok (.putfield 123, 3) := by decide +kernel
theorem d_TC_access_72 : decode b_TC_access 72 = .ok (.aload_n 0, 1) := by decide +kernel
theorem d_TC_access_73 : decode b_TC_access 73 = .ok (.aload_n 1, 1) := by decide +kernel
theorem d_TC_access_74 : decode b_TC_access 74 = .ok (.getfield 190, 3) := by decide +kernel
theorem d_TC_access_77 : decode b_TC_access 77 = .ok (.iload_n 2, 1) := by decide +kernel
theorem d_TC_access_78 : decode b_TC_access 78 = .ok (.iload_n 3, 1) := by decide +kernel
theorem d_TC_access_79 : decode b_TC_access 79 = .ok (.invokevirtual 47, 3) := by decide +kernel
theorem d_TC_access_82 : decode b_TC_access 82 = .ok (.aload 4, 2) := by decide +kernel
theorem d_TC_access_84 : decode b_TC_access 84 = .ok (.ifnonnull 10, 3) := by decide +kernel
theorem d_TC_access_87 : decode b_TC_access 87 = .ok (.aload_n 0, 1) := by decide +kernel
theorem d_TC_access_88 : decode b_TC_access 88 = .ok (.aload 5, 2) := by decide +kernel
theorem d_TC_access_90 : decode b_TC_access 90 = .ok (.iload_n 2, 1) := by decide +kernel
theorem d_TC_access_91 : decode b_TC_access 91 = .ok (.invokevirtual 193, 3) := by decide +kernel
theorem d_TC_access_94 : decode b_TC_access 94 = .ok (.iload_n 3, 1) := by decide +kernel
theorem d_TC_access_95 : decode b_TC_access 95 = .ok (.ifCond .eq 21, 3) := by decide +kernel
theorem d_TC_access_98 : decode b_TC_access 98 = .ok (.aload_n 0, 1) := by decide +kernel
theorem d_TC_access_99 : decode b_TC_access 99 = .ok (.aload 5, 2) := by decide +kernel
theorem d_TC_access_101 : decode b_TC_access 101 = .ok (.aload_n 1, 1) := by decide +kernel
theorem d_TC_access_102 : decode b_TC_access 102 = .ok (.getfield 86, 3) := by decide +kernel
theorem d_TC_access_105 : decode b_TC_access 105 = .ok (.ifCond .le 7, 3) := by decide +kernel
theorem d_TC_access_108 : decode b_TC_access 108 = .ok (.iconst 1, 1) := by decide +kernel
theorem d_TC_access_109 : decode b_TC_access 109 = .ok (.goto 4, 3) := by decide +kernel
theorem d_TC_access_112 : decode b_TC_access 112 = .ok (.iconst 0, 1) := by decide +kernel
theorem d_TC_access_113 : decode b_TC_access 113 = .ok (.invokevirtual 197, 3) := by decide +kernel
theorem d_TC_access_116 : decode b_TC_access 116 = .ok (.aload_n 1, 1) := by decide +kernel
theorem d_TC_access_117 : decode b_TC_access 117 = .ok (.getfield 86, 3) := by decide +kernel
theorem d_TC_access_120 : decode b_TC_access 120 = .ok (.ifCond .le 22, 3) := by decide +kernel
theorem d_TC_access_123 : decode b_TC_access 123 = .ok (.aload 5, 2) := by decide +kernel
theorem d_TC_access_125 : decode b_TC_access 125 = .ok (.dup, 1) := by decide +kernel
theorem d_TC_access_126 : decode b_TC_access 126 = .ok (.getfield 68, 3) := by decide +kernel
theorem d_TC_access_129 : decode b_TC_access 129 = .ok (.iload_n 3, 1) := by decide +kernel
theorem d_TC_access_130 : decode b_TC_access 130 = .ok (.ifCond .eq 7, 3) := by decide +kernel
theorem d_TC_access_133 : decode b_TC_access 133 = .ok (.iconst 2, 1) := by decide +kernel
theorem d_TC_access_134 : decode b_TC_access 134 = .ok (.goto 4, 3) := by decide +kernel
theorem d_TC_access_137 : decode b_TC_access 137 = .ok (.iconst 1, 1) := by decide +kernel
theorem d_TC_access_138 : decode b_TC_access 138 = .ok (.ior, 1) := by decide +kernel
theorem d_TC_access_139 : decode b_TC_access 139 = .ok (.putfield 68, 3) := by decide +kernel
theorem d_TC_access_142 : decode b_TC_access 142 = .ok (.aload_n 0, 1) := by decide +kernel
theorem d_TC_access_143 : decode b_TC_access 143 = .ok (.dup, 1) := by decide +kernel
theorem d_TC_access_144 : decode b_TC_access 144 = .ok (.getfield 201, 3) := by decide +kernel
theorem d_TC_access_147 : decode b_TC_access 147 = .ok (.iconst 1, 1) := by decide +kernel
theorem d_TC_access_148 : decode b_TC_access 148 = .ok (.iadd, 1) := by decide +kernel
theorem d_TC_access_149 : decode b_TC_access 149 = .ok (.putfield 201, 3) := by decide +kernel
theorem d_TC_access_152 : decode b_TC_access 152 = .ok (.aload 5, 2) := by decide +kernel
theorem d_TC_access_154 : decode b_TC_access 154 = .ok (.aload_n 0, 1) := by decide +kernel
theorem d_TC_access_155 : decode b_TC_access 155 = .ok (.getfield 201, 3) := by decide +kernel
theorem d_TC_access_158 : decode b_TC_access 158 = .ok (.putfield 204, 3) := by decide +kernel
theorem d_TC_access_161 : decode b_TC_access 161 = .ok (.aload 5, 2) := by decide +kernel
theorem d_TC_access_163 : decode b_TC_access 163 = .ok (.areturn, 1) := by decide +kernel
theorem d_Cache_room_0 : decode b_Cache_room 0 = .ok (.aload_n 0, 1) := by decide +kernel
theorem d_Cache_room_1 : decode b_Cache_room 1 = .ok (.iload_n 1, 1) := by decide +kernel
theorem d_Cache_room_2 : decode b_Cache_room 2 = .ok (.invokevirtual 25, 3) := by decide +kernel
theorem d_Cache_room_5 : decode b_Cache_room 5 = .ok (.istore_n 2, 1) := by decide +kernel
theorem d_Cache_room_6 : decode b_Cache_room 6 = .ok (.aconst_null, 1) := by decide +kernel
theorem d_Cache_room_7 : decode b_Cache_room 7 = .ok (.astore_n 3, 1) := by decide +kernel
theorem d_Cache_room_8 : decode b_Cache_room 8 = .ok (.iload_n 2, 1) := by decide +kernel
theorem d_Cache_room_9 : decode b_Cache_room 9 = .ok (.istore 4, 2) := by decide +kernel
theorem d_Cache_room_11 : decode b_Cache_room 11 = .ok (.iload 4, 2) := by decide +kernel
theorem d_Cache_room_13 : decode b_Cache_room 13 = .ok (.iload_n 2, 1) := by decide +kernel
theorem d_Cache_room_14 : decode b_Cache_room 14 = .ok (.aload_n 0, 1) := by decide +kernel
theorem d_Cache_room_15 : decode b_Cache_room 15 = .ok (.getfield 15, 3) := by decide +kernel
theorem d_Cache_room_18 : decode b_Cache_room 18 = .ok (.iadd, 1) := by decide +kernel
theorem d_Cache_room_19 : decode b_Cache_room 19 = .ok (.if_icmp .ge 56, 3) := by decide +kernel
theorem d_Cache_room_22 : decode b_Cache_room 22 = .ok (.aload_n 0, 1) := by decide +kernel
theorem d_Cache_room_23 : decode b_Cache_room 23 = .ok (.getfield 20, 3) := by decide +kernel
theorem d_Cache_room_26 : decode b_Cache_room 26 = .ok (.iload 4, 2) := by decide +kernel
theorem d_Cache_room_28 : decode b_Cache_room 28 = .ok (.aaload, 1) := by decide +kernel
theorem d_Cache_room_29 : decode b_Cache_room 29 = .ok (.astore 5, 2) := by decide +kernel
theorem d_Cache_room_31 : decode b_Cache_room 31 = .ok (.aload 5, 2) := by decide +kernel
theorem d_Cache_room_33 : decode b_Cache_room 33 = .ok (.getfield 29, 3) := by decide +kernel
theorem d_Cache_room_36 : decode b_Cache_room 36 = .ok (.ifCond .ne 6, 3) := by decide +kernel
theorem d_Cache_room_39 : decode b_Cache_room 39 = .ok (.aload 5, 2) := by decide +kernel
theorem d_Cache_room_41 : decode b_Cache_room 41 = .ok (.areturn, 1) := by decide +kernel
theorem d_Cache_room_42 : decode b_Cache_room 42 = .ok (.aload 5, 2) := by decide +kernel
theorem d_Cache_room_44 : decode b_Cache_room 44 = .ok (.getfield 35, 3) := by decide +kernel
theorem d_Cache_room_47 : decode b_Cache_room 47 = .ok (.ifCond .ne 22, 3) := by decide +kernel
theorem d_Cache_room_50 : decode b_Cache_room 50 = .ok (.aload_n 3, 1) := by decide +kernel
theorem d_Cache_room_51 : decode b_Cache_room 51 = .ok (.ifnull 15, 3) := by decide +kernel
theorem d_Cache_room_54 : decode b_Cache_room 54 = .ok (.aload 5, 2) := by decide +kernel
theorem d_Cache_room_56 : decode b_Cache_room 56 = .ok (.getfield 38, 3) := by decide +kernel
theorem d_Cache_room_59 : decode b_Cache_room 59 = .ok (.aload_n 3, 1) := by decide +kernel
theorem d_Cache_room_60 : decode b_Cache_room 60 = .ok (.getfield 38, 3) := by decide +kernel
theorem d_Cache_room_63 : decode b_Cache_room 63 = .ok (.if_icmp .ge 6, 3) := by decide +kernel
theorem d_Cache_room_66 : decode b_Cache_room 66 = .ok (.aload 5, 2) := by decide +kernel
theorem d_Cache_room_68 : decode b_Cache_room 68 = .ok (.astore_n 3, 1) := by decide +kernel
theorem d_Cache_room_69 : decode b_Cache_room 69 = .ok (.iinc 4 1, 3) := by decide +kernel
theorem d_Cache_room_72 : decode b_Cache_room 72 = .ok (.goto (-61), 3) := by decide +kernel
theorem d_Cache_room_75 : decode b_Cache_room 75 = .ok (.aload_n 3, 1) := by decide +kernel
theorem d_Cache_room_76 : decode b_Cache_room 76 = .ok (.areturn, 1) := by decide +kernel
theorem d_TC_refill_0 : decode b_TC_refill 0 = .ok (.aload_n 1, 1) := by decide +kernel
theorem d_TC_refill_1 : decode b_TC_refill 1 = .ok (.getfield 62, 3) := by decide +kernel
theorem d_TC_refill_4 : decode b_TC_refill 4 = .ok (.iconst 2, 1) := by decide +kernel
theorem d_TC_refill_5 : decode b_TC_refill 5 = .ok (.if_icmp .ne 11, 3) := by decide +kernel
theorem d_TC_refill_8 : decode b_TC_refill 8 = .ok (.aload_n 0, 1) := by decide +kernel
theorem d_TC_refill_9 : decode b_TC_refill 9 = .ok (.getfield 16, 3) := by decide +kernel
theorem d_TC_refill_12 : decode b_TC_refill 12 = .ok (.aload_n 1, 1) := by decide +kernel
theorem d_TC_refill_13 : decode b_TC_refill 13 = .ok (.invokevirtual 207, 3) := by decide +kernel
theorem d_TC_refill_16 : decode b_TC_refill 16 = .ok (.aload_n 0, 1) := by decide +kernel
theorem d_TC_refill_17 : decode b_TC_refill 17 = .ok (.getfield 16, 3) := by decide +kernel
theorem d_TC_refill_20 : decode b_TC_refill 20 = .ok (.aload_n 1, 1) := by decide +kernel
theorem d_TC_refill_21 : decode b_TC_refill 21 = .ok (.iload_n 2, 1) := by decide +kernel
theorem d_TC_refill_22 : decode b_TC_refill 22 = .ok (.invokevirtual 211, 3) := by decide +kernel
theorem d_TC_refill_25 : decode b_TC_refill 25 = .ok (.aload_n 1, 1) := by decide +kernel
theorem d_TC_refill_26 : decode b_TC_refill 26 = .ok (.iconst 1, 1) := by decide +kernel
theorem d_TC_refill_27 : decode b_TC_refill 27 = .ok (.putfield 62, 3) := by decide +kernel
theorem d_TC_refill_30 : decode b_TC_refill 30 = .ok (.return_, 1) := by decide +kernel
theorem d_Store_fill_0 : decode b_Store_fill 0 = .ok (.aload_n 1, 1) := by decide +kernel
theorem d_Store_fill_1 : decode b_Store_fill 1 = .ok (.iload_n 2, 1) := by decide +kernel
theorem d_Store_fill_2 : decode b_Store_fill 2 = .ok (.putfield 15, 3) := by decide +kernel
theorem d_Store_fill_5 : decode b_Store_fill 5 = .ok (.aload_n 1, 1) := by decide +kernel
theorem d_Store_fill_6 : decode b_Store_fill 6 = .ok (.aload_n 0, 1) := by decide +kernel
theorem d_Store_fill_7 : decode b_Store_fill 7 = .ok (.iconst 2, 1) := by decide +kernel
theorem d_Store_fill_8 : decode b_Store_fill 8 = .ok (.iload_n 2, 1) := by decide +kernel
theorem d_Store_fill_9 : decode b_Store_fill 9 = .ok (.imul, 1) := by decide +kernel
theorem d_Store_fill_10 : decode b_Store_fill 10 = .ok (.invokevirtual 31, 3) := by decide +kernel
theorem d_Store_fill_13 : decode b_Store_fill 13 = .ok (.putfield 21, 3) := by decide +kernel
theorem d_Store_fill_16 : decode b_Store_fill 16 = .ok (.aload_n 1, 1) := by decide +kernel
theorem d_Store_fill_17 : decode b_Store_fill 17 = .ok (.aload_n 0, 1) := by decide +kernel
theorem d_Store_fill_18 : decode b_Store_fill 18 = .ok (.iconst 2, 1) := by decide +kernel
theorem d_Store_fill_19 : decode b_Store_fill 19 = .ok (.iload_n 2, 1) := by decide +kernel
theorem d_Store_fill_20 : decode b_Store_fill 20 = .ok (.imul, 1) := by decide +kernel
theorem d_Store_fill_21 : decode b_Store_fill 21 = .ok (.iconst 1, 1) := by decide +kernel
theorem d_Store_fill_22 : decode b_Store_fill 22 = .ok (.iadd, 1) := by decide +kernel
theorem d_Store_fill_23 : decode b_Store_fill 23 = .ok (.invokevirtual 31, 3) := by decide +kernel
theorem d_Store_fill_26 : decode b_Store_fill 26 = .ok (.putfield 28, 3) := by decide +kernel
theorem d_Store_fill_29 : decode b_Store_fill 29 = .ok (.return_, 1) := by decide +kernel
theorem d_TC_makeModified_0 : decode b_TC_makeModified 0 = .ok (.iload_n 2, 1) := by decide +kernel
theorem d_TC_makeModified_1 : decode b_TC_makeModified 1 = .ok (.ifCond .eq 28, 3) := by decide +kernel
theorem d_TC_makeModified_4 : decode b_TC_makeModified 4 = .ok (.aload_n 1, 1) := by decide +kernel
theorem d_TC_makeModified_5 : decode b_TC_makeModified 5 = .ok (.getfield 62, 3) := by decide +kernel
theorem d_TC_makeModified_8 : decode b_TC_makeModified 8 = .ok (.iconst 2, 1) := by decide +kernel
theorem d_TC_makeModified_9 : decode b_TC_makeModified 9 = .ok (.if_icmp .ne 20, 3) := by decide +kernel
theorem d_TC_makeModified_12 : decode b_TC_makeModified 12 = .ok (.aload_n 1, 1) := by decide +kernel
theorem d_TC_makeModified_13 : decode b_TC_makeModified 13 = .ok (.getfield 68, 3) := by decide +kernel
theorem d_TC_makeModified_16 : decode b_TC_makeModified 16 = .ok (.iconst 2, 1) := by decide +kernel
theorem d_TC_makeModified_17 : decode b_TC_makeModified 17 = .ok (.iand, 1) := by decide +kernel
theorem d_TC_makeModified_18 : decode b_TC_makeModified 18 = .ok (.ifCond .ne 11, 3) := by decide +kernel
theorem d_TC_makeModified_21 : decode b_TC_makeModified 21 = .ok (.aload_n 0, 1) := by decide +kernel
theorem d_TC_makeModified_22 : decode b_TC_makeModified 22 = .ok (.getfield 16, 3) := by decide +kernel
theorem d_TC_makeModified_25 : decode b_TC_makeModified 25 = .ok (.aload_n 1, 1) := by decide +kernel
theorem d_TC_makeModified_26 : decode b_TC_makeModified 26 = .ok (.invokevirtual 207, 3) := by decide +kernel
theorem d_TC_makeModified_29 : decode b_TC_makeModified 29 = .ok (.aload_n 1, 1) := by decide +kernel
theorem d_TC_makeModified_30 : decode b_TC_makeModified 30 = .ok (.iconst 2, 1) := by decide +kernel
theorem d_TC_makeModified_31 : decode b_TC_makeModified 31 = .ok (.putfield 62, 3) := by decide +kernel
theorem d_TC_makeModified_34 : decode b_TC_makeModified 34 = .ok (.return_, 1) := by decide +kernel
theorem d_TC_save_0 : decode b_TC_save 0 = .ok (.aload_n 1, 1) := by decide +kernel
theorem d_TC_save_1 : decode b_TC_save 1 = .ok (.iload_n 2, 1) := by decide +kernel
theorem d_TC_save_2 : decode b_TC_save 2 = .ok (.invokevirtual 173, 3) := by decide +kernel
theorem d_TC_save_5 : decode b_TC_save 5 = .ok (.istore_n 3, 1) := by decide +kernel
theorem d_TC_save_6 : decode b_TC_save 6 = .ok (.aload_n 0, 1) := by decide +kernel
theorem d_TC_save_7 : decode b_TC_save 7 = .ok (.aload_n 1, 1) := by decide +kernel
theorem d_TC_save_8 : decode b_TC_save 8 = .ok (.iload_n 3, 1) := by decide +kernel
theorem d_TC_save_9 : decode b_TC_save 9 = .ok (.invokestatic 44, 3) := by decide +kernel
theorem d_TC_save_12 : decode b_TC_save 12 = .ok (.iconst 1, 1) := by decide +kernel
theorem d_TC_save_13 : decode b_TC_save 13 = .ok (.invokevirtual 176, 3) := by decide +kernel
theorem d_TC_save_16 : decode b_TC_save 16 = .ok (.astore 4, 2) := by decide +kernel
theorem d_TC_save_18 : decode b_TC_save 18 = .ok (.aload 4, 2) := by decide +kernel
theorem d_TC_save_20 : decode b_TC_save 20 = .ok (.ifnonnull 5, 3) := by decide +kernel
theorem d_TC_save_23 : decode b_TC_save 23 = .ok (.iconst 2, 1) := by decide +kernel
theorem d_TC_save_24 : decode b_TC_save 24 = .ok (.ireturn, 1) := by decide +kernel
theorem d_TC_save_25 : decode b_TC_save 25 = .ok (.aload 4, 2) := by decide +kernel
theorem d_TC_save_27 : decode b_TC_save 27 = .ok (.iload_n 3, 1) := by decide +kernel
theorem d_TC_save_28 : decode b_TC_save 28 = .ok (.aload_n 1, 1) := by decide +kernel
theorem d_TC_save_29 : decode b_TC_save 29 = .ok (.getfield 104, 3) := by decide +kernel
theorem d_TC_save_32 : decode b_TC_save 32 = .ok (.iload_n 2, 1) := by decide +kernel
theorem d_TC_save_33 : decode b_TC_save 33 = .ok (.invokestatic 180, 3) := by decide +kernel
theorem d_TC_save_36 : decode b_TC_save 36 = .ok (.iaload, 1) := by decide +kernel
theorem d_TC_save_37 : decode b_TC_save 37 = .ok (.invokevirtual 183, 3) := by decide +kernel
theorem d_TC_save_40 : decode b_TC_save 40 = .ok (.iconst 4, 1) := by decide +kernel
theorem d_TC_save_41 : decode b_TC_save 41 = .ok (.ireturn, 1) := by decide +kernel
theorem d_Way_put_0 : decode b_Way_put 0 = .ok (.iload_n 1, 1) := by decide +kernel
theorem d_Way_put_1 : decode b_Way_put 1 = .ok (.iconst 1, 1) := by decide +kernel
theorem d_Way_put_2 : decode b_Way_put 2 = .ok (.iand, 1) := by decide +kernel
theorem d_Way_put_3 : decode b_Way_put 3 = .ok (.ifCond .ne 11, 3) := by decide +kernel
theorem d_Way_put_6 : decode b_Way_put 6 = .ok (.aload_n 0, 1) := by decide +kernel
theorem d_Way_put_7 : decode b_Way_put 7 = .ok (.iload_n 2, 1) := by decide +kernel
theorem d_Way_put_8 : decode b_Way_put 8 = .ok (.putfield 7, 3) := by decide +kernel
theorem d_Way_put_11 : decode b_Way_put 11 = .ok (.goto 8, 3) := by decide +kernel
theorem d_Way_put_14 : decode b_Way_put 14 = .ok (.aload_n 0, 1) := by decide +kernel
theorem d_Way_put_15 : decode b_Way_put 15 = .ok (.iload_n 2, 1) := by decide +kernel
theorem d_Way_put_16 : decode b_Way_put 16 = .ok (.putfield 13, 3) := by decide +kernel
theorem d_Way_put_19 : decode b_Way_put 19 = .ok (.return_, 1) := by decide +kernel
theorem d_Core_branch_0 : decode b_Core_branch 0 = .ok (.aload_n 0, 1) := by decide +kernel
theorem d_Core_branch_1 : decode b_Core_branch 1 = .ok (.getfield 15, 3) := by decide +kernel
theorem d_Core_branch_4 : decode b_Core_branch 4 = .ok (.iload_n 1, 1) := by decide +kernel
theorem d_Core_branch_5 : decode b_Core_branch 5 = .ok (.invokestatic 39, 3) := by decide +kernel
theorem d_Core_branch_8 : decode b_Core_branch 8 = .ok (.iaload, 1) := by decide +kernel
theorem d_Core_branch_9 : decode b_Core_branch 9 = .ok (.istore_n 2, 1) := by decide +kernel
theorem d_Core_branch_10 : decode b_Core_branch 10 = .ok (.iload_n 1, 1) := by decide +kernel
theorem d_Core_branch_11 : decode b_Core_branch 11 = .ok (.invokestatic 42, 3) := by decide +kernel
theorem d_Core_branch_14 : decode b_Core_branch 14 = .ok (.bipush 7, 2) := by decide +kernel
theorem d_Core_branch_16 : decode b_Core_branch 16 = .ok (.if_icmp .ne 15, 3) := by decide +kernel
theorem d_Core_branch_19 : decode b_Core_branch 19 = .ok (.iload_n 2, 1) := by decide +kernel
theorem d_Core_branch_20 : decode b_Core_branch 20 = .ok (.ifCond .ne 7, 3) := by decide +kernel
theorem d_Core_branch_23 : decode b_Core_branch 23 = .ok (.iconst 1, 1) := by decide +kernel
theorem d_Core_branch_24 : decode b_Core_branch 24 = .ok (.goto 25, 3) := by decide +kernel
theorem d_Core_branch_27 : decode b_Core_branch 27 = .ok (.iconst 0, 1) := by decide +kernel
theorem d_Core_branch_28 : decode b_Core_branch 28 = .ok (.goto 21, 3) := by decide +kernel
theorem d_Core_branch_31 : decode b_Core_branch 31 = .ok (.iload_n 2, 1) := by decide +kernel
theorem d_Core_branch_32 : decode b_Core_branch 32 = .ok (.aload_n 0, 1) := by decide +kernel
theorem d_Core_branch_33 : decode b_Core_branch 33 = .ok (.getfield 15, 3) := by decide +kernel
theorem d_Core_branch_36 : decode b_Core_branch 36 = .ok (.iload_n 1, 1) := by decide +kernel
theorem d_Core_branch_37 : decode b_Core_branch 37 = .ok (.invokestatic 32, 3) := by decide +kernel
theorem d_Core_branch_40 : decode b_Core_branch 40 = .ok (.iaload, 1) := by decide +kernel
theorem d_Core_branch_41 : decode b_Core_branch 41 = .ok (.if_icmp .ge 7, 3) := by decide +kernel
theorem d_Core_branch_44 : decode b_Core_branch 44 = .ok (.iconst 1, 1) := by decide +kernel
theorem d_Core_branch_45 : decode b_Core_branch 45 = .ok (.goto 4, 3) := by decide +kernel
theorem d_Core_branch_48 : decode b_Core_branch 48 = .ok (.iconst 0, 1) := by decide +kernel
theorem d_Core_branch_49 : decode b_Core_branch 49 = .ok (.istore_n 3, 1) := by decide +kernel
theorem d_Core_branch_50 : decode b_Core_branch 50 = .ok (.iload_n 3, 1) := by decide +kernel
theorem d_Core_branch_51 : decode b_Core_branch 51 = .ok (.ifCond .eq 19, 3) := by decide +kernel
theorem d_Core_branch_54 : decode b_Core_branch 54 = .ok (.aload_n 0, 1) := by decide +kernel
theorem d_Core_branch_55 : decode b_Core_branch 55 = .ok (.aload_n 0, 1) := by decide +kernel
theorem d_Core_branch_56 : decode b_Core_branch 56 = .ok (.getfield 51, 3) := by decide +kernel
theorem d_Core_branch_59 : decode b_Core_branch 59 = .ok (.iload_n 1, 1) := by decide +kernel
theorem d_Core_branch_60 : decode b_Core_branch 60 = .ok (.invokestatic 45, 3) := by decide +kernel
theorem d_Core_branch_63 : decode b_Core_branch 63 = .ok (.iadd, 1) := by decide +kernel
theorem d_Core_branch_64 : decode b_Core_branch 64 = .ok (.invokestatic 54, 3) := by decide +kernel
theorem d_Core_branch_67 : decode b_Core_branch 67 = .ok (.putfield 51, 3) := by decide +kernel
theorem d_Core_branch_70 : decode b_Core_branch 70 = .ok (.return_, 1) := by decide +kernel
theorem d_Core_begin_0 : decode b_Core_begin 0 = .ok (.aload_n 0, 1) := by decide +kernel
theorem d_Core_begin_1 : decode b_Core_begin 1 = .ok (.getfield 48, 3) := by decide +kernel
theorem d_Core_begin_4 : decode b_Core_begin 4 = .ok (.iconst 3, 1) := by decide +kernel
theorem d_Core_begin_5 : decode b_Core_begin 5 = .ok (.if_icmp .ne 10, 3) := by decide +kernel
theorem d_Core_begin_8 : decode b_Core_begin 8 = .ok (.aload_n 0, 1) := by decide +kernel
theorem d_Core_begin_9 : decode b_Core_begin 9 = .ok (.iconst 3, 1) := by decide +kernel
theorem d_Core_begin_10 : decode b_Core_begin 10 = .ok (.iconst 0, 1) := by decide +kernel
theorem d_Core_begin_11 : decode b_Core_begin 11 = .ok (.invokevirtual 57, 3) := by decide +kernel
theorem d_Core_begin_14 : decode b_Core_begin 14 = .ok (.ireturn, 1) := by decide +kernel
theorem d_Core_begin_15 : decode b_Core_begin 15 = .ok (.aload_n 0, 1) := by decide +kernel
theorem d_Core_begin_16 : decode b_Core_begin 16 = .ok (.getfield 48, 3) := by decide +kernel
theorem d_Core_begin_19 : decode b_Core_begin 19 = .ok (.ifCond .ne 31, 3) := by decide +kernel
theorem d_Core_begin_22 : decode b_Core_begin 22 = .ok (.aload_n 0, 1) := by decide +kernel
theorem d_Core_begin_23 : decode b_Core_begin 23 = .ok (.getfield 15, 3) := by decide +kernel
theorem d_Core_begin_26 : decode b_Core_begin 26 = .ok (.iconst 0, 1) := by decide +kernel
theorem d_Core_begin_27 : decode b_Core_begin 27 = .ok (.aload_n 0, 1) := by decide +kernel
theorem d_Core_begin_28 : decode b_Core_begin 28 = .ok (.getfield 18, 3) := by decide +kernel
theorem d_Core_begin_31 : decode b_Core_begin 31 = .ok (.iconst 0, 1) := by decide +kernel
theorem d_Core_begin_32 : decode b_Core_begin 32 = .ok (.bipush 8, 2) := by decide +kernel
theorem d_Core_begin_34 : decode b_Core_begin 34 = .ok (.invokestatic 61, 3) := by decide +kernel
theorem d_Core_begin_37 : decode b_Core_begin 37 = .ok (.aload_n 0, 1) := by decide +kernel
theorem d_Core_begin_38 : decode b_Core_begin 38 = .ok (.aload_n 0, 1) := by decide +kernel
theorem d_Core_begin_39 : decode b_Core_begin 39 = .ok (.getfield 51, 3) := by decide +kernel
theorem d_Core_begin_42 : decode b_Core_begin 42 = .ok (.iload_n 1, 1) := by decide +kernel
theorem d_Core_begin_43 : decode b_Core_begin 43 = .ok (.iadd, 1) := by decide +kernel
theorem d_Core_begin_44 : decode b_Core_begin 44 = .ok (.invokestatic 54, 3) := by decide +kernel
theorem d_Core_begin_47 : decode b_Core_begin 47 = .ok (.putfield 67, 3) := by decide +kernel
theorem d_Core_begin_50 : decode b_Core_begin 50 = .ok (.aload_n 0, 1) := by decide +kernel
theorem d_Core_begin_51 : decode b_Core_begin 51 = .ok (.dup, 1) := by decide +kernel
theorem d_Core_begin_52 : decode b_Core_begin 52 = .ok (.getfield 48, 3) := by decide +kernel
theorem d_Core_begin_55 : decode b_Core_begin 55 = .ok (.iconst 1, 1) := by decide +kernel
theorem d_Core_begin_56 : decode b_Core_begin 56 = .ok (.iadd, 1) := by decide +kernel
theorem d_Core_begin_57 : decode b_Core_begin 57 = .ok (.putfield 48, 3) := by decide +kernel
theorem d_Core_begin_60 : decode b_Core_begin 60 = .ok (.iconst 4, 1) := by decide +kernel
theorem d_Core_begin_61 : decode b_Core_begin 61 = .ok (.ireturn, 1) := by decide +kernel
theorem d_Core_fault_0 : decode b_Core_fault 0 = .ok (.aload_n 0, 1) := by decide +kernel
theorem d_Core_fault_1 : decode b_Core_fault 1 = .ok (.getfield 48, 3) := by decide +kernel
theorem d_Core_fault_4 : decode b_Core_fault 4 = .ok (.ifCond .le 10, 3) := by decide +kernel
theorem d_Core_fault_7 : decode b_Core_fault 7 = .ok (.aload_n 0, 1) := by decide +kernel
theorem d_Core_fault_8 : decode b_Core_fault 8 = .ok (.iconst 5, 1) := by decide +kernel
theorem d_Core_fault_9 : decode b_Core_fault 9 = .ok (.iconst 0, 1) := by decide +kernel
theorem d_Core_fault_10 : decode b_Core_fault 10 = .ok (.invokevirtual 57, 3) := by decide +kernel
theorem d_Core_fault_13 : decode b_Core_fault 13 = .ok (.ireturn, 1) := by decide +kernel
theorem d_Core_fault_14 : decode b_Core_fault 14 = .ok (.aload_n 0, 1) := by decide +kernel
theorem d_Core_fault_15 : decode b_Core_fault 15 = .ok (.iconst 1, 1) := by decide +kernel
theorem d_Core_fault_16 : decode b_Core_fault 16 = .ok (.putfield 75, 3) := by decide +kernel
theorem d_Core_fault_19 : decode b_Core_fault 19 = .ok (.aload_n 0, 1) := by decide +kernel
theorem d_Core_fault_20 : decode b_Core_fault 20 = .ok (.iload_n 1, 1) := by decide +kernel
theorem d_Core_fault_21 : decode b_Core_fault 21 = .ok (.putfield 51, 3) := by decide +kernel
theorem d_Core_fault_24 : decode b_Core_fault 24 = .ok (.iconst 0, 1) := by decide +kernel
theorem d_Core_fault_25 : decode b_Core_fault 25 = .ok (.ireturn, 1) := by decide +kernel
theorem d_Core_end_0 : decode b_Core_end 0 = .ok (.aload_n 0, 1) := by decide +kernel
theorem d_Core_end_1 : decode b_Core_end 1 = .ok (.dup, 1) := by decide +kernel
theorem d_Core_end_2 : decode b_Core_end 2 = .ok (.getfield 48, 3) := by decide +kernel
theorem d_Core_end_5 : decode b_Core_end 5 = .ok (.iconst 1, 1) := by decide +kernel
theorem d_Core_end_6 : decode b_Core_end 6 = .ok (.isub, 1) := by decide +kernel
theorem d_Core_end_7 : decode b_Core_end 7 = .ok (.putfield 48, 3) := by decide +kernel
theorem d_Core_end_10 : decode b_Core_end 10 = .ok (.aload_n 0, 1) := by decide +kernel
theorem d_Core_end_11 : decode b_Core_end 11 = .ok (.getfield 48, 3) := by decide +kernel
theorem d_Core_end_14 : decode b_Core_end 14 = .ok (.ifCond .le 5, 3) := by decide +kernel
theorem d_Core_end_17 : decode b_Core_end 17 = .ok (.iconst 4, 1) := by decide +kernel
theorem d_Core_end_18 : decode b_Core_end 18 = .ok (.ireturn, 1) := by decide +kernel
theorem d_Core_end_19 : decode b_Core_end 19 = .ok (.aload_n 0, 1) := by decide +kernel
theorem d_Core_end_20 : decode b_Core_end 20 = .ok (.getfield 28, 3) := by decide +kernel
theorem d_Core_end_23 : decode b_Core_end 23 = .ok (.invokevirtual 70, 3) := by decide +kernel
theorem d_Core_end_26 : decode b_Core_end 26 = .ok (.aload_n 0, 1) := by decide +kernel
theorem d_Core_end_27 : decode b_Core_end 27 = .ok (.getfield 21, 3) := by decide +kernel
theorem d_Core_end_30 : decode b_Core_end 30 = .ok (.iconst 0, 1) := by decide +kernel
theorem d_Core_end_31 : decode b_Core_end 31 = .ok (.dup2, 1) := by decide +kernel
theorem d_Core_end_32 : decode b_Core_end 32 = .ok (.iaload, 1) := by decide +kernel
theorem d_Core_end_33 : decode b_Core_end 33 = .ok (.iconst 1, 1) := by decide +kernel
theorem d_Core_end_34 : decode b_Core_end 34 = .ok (.iadd, 1) := by decide +kernel
theorem d_Core_end_35 : decode b_Core_end 35 = .ok (.iastore, 1) := by decide +kernel
theorem d_Core_end_36 : decode b_Core_end 36 = .ok (.iconst 3, 1) := by decide +kernel
theorem d_Core_end_37 : decode b_Core_end 37 = .ok (.ireturn, 1) := by decide +kernel
theorem d_Core_giveUp_0 : decode b_Core_giveUp 0 = .ok (.aload_n 0, 1) := by decide +kernel
theorem d_Core_giveUp_1 : decode b_Core_giveUp 1 = .ok (.getfield 48, 3) := by decide +kernel
theorem d_Core_giveUp_4 : decode b_Core_giveUp 4 = .ok (.ifCond .ne 5, 3) := by decide +kernel
theorem d_Core_giveUp_7 : decode b_Core_giveUp 7 = .ok (.iconst 4, 1) := by decide +kernel
theorem d_Core_giveUp_8 : decode b_Core_giveUp 8 = .ok (.ireturn, 1) := by decide +kernel
theorem d_Core_giveUp_9 : decode b_Core_giveUp 9 = .ok (.aload_n 0, 1) := by decide +kernel
theorem d_Core_giveUp_10 : decode b_Core_giveUp 10 = .ok (.iconst 4, 1) := by decide +kernel
theorem d_Core_giveUp_11 : decode b_Core_giveUp 11 = .ok (.bipush 8, 2) := by decide +kernel
theorem d_Core_giveUp_13 : decode b_Core_giveUp 13 = .ok (.iload_n 1, 1) := by decide +kernel
theorem d_Core_giveUp_14 : decode b_Core_giveUp 14 = .ok (.sipush 255, 3) := by decide +kernel
theorem d_Core_giveUp_17 : decode b_Core_giveUp 17 = .ok (.iand, 1) := by decide +kernel
theorem d_Core_giveUp_18 : decode b_Core_giveUp 18 = .ok (.imul, 1) := by decide +kernel
theorem d_Core_giveUp_19 : decode b_Core_giveUp 19 = .ok (.invokevirtual 57, 3) := by decide +kernel
theorem d_Core_giveUp_22 : decode b_Core_giveUp 22 = .ok (.ireturn, 1) := by decide +kernel
theorem d_TC_run_0 : decode b_TC_run 0 = .ok (.iload_n 2, 1) := by decide +kernel
theorem d_TC_run_1 : decode b_TC_run 1 = .ok (.ifCond .lt 9, 3) := by decide +kernel
theorem d_TC_run_4 : decode b_TC_run 4 = .ok (.iload_n 2, 1) := by decide +kernel
theorem d_TC_run_5 : decode b_TC_run 5 = .ok (.bipush 16, 2) := by decide +kernel
theorem d_TC_run_7 : decode b_TC_run 7 = .ok (.if_icmp .le 13, 3) := by decide +kernel
theorem d_TC_run_10 : decode b_TC_run 10 = .ok (.new 79, 3) := by decide +kernel
theorem d_TC_run_13 : decode b_TC_run 13 = .ok (.dup, 1) := by decide +kernel
theorem d_TC_run_14 : decode b_TC_run 14 = .ok (.ldc 81, 2) := by decide +kernel
theorem d_TC_run_16 : decode b_TC_run 16 = .ok (.invokespecial 83, 3) := by decide +kernel
theorem d_TC_run_19 : decode b_TC_run 19 = .ok (.athrow, 1) := by decide +kernel
theorem d_TC_run_20 : decode b_TC_run 20 = .ok (.iconst 0, 1) := by decide +kernel
theorem d_TC_run_21 : decode b_TC_run 21 = .ok (.istore_n 3, 1) := by decide +kernel
theorem d_TC_run_22 : decode b_TC_run 22 = .ok (.iconst 0, 1) := by decide +kernel
theorem d_TC_run_23 : decode b_TC_run 23 = .ok (.istore 4, 2) := by decide +kernel
theorem d_TC_run_25 : decode b_TC_run 25 = .ok (.iload 4, 2) := by decide +kernel
theorem d_TC_run_27 : decode b_TC_run 27 = .ok (.iload_n 2, 1) := by decide +kernel
theorem d_TC_run_28 : decode b_TC_run 28 = .ok (.if_icmp .ge 43, 3) := by decide +kernel
theorem d_TC_run_31 : decode b_TC_run 31 = .ok (.iload_n 1, 1) := by decide +kernel
theorem d_TC_run_32 : decode b_TC_run 32 = .ok (.iconst 2, 1) := by decide +kernel
theorem d_TC_run_33 : decode b_TC_run 33 = .ok (.iload 4, 2) := by decide +kernel
theorem d_TC_run_35 : decode b_TC_run 35 = .ok (.imul, 1) := by decide +kernel
theorem d_TC_run_36 : decode b_TC_run 36 = .ok (.iushr, 1) := by decide +kernel
theorem d_TC_run_37 : decode b_TC_run 37 = .ok (.iconst 3, 1) := by decide +kernel
theorem d_TC_run_38 : decode b_TC_run 38 = .ok (.iand, 1) := by decide +kernel
theorem d_TC_run_39 : decode b_TC_run 39 = .ok (.aload_n 0, 1) := by decide +kernel
theorem d_TC_run_40 : decode b_TC_run 40 = .ok (.getfield 22, 3) := by decide +kernel
theorem d_TC_run_43 : decode b_TC_run 43 = .ok (.arraylength, 1) := by decide +kernel
theorem d_TC_run_44 : decode b_TC_run 44 = .ok (.irem, 1) := by decide +kernel
theorem d_TC_run_45 : decode b_TC_run 45 = .ok (.istore 5, 2) := by decide +kernel
theorem d_TC_run_47 : decode b_TC_run 47 = .ok (.aload_n 0, 1) := by decide +kernel
theorem d_TC_run_48 : decode b_TC_run 48 = .ok (.aload_n 0, 1) := by decide +kernel
theorem d_TC_run_49 : decode b_TC_run 49 = .ok (.getfield 22, 3) := by decide +kernel
theorem d_TC_run_52 : decode b_TC_run 52 = .ok (.iload 5, 2) := by decide +kernel
theorem d_TC_run_54 : decode b_TC_run 54 = .ok (.aaload, 1) := by decide +kernel
theorem d_TC_run_55 : decode b_TC_run 55 = .ok (.invokevirtual 75, 3) := by decide +kernel
theorem d_TC_run_58 : decode b_TC_run 58 = .ok (.iconst 3, 1) := by decide +kernel
theorem d_TC_run_59 : decode b_TC_run 59 = .ok (.if_icmp .ne 6, 3) := by decide +kernel
theorem d_TC_run_62 : decode b_TC_run 62 = .ok (.iinc 3 1, 3) := by decide +kernel
theorem d_TC_run_65 : decode b_TC_run 65 = .ok (.iinc 4 1, 3) := by decide +kernel
theorem d_TC_run_68 : decode b_TC_run 68 = .ok (.goto (-43), 3) := by decide +kernel
theorem d_TC_run_71 : decode b_TC_run 71 = .ok (.iload_n 3, 1) := by decide +kernel
theorem d_TC_run_72 : decode b_TC_run 72 = .ok (.ireturn, 1) := by decide +kernel
theorem d_TC_jump_0 : decode b_TC_jump 0 = .ok (.iload_n 1, 1) := by decide +kernel
theorem d_TC_jump_1 : decode b_TC_jump 1 = .ok (.aload_n 0, 1) := by decide +kernel
theorem d_TC_jump_2 : decode b_TC_jump 2 = .ok (.getfield 22, 3) := by decide +kernel
theorem d_TC_jump_5 : decode b_TC_jump 5 = .ok (.arraylength, 1) := by decide +kernel
theorem d_TC_jump_6 : decode b_TC_jump 6 = .ok (.invokestatic 37, 3) := by decide +kernel
theorem d_TC_jump_9 : decode b_TC_jump 9 = .ok (.aload_n 0, 1) := by decide +kernel
theorem d_TC_jump_10 : decode b_TC_jump 10 = .ok (.getfield 22, 3) := by decide +kernel
theorem d_TC_jump_13 : decode b_TC_jump 13 = .ok (.iload_n 1, 1) := by decide +kernel
theorem d_TC_jump_14 : decode b_TC_jump 14 = .ok (.aaload, 1) := by decide +kernel
theorem d_TC_jump_15 : decode b_TC_jump 15 = .ok (.getfield 86, 3) := by decide +kernel
theorem d_TC_jump_18 : decode b_TC_jump 18 = .ok (.ifCond .le 13, 3) := by decide +kernel
theorem d_TC_jump_21 : decode b_TC_jump 21 = .ok (.new 89, 3) := by decide +kernel
theorem d_TC_jump_24 : decode b_TC_jump 24 = .ok (.dup, 1) := by decide +kernel
theorem d_TC_jump_25 : decode b_TC_jump 25 = .ok (.ldc 91, 2) := by decide +kernel
theorem d_TC_jump_27 : decode b_TC_jump 27 = .ok (.invokespecial 93, 3) := by decide +kernel
theorem d_TC_jump_30 : decode b_TC_jump 30 = .ok (.athrow, 1) := by decide +kernel
theorem d_TC_jump_31 : decode b_TC_jump 31 = .ok (.aload_n 0, 1) := by decide +kernel
theorem d_TC_jump_32 : decode b_TC_jump 32 = .ok (.getfield 22, 3) := by decide +kernel
theorem d_TC_jump_35 : decode b_TC_jump 35 = .ok (.iload_n 1, 1) := by decide +kernel
theorem d_TC_jump_36 : decode b_TC_jump 36 = .ok (.aaload, 1) := by decide +kernel
theorem d_TC_jump_37 : decode b_TC_jump 37 = .ok (.iload_n 2, 1) := by decide +kernel
theorem d_TC_jump_38 : decode b_TC_jump 38 = .ok (.invokestatic 94, 3) := by decide +kernel
theorem d_TC_jump_41 : decode b_TC_jump 41 = .ok (.putfield 97, 3) := by decide +kernel
theorem d_TC_jump_44 : decode b_TC_jump 44 = .ok (.aload_n 0, 1) := by decide +kernel
theorem d_TC_jump_45 : decode b_TC_jump 45 = .ok (.getfield 22, 3) := by decide +kernel
theorem d_TC_jump_48 : decode b_TC_jump 48 = .ok (.iload_n 1, 1) := by decide +kernel
theorem d_TC_jump_49 : decode b_TC_jump 49 = .ok (.aaload, 1) := by decide +kernel
theorem d_TC_jump_50 : decode b_TC_jump 50 = .ok (.iconst 0, 1) := by decide +kernel
theorem d_TC_jump_51 : decode b_TC_jump 51 = .ok (.putfield 100, 3) := by decide +kernel
theorem d_TC_jump_54 : decode b_TC_jump 54 = .ok (.return_, 1) := by decide +kernel
theorem d_TC_register_0 : decode b_TC_register 0 = .ok (.iload_n 1, 1) := by decide +kernel
theorem d_TC_register_1 : decode b_TC_register 1 = .ok (.aload_n 0, 1) := by decide +kernel
theorem d_TC_register_2 : decode b_TC_register 2 = .ok (.getfield 22, 3) := by decide +kernel
theorem d_TC_register_5 : decode b_TC_register 5 = .ok (.arraylength, 1) := by decide +kernel
theorem d_TC_register_6 : decode b_TC_register 6 = .ok (.invokestatic 37, 3) := by decide +kernel
theorem d_TC_register_9 : decode b_TC_register 9 = .ok (.iload_n 2, 1) := by decide +kernel
theorem d_TC_register_10 : decode b_TC_register 10 = .ok (.bipush 11, 2) := by decide +kernel
theorem d_TC_register_12 : decode b_TC_register 12 = .ok (.invokestatic 37, 3) := by decide +kernel
theorem d_TC_register_15 : decode b_TC_register 15 = .ok (.aload_n 0, 1) := by decide +kernel
theorem d_TC_register_16 : decode b_TC_register 16 = .ok (.getfield 22, 3) := by decide +kernel
theorem d_TC_register_19 : decode b_TC_register 19 = .ok (.iload_n 1, 1) := by decide +kernel
theorem d_TC_register_20 : decode b_TC_register 20 = .ok (.aaload, 1) := by decide +kernel
theorem d_TC_register_21 : decode b_TC_register 21 = .ok (.astore_n 3, 1) := by decide +kernel
theorem d_TC_register_22 : decode b_TC_register 22 = .ok (.iload_n 2, 1) := by decide +kernel
theorem d_TC_register_23 : decode b_TC_register 23 = .ok (.tableswitch 48 8 10 #[25, 30, 35], 25) := by decide +kernel
theorem d_TC_register_48 : decode b_TC_register 48 = .ok (.aload_n 3, 1) := by decide +kernel
theorem d_TC_register_49 : decode b_TC_register 49 = .ok (.getfield 97, 3) := by decide +kernel
theorem d_TC_register_52 : decode b_TC_register 52 = .ok (.ireturn, 1) := by decide +kernel
theorem d_TC_register_53 : decode b_TC_register 53 = .ok (.aload_n 3, 1) := by decide +kernel
theorem d_TC_register_54 : decode b_TC_register 54 = .ok (.getfield 86, 3) := by decide +kernel
theorem d_TC_register_57 : decode b_TC_register 57 = .ok (.ireturn, 1) := by decide +kernel
theorem d_TC_register_58 : decode b_TC_register 58 = .ok (.aload_n 3, 1) := by decide +kernel
theorem d_TC_register_59 : decode b_TC_register 59 = .ok (.getfield 100, 3) := by decide +kernel
theorem d_TC_register_62 : decode b_TC_register 62 = .ok (.ifCond .eq 7, 3) := by decide +kernel
theorem d_TC_register_65 : decode b_TC_register 65 = .ok (.iconst 1, 1) := by decide +kernel
theorem d_TC_register_66 : decode b_TC_register 66 = .ok (.goto 4, 3) := by decide +kernel
theorem d_TC_register_69 : decode b_TC_register 69 = .ok (.iconst 0, 1) := by decide +kernel
theorem d_TC_register_70 : decode b_TC_register 70 = .ok (.ireturn, 1) := by decide +kernel
theorem d_TC_register_71 : decode b_TC_register 71 = .ok (.aload_n 3, 1) := by decide +kernel
theorem d_TC_register_72 : decode b_TC_register 72 = .ok (.getfield 104, 3) := by decide +kernel
theorem d_TC_register_75 : decode b_TC_register 75 = .ok (.iload_n 2, 1) := by decide +kernel
theorem d_TC_register_76 : decode b_TC_register 76 = .ok (.iaload, 1) := by decide +kernel
theorem d_TC_register_77 : decode b_TC_register 77 = .ok (.ireturn, 1) := by decide +kernel
theorem d_TC_fate_0 : decode b_TC_fate 0 = .ok (.iload_n 1, 1) := by decide +kernel
theorem d_TC_fate_1 : decode b_TC_fate 1 = .ok (.aload_n 0, 1) := by decide +kernel
theorem d_TC_fate_2 : decode b_TC_fate 2 = .ok (.getfield 22, 3) := by decide +kernel
theorem d_TC_fate_5 : decode b_TC_fate 5 = .ok (.arraylength, 1) := by decide +kernel
theorem d_TC_fate_6 : decode b_TC_fate 6 = .ok (.invokestatic 37, 3) := by decide +kernel
theorem d_TC_fate_9 : decode b_TC_fate 9 = .ok (.iload_n 2, 1) := by decide +kernel
theorem d_TC_fate_10 : decode b_TC_fate 10 = .ok (.bipush 6, 2) := by decide +kernel
theorem d_TC_fate_12 : decode b_TC_fate 12 = .ok (.invokestatic 37, 3) := by decide +kernel
theorem d_TC_fate_15 : decode b_TC_fate 15 = .ok (.aload_n 0, 1) := by decide +kernel
theorem d_TC_fate_16 : decode b_TC_fate 16 = .ok (.getfield 22, 3) := by decide +kernel
theorem d_TC_fate_19 : decode b_TC_fate 19 = .ok (.iload_n 1, 1) := by decide +kernel
theorem d_TC_fate_20 : decode b_TC_fate 20 = .ok (.aaload, 1) := by decide +kernel
theorem d_TC_fate_21 : decode b_TC_fate 21 = .ok (.getfield 107, 3) := by decide +kernel
theorem d_TC_fate_24 : decode b_TC_fate 24 = .ok (.iload_n 2, 1) := by decide +kernel
theorem d_TC_fate_25 : decode b_TC_fate 25 = .ok (.iaload, 1) := by decide +kernel
theorem d_TC_fate_26 : decode b_TC_fate 26 = .ok (.ireturn, 1) := by decide +kernel
theorem d_TC_way_0 : decode b_TC_way 0 = .ok (.iload_n 1, 1) := by decide +kernel
theorem d_TC_way_1 : decode b_TC_way 1 = .ok (.aload_n 0, 1) := by decide +kernel
theorem d_TC_way_2 : decode b_TC_way 2 = .ok (.getfield 22, 3) := by decide +kernel
theorem d_TC_way_5 : decode b_TC_way 5 = .ok (.arraylength, 1) := by decide +kernel
theorem d_TC_way_6 : decode b_TC_way 6 = .ok (.invokestatic 37, 3) := by decide +kernel
theorem d_TC_way_9 : decode b_TC_way 9 = .ok (.aload_n 0, 1) := by decide +kernel
theorem d_TC_way_10 : decode b_TC_way 10 = .ok (.getfield 22, 3) := by decide +kernel
theorem d_TC_way_13 : decode b_TC_way 13 = .ok (.iload_n 1, 1) := by decide +kernel
theorem d_TC_way_14 : decode b_TC_way 14 = .ok (.aaload, 1) := by decide +kernel
theorem d_TC_way_15 : decode b_TC_way 15 = .ok (.getfield 54, 3) := by decide +kernel
theorem d_TC_way_18 : decode b_TC_way 18 = .ok (.astore 5, 2) := by decide +kernel
theorem d_TC_way_20 : decode b_TC_way 20 = .ok (.iload_n 2, 1) := by decide +kernel
theorem d_TC_way_21 : decode b_TC_way 21 = .ok (.aload 5, 2) := by decide +kernel
theorem d_TC_way_23 : decode b_TC_way 23 = .ok (.getfield 110, 3) := by decide +kernel
theorem d_TC_way_26 : decode b_TC_way 26 = .ok (.invokestatic 37, 3) := by decide +kernel
theorem d_TC_way_29 : decode b_TC_way 29 = .ok (.iload_n 3, 1) := by decide +kernel
theorem d_TC_way_30 : decode b_TC_way 30 = .ok (.aload 5, 2) := by decide +kernel
theorem d_TC_way_32 : decode b_TC_way 32 = .ok (.getfield 113, 3) := by decide +kernel
theorem d_TC_way_35 : decode b_TC_way 35 = .ok (.invokestatic 37, 3) := by decide +kernel
theorem d_TC_way_38 : decode b_TC_way 38 = .ok (.iload 4, 2) := by decide +kernel
theorem d_TC_way_40 : decode b_TC_way 40 = .ok (.iconst 5, 1) := by decide +kernel
theorem d_TC_way_41 : decode b_TC_way 41 = .ok (.invokestatic 37, 3) := by decide +kernel
theorem d_TC_way_44 : decode b_TC_way 44 = .ok (.aload 5, 2) := by decide +kernel
theorem d_TC_way_46 : decode b_TC_way 46 = .ok (.getfield 116, 3) := by decide +kernel
theorem d_TC_way_49 : decode b_TC_way 49 = .ok (.iload_n 2, 1) := by decide +kernel
theorem d_TC_way_50 : decode b_TC_way 50 = .ok (.aload 5, 2) := by decide +kernel
theorem d_TC_way_52 : decode b_TC_way 52 = .ok (.getfield 113, 3) := by decide +kernel
theorem d_TC_way_55 : decode b_TC_way 55 = .ok (.imul, 1) := by decide +kernel
theorem d_TC_way_56 : decode b_TC_way 56 = .ok (.iload_n 3, 1) := by decide +kernel
theorem d_TC_way_57 : decode b_TC_way 57 = .ok (.iadd, 1) := by decide +kernel
theorem d_TC_way_58 : decode b_TC_way 58 = .ok (.aaload, 1) := by decide +kernel
theorem d_TC_way_59 : decode b_TC_way 59 = .ok (.astore 6, 2) := by decide +kernel
theorem d_TC_way_61 : decode b_TC_way 61 = .ok (.iload 4, 2) := by decide +kernel
theorem d_TC_way_63 : decode b_TC_way 63 = .ok (.ifCond .ne 9, 3) := by decide +kernel
theorem d_TC_way_66 : decode b_TC_way 66 = .ok (.aload 6, 2) := by decide +kernel
theorem d_TC_way_68 : decode b_TC_way 68 = .ok (.getfield 62, 3) := by decide +kernel
theorem d_TC_way_71 : decode b_TC_way 71 = .ok (.ireturn, 1) := by decide +kernel
theorem d_TC_way_72 : decode b_TC_way 72 = .ok (.aload 6, 2) := by decide +kernel
theorem d_TC_way_74 : decode b_TC_way 74 = .ok (.getfield 62, 3) := by decide +kernel
theorem d_TC_way_77 : decode b_TC_way 77 = .ok (.ifCond .ne 7, 3) := by decide +kernel
theorem d_TC_way_80 : decode b_TC_way 80 = .ok (.iconst (-1), 1) := by decide +kernel
theorem d_TC_way_81 : decode b_TC_way 81 = .ok (.goto 10, 3) := by decide +kernel
theorem d_TC_way_84 : decode b_TC_way 84 = .ok (.aload 6, 2) := by decide +kernel
theorem d_TC_way_86 : decode b_TC_way 86 = .ok (.iload 4, 2) := by decide +kernel
theorem d_TC_way_88 : decode b_TC_way 88 = .ok (.invokevirtual 120, 3) := by decide +kernel
theorem d_TC_way_91 : decode b_TC_way 91 = .ok (.ireturn, 1) := by decide +kernel
theorem d_Way_tell_0 : decode b_Way_tell 0 = .ok (.iload_n 1, 1) := by decide +kernel
theorem d_Way_tell_1 : decode b_Way_tell 1 = .ok (.tableswitch 42 1 3 #[27, 32, 37], 27) := by decide +kernel
theorem d_Way_tell_28 : decode b_Way_tell 28 = .ok (.aload_n 0, 1) := by decide +kernel
theorem d_Way_tell_29 : decode b_Way_tell 29 = .ok (.getfield 16, 3) := by decide +kernel
theorem d_Way_tell_32 : decode b_Way_tell 32 = .ok (.ireturn, 1) := by decide +kernel
theorem d_Way_tell_33 : decode b_Way_tell 33 = .ok (.aload_n 0, 1) := by decide +kernel
theorem d_Way_tell_34 : decode b_Way_tell 34 = .ok (.getfield 19, 3) := by decide +kernel
theorem d_Way_tell_37 : decode b_Way_tell 37 = .ok (.ireturn, 1) := by decide +kernel
theorem d_Way_tell_38 : decode b_Way_tell 38 = .ok (.aload_n 0, 1) := by decide +kernel
theorem d_Way_tell_39 : decode b_Way_tell 39 = .ok (.getfield 7, 3) := by decide +kernel
theorem d_Way_tell_42 : decode b_Way_tell 42 = .ok (.ireturn, 1) := by decide +kernel
theorem d_Way_tell_43 : decode b_Way_tell 43 = .ok (.aload_n 0, 1) := by decide +kernel
theorem d_Way_tell_44 : decode b_Way_tell 44 = .ok (.getfield 13, 3) := by decide +kernel
theorem d_Way_tell_47 : decode b_Way_tell 47 = .ok (.ireturn, 1) := by decide +kernel
