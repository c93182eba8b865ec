theorem dX0_init_0 : decode cX0_init 0 = .ok (.aload_n 0, 1) := by decide +kernel
theorem dX0_init_1 : decode cX0_init 1 = .ok (.invokespecial 3, 3) := by decide +kernel
theorem dX0_init_4 : decode cX0_init 4 = .ok (.aload_n 0, 1) := by decide +kernel
theorem dX0_init_5 : decode cX0_init 5 = .ok (.bipush 14, 2) := by decide +kernel
theorem dX0_init_7 : decode cX0_init 7 = .ok (.anewarray 9, 3) := by decide +kernel
theorem dX0_init_10 : decode cX0_init 10 = .ok (.putfield 11, 3) := by decide +kernel
theorem dX0_init_13 : decode cX0_init 13 = .ok (.iconst 0, 1) := by decide +kernel
theorem dX0_init_14 : decode cX0_init 14 = .ok (.istore_n 1, 1) := by decide +kernel
theorem dX0_init_15 : decode cX0_init 15 = .ok (.iload_n 1, 1) := by decide +kernel
theorem dX0_init_16 : decode cX0_init 16 = .ok (.aload_n 0, 1) := by decide +kernel
theorem dX0_init_17 : decode cX0_init 17 = .ok (.getfield 11, 3) := by decide +kernel
theorem dX0_init_20 : decode cX0_init 20 = .ok (.arraylength, 1) := by decide +kernel
theorem dX0_init_21 : decode cX0_init 21 = .ok (.if_icmp .ge 22, 3) := by decide +kernel
theorem dX0_init_24 : decode cX0_init 24 = .ok (.aload_n 0, 1) := by decide +kernel
theorem dX0_init_25 : decode cX0_init 25 = .ok (.getfield 11, 3) := by decide +kernel
theorem dX0_init_28 : decode cX0_init 28 = .ok (.iload_n 1, 1) := by decide +kernel
theorem dX0_init_29 : decode cX0_init 29 = .ok (.new 9, 3) := by decide +kernel
theorem dX0_init_32 : decode cX0_init 32 = .ok (.dup, 1) := by decide +kernel
theorem dX0_init_33 : decode cX0_init 33 = .ok (.invokespecial 17, 3) := by decide +kernel
theorem dX0_init_36 : decode cX0_init 36 = .ok (.aastore, 1) := by decide +kernel
theorem dX0_init_37 : decode cX0_init 37 = .ok (.iinc 1 1, 3) := by decide +kernel
theorem dX0_init_40 : decode cX0_init 40 = .ok (.goto (-25), 3) := by decide +kernel
theorem dX0_init_43 : decode cX0_init 43 = .ok (.return_, 1) := by decide +kernel
theorem dX0_isEmpty_0 : decode cX0_isEmpty 0 = .ok (.aload_n 0, 1) := by decide +kernel
theorem dX0_isEmpty_1 : decode cX0_isEmpty 1 = .ok (.getfield 18, 3) := by decide +kernel
theorem dX0_isEmpty_4 : decode cX0_isEmpty 4 = .ok (.ifCond .ne 7, 3) := by decide +kernel
theorem dX0_isEmpty_7 : decode cX0_isEmpty 7 = .ok (.iconst 1, 1) := by decide +kernel
theorem dX0_isEmpty_8 : decode cX0_isEmpty 8 = .ok (.goto 4, 3) := by decide +kernel
theorem dX0_isEmpty_11 : decode cX0_isEmpty 11 = .ok (.iconst 0, 1) := by decide +kernel
theorem dX0_isEmpty_12 : decode cX0_isEmpty 12 = .ok (.ireturn, 1) := by decide +kernel
theorem dX0_forgetAll_0 : decode cX0_forgetAll 0 = .ok (.aload_n 0, 1) := by decide +kernel
theorem dX0_forgetAll_1 : decode cX0_forgetAll 1 = .ok (.iconst 0, 1) := by decide +kernel
theorem dX0_forgetAll_2 : decode cX0_forgetAll 2 = .ok (.putfield 18, 3) := by decide +kernel
theorem dX0_forgetAll_5 : decode cX0_forgetAll 5 = .ok (.return_, 1) := by decide +kernel
theorem dX0_remember_0 : decode cX0_remember 0 = .ok (.aload_n 0, 1) := by decide +kernel
theorem dX0_remember_1 : decode cX0_remember 1 = .ok (.getfield 18, 3) := by decide +kernel
theorem dX0_remember_4 : decode cX0_remember 4 = .ok (.aload_n 0, 1) := by decide +kernel
theorem dX0_remember_5 : decode cX0_remember 5 = .ok (.getfield 11, 3) := by decide +kernel
theorem dX0_remember_8 : decode cX0_remember 8 = .ok (.arraylength, 1) := by decide +kernel
theorem dX0_remember_9 : decode cX0_remember 9 = .ok (.if_icmp .lt 7, 3) := by decide +kernel
theorem dX0_remember_12 : decode cX0_remember 12 = .ok (.aload_n 0, 1) := by decide +kernel
theorem dX0_remember_13 : decode cX0_remember 13 = .ok (.invokevirtual 22, 3) := by decide +kernel
theorem dX0_remember_16 : decode cX0_remember 16 = .ok (.aload_n 0, 1) := by decide +kernel
theorem dX0_remember_17 : decode cX0_remember 17 = .ok (.getfield 18, 3) := by decide +kernel
theorem dX0_remember_20 : decode cX0_remember 20 = .ok (.ifCond .lt 38, 3) := by decide +kernel
theorem dX0_remember_23 : decode cX0_remember 23 = .ok (.aload_n 0, 1) := by decide +kernel
theorem dX0_remember_24 : decode cX0_remember 24 = .ok (.getfield 18, 3) := by decide +kernel
theorem dX0_remember_27 : decode cX0_remember 27 = .ok (.aload_n 0, 1) := by decide +kernel
theorem dX0_remember_28 : decode cX0_remember 28 = .ok (.getfield 11, 3) := by decide +kernel
theorem dX0_remember_31 : decode cX0_remember 31 = .ok (.arraylength, 1) := by decide +kernel
theorem dX0_remember_32 : decode cX0_remember 32 = .ok (.if_icmp .ge 26, 3) := by decide +kernel
theorem dX0_remember_35 : decode cX0_remember 35 = .ok (.aload_n 0, 1) := by decide +kernel
theorem dX0_remember_36 : decode cX0_remember 36 = .ok (.getfield 11, 3) := by decide +kernel
theorem dX0_remember_39 : decode cX0_remember 39 = .ok (.aload_n 0, 1) := by decide +kernel
theorem dX0_remember_40 : decode cX0_remember 40 = .ok (.getfield 18, 3) := by decide +kernel
theorem dX0_remember_43 : decode cX0_remember 43 = .ok (.aaload, 1) := by decide +kernel
theorem dX0_remember_44 : decode cX0_remember 44 = .ok (.aload_n 1, 1) := by decide +kernel
theorem dX0_remember_45 : decode cX0_remember 45 = .ok (.invokevirtual 25, 3) := by decide +kernel
theorem dX0_remember_48 : decode cX0_remember 48 = .ok (.aload_n 0, 1) := by decide +kernel
theorem dX0_remember_49 : decode cX0_remember 49 = .ok (.dup, 1) := by decide +kernel
theorem dX0_remember_50 : decode cX0_remember 50 = .ok (.getfield 18, 3) := by decide +kernel
theorem dX0_remember_53 : decode cX0_remember 53 = .ok (.iconst 1, 1) := by decide +kernel
theorem dX0_remember_54 : decode cX0_remember 54 = .ok (.iadd, 1) := by decide +kernel
theorem dX0_remember_55 : decode cX0_remember 55 = .ok (.putfield 18, 3) := by decide +kernel
theorem dX0_remember_58 : decode cX0_remember 58 = .ok (.return_, 1) := by decide +kernel
theorem dX0_forgetOldest_0 : decode cX0_forgetOldest 0 = .ok (.iconst 1, 1) := by decide +kernel
theorem dX0_forgetOldest_1 : decode cX0_forgetOldest 1 = .ok (.istore_n 1, 1) := by decide +kernel
theorem dX0_forgetOldest_2 : decode cX0_forgetOldest 2 = .ok (.iload_n 1, 1) := by decide +kernel
theorem dX0_forgetOldest_3 : decode cX0_forgetOldest 3 = .ok (.aload_n 0, 1) := by decide +kernel
theorem dX0_forgetOldest_4 : decode cX0_forgetOldest 4 = .ok (.getfield 11, 3) := by decide +kernel
theorem dX0_forgetOldest_7 : decode cX0_forgetOldest 7 = .ok (.arraylength, 1) := by decide +kernel
theorem dX0_forgetOldest_8 : decode cX0_forgetOldest 8 = .ok (.if_icmp .ge 39, 3) := by decide +kernel
theorem dX0_forgetOldest_11 : decode cX0_forgetOldest 11 = .ok (.aload_n 0, 1) := by decide +kernel
theorem dX0_forgetOldest_12 : decode cX0_forgetOldest 12 = .ok (.getfield 11, 3) := by decide +kernel
theorem dX0_forgetOldest_15 : decode cX0_forgetOldest 15 = .ok (.iload_n 1, 1) := by decide +kernel
theorem dX0_forgetOldest_16 : decode cX0_forgetOldest 16 = .ok (.iconst 1, 1) := by decide +kernel
theorem dX0_forgetOldest_17 : decode cX0_forgetOldest 17 = .ok (.isub, 1) := by decide +kernel
theorem dX0_forgetOldest_18 : decode cX0_forgetOldest 18 = .ok (.aaload, 1) := by decide +kernel
theorem dX0_forgetOldest_19 : decode cX0_forgetOldest 19 = .ok (.astore_n 2, 1) := by decide +kernel
theorem dX0_forgetOldest_20 : decode cX0_forgetOldest 20 = .ok (.aload_n 0, 1) := by decide +kernel
theorem dX0_forgetOldest_21 : decode cX0_forgetOldest 21 = .ok (.getfield 11, 3) := by decide +kernel
theorem dX0_forgetOldest_24 : decode cX0_forgetOldest 24 = .ok (.iload_n 1, 1) := by decide +kernel
theorem dX0_forgetOldest_25 : decode cX0_forgetOldest 25 = .ok (.iconst 1, 1) := by decide +kernel
theorem dX0_forgetOldest_26 : decode cX0_forgetOldest 26 = .ok (.isub, 1) := by decide +kernel
theorem dX0_forgetOldest_27 : decode cX0_forgetOldest 27 = .ok (.aload_n 0, 1) := by decide +kernel
theorem dX0_forgetOldest_28 : decode cX0_forgetOldest 28 = .ok (.getfield 11, 3) := by decide +kernel
theorem dX0_forgetOldest_31 : decode cX0_forgetOldest 31 = .ok (.iload_n 1, 1) := by decide +kernel
theorem dX0_forgetOldest_32 : decode cX0_forgetOldest 32 = .ok (.aaload, 1) := by decide +kernel
theorem dX0_forgetOldest_33 : decode cX0_forgetOldest 33 = .ok (.aastore, 1) := by decide +kernel
theorem dX0_forgetOldest_34 : decode cX0_forgetOldest 34 = .ok (.aload_n 0, 1) := by decide +kernel
theorem dX0_forgetOldest_35 : decode cX0_forgetOldest 35 = .ok (.getfield 11, 3) := by decide +kernel
theorem dX0_forgetOldest_38 : decode cX0_forgetOldest 38 = .ok (.iload_n 1, 1) := by decide +kernel
theorem dX0_forgetOldest_39 : decode cX0_forgetOldest 39 = .ok (.aload_n 2, 1) := by decide +kernel
theorem dX0_forgetOldest_40 : decode cX0_forgetOldest 40 = .ok (.aastore, 1) := by decide +kernel
theorem dX0_forgetOldest_41 : decode cX0_forgetOldest 41 = .ok (.iinc 1 1, 3) := by decide +kernel
theorem dX0_forgetOldest_44 : decode cX0_forgetOldest 44 = .ok (.goto (-42), 3) := by decide +kernel
theorem dX0_forgetOldest_47 : decode cX0_forgetOldest 47 = .ok (.aload_n 0, 1) := by decide +kernel
theorem dX0_forgetOldest_48 : decode cX0_forgetOldest 48 = .ok (.dup, 1) := by decide +kernel
theorem dX0_forgetOldest_49 : decode cX0_forgetOldest 49 = .ok (.getfield 18, 3) := by decide +kernel
theorem dX0_forgetOldest_52 : decode cX0_forgetOldest 52 = .ok (.iconst 1, 1) := by decide +kernel
theorem dX0_forgetOldest_53 : decode cX0_forgetOldest 53 = .ok (.isub, 1) := by decide +kernel
theorem dX0_forgetOldest_54 : decode cX0_forgetOldest 54 = .ok (.putfield 18, 3) := by decide +kernel
theorem dX0_forgetOldest_57 : decode cX0_forgetOldest 57 = .ok (.return_, 1) := by decide +kernel
theorem dX0_takeBack_0 : decode cX0_takeBack 0 = .ok (.aload_n 0, 1) := by decide +kernel
theorem dX0_takeBack_1 : decode cX0_takeBack 1 = .ok (.getfield 18, 3) := by decide +kernel
theorem dX0_takeBack_4 : decode cX0_takeBack 4 = .ok (.ifCond .le 38, 3) := by decide +kernel
theorem dX0_takeBack_7 : decode cX0_takeBack 7 = .ok (.aload_n 0, 1) := by decide +kernel
theorem dX0_takeBack_8 : decode cX0_takeBack 8 = .ok (.getfield 18, 3) := by decide +kernel
theorem dX0_takeBack_11 : decode cX0_takeBack 11 = .ok (.aload_n 0, 1) := by decide +kernel
theorem dX0_takeBack_12 : decode cX0_takeBack 12 = .ok (.getfield 11, 3) := by decide +kernel
theorem dX0_takeBack_15 : decode cX0_takeBack 15 = .ok (.arraylength, 1) := by decide +kernel
theorem dX0_takeBack_16 : decode cX0_takeBack 16 = .ok (.if_icmp .gt 26, 3) := by decide +kernel
theorem dX0_takeBack_19 : decode cX0_takeBack 19 = .ok (.aload_n 0, 1) := by decide +kernel
theorem dX0_takeBack_20 : decode cX0_takeBack 20 = .ok (.dup, 1) := by decide +kernel
theorem dX0_takeBack_21 : decode cX0_takeBack 21 = .ok (.getfield 18, 3) := by decide +kernel
theorem dX0_takeBack_24 : decode cX0_takeBack 24 = .ok (.iconst 1, 1) := by decide +kernel
theorem dX0_takeBack_25 : decode cX0_takeBack 25 = .ok (.isub, 1) := by decide +kernel
theorem dX0_takeBack_26 : decode cX0_takeBack 26 = .ok (.putfield 18, 3) := by decide +kernel
theorem dX0_takeBack_29 : decode cX0_takeBack 29 = .ok (.aload_n 1, 1) := by decide +kernel
theorem dX0_takeBack_30 : decode cX0_takeBack 30 = .ok (.aload_n 0, 1) := by decide +kernel
theorem dX0_takeBack_31 : decode cX0_takeBack 31 = .ok (.getfield 11, 3) := by decide +kernel
theorem dX0_takeBack_34 : decode cX0_takeBack 34 = .ok (.aload_n 0, 1) := by decide +kernel
theorem dX0_takeBack_35 : decode cX0_takeBack 35 = .ok (.getfield 18, 3) := by decide +kernel
theorem dX0_takeBack_38 : decode cX0_takeBack 38 = .ok (.aaload, 1) := by decide +kernel
theorem dX0_takeBack_39 : decode cX0_takeBack 39 = .ok (.invokevirtual 25, 3) := by decide +kernel
theorem dX0_takeBack_42 : decode cX0_takeBack 42 = .ok (.return_, 1) := by decide +kernel
theorem dX1_init_0 : decode cX1_init 0 = .ok (.aload_n 0, 1) := by decide +kernel
theorem dX1_init_1 : decode cX1_init 1 = .ok (.invokespecial 3, 3) := by decide +kernel
theorem dX1_init_4 : decode cX1_init 4 = .ok (.aload_n 0, 1) := by decide +kernel
theorem dX1_init_5 : decode cX1_init 5 = .ok (.new 9, 3) := by decide +kernel
theorem dX1_init_8 : decode cX1_init 8 = .ok (.dup, 1) := by decide +kernel
theorem dX1_init_9 : decode cX1_init 9 = .ok (.invokespecial 11, 3) := by decide +kernel
theorem dX1_init_12 : decode cX1_init 12 = .ok (.putfield 12, 3) := by decide +kernel
theorem dX1_init_15 : decode cX1_init 15 = .ok (.return_, 1) := by decide +kernel
theorem dX1_firstError_0 : decode cX1_firstError 0 = .ok (.aload_n 0, 1) := by decide +kernel
theorem dX1_firstError_1 : decode cX1_firstError 1 = .ok (.invokevirtual 18, 3) := by decide +kernel
theorem dX1_firstError_4 : decode cX1_firstError 4 = .ok (.iconst 1, 1) := by decide +kernel
theorem dX1_firstError_5 : decode cX1_firstError 5 = .ok (.istore_n 1, 1) := by decide +kernel
theorem dX1_firstError_6 : decode cX1_firstError 6 = .ok (.iconst 0, 1) := by decide +kernel
theorem dX1_firstError_7 : decode cX1_firstError 7 = .ok (.istore_n 2, 1) := by decide +kernel
theorem dX1_firstError_8 : decode cX1_firstError 8 = .ok (.iload_n 2, 1) := by decide +kernel
theorem dX1_firstError_9 : decode cX1_firstError 9 = .ok (.bipush 120, 2) := by decide +kernel
theorem dX1_firstError_11 : decode cX1_firstError 11 = .ok (.if_icmp .ge 18, 3) := by decide +kernel
theorem dX1_firstError_14 : decode cX1_firstError 14 = .ok (.iload_n 1, 1) := by decide +kernel
theorem dX1_firstError_15 : decode cX1_firstError 15 = .ok (.ifCond .eq 14, 3) := by decide +kernel
theorem dX1_firstError_18 : decode cX1_firstError 18 = .ok (.aload_n 0, 1) := by decide +kernel
theorem dX1_firstError_19 : decode cX1_firstError 19 = .ok (.invokevirtual 21, 3) := by decide +kernel
theorem dX1_firstError_22 : decode cX1_firstError 22 = .ok (.istore_n 1, 1) := by decide +kernel
theorem dX1_firstError_23 : decode cX1_firstError 23 = .ok (.iinc 2 1, 3) := by decide +kernel
theorem dX1_firstError_26 : decode cX1_firstError 26 = .ok (.goto (-18), 3) := by decide +kernel
theorem dX1_firstError_29 : decode cX1_firstError 29 = .ok (.aload_n 0, 1) := by decide +kernel
theorem dX1_firstError_30 : decode cX1_firstError 30 = .ok (.getfield 25, 3) := by decide +kernel
theorem dX1_firstError_33 : decode cX1_firstError 33 = .ok (.ifCond .eq 10, 3) := by decide +kernel
theorem dX1_firstError_36 : decode cX1_firstError 36 = .ok (.aload_n 0, 1) := by decide +kernel
theorem dX1_firstError_37 : decode cX1_firstError 37 = .ok (.getfield 29, 3) := by decide +kernel
theorem dX1_firstError_40 : decode cX1_firstError 40 = .ok (.goto 4, 3) := by decide +kernel
theorem dX1_firstError_43 : decode cX1_firstError 43 = .ok (.iconst (-1), 1) := by decide +kernel
theorem dX1_firstError_44 : decode cX1_firstError 44 = .ok (.ireturn, 1) := by decide +kernel
theorem dX1_start_0 : decode cX1_start 0 = .ok (.aload_n 0, 1) := by decide +kernel
theorem dX1_start_1 : decode cX1_start 1 = .ok (.iconst 0, 1) := by decide +kernel
theorem dX1_start_2 : decode cX1_start 2 = .ok (.putfield 29, 3) := by decide +kernel
theorem dX1_start_5 : decode cX1_start 5 = .ok (.aload_n 0, 1) := by decide +kernel
theorem dX1_start_6 : decode cX1_start 6 = .ok (.iconst 0, 1) := by decide +kernel
theorem dX1_start_7 : decode cX1_start 7 = .ok (.putfield 25, 3) := by decide +kernel
theorem dX1_start_10 : decode cX1_start 10 = .ok (.aload_n 0, 1) := by decide +kernel
theorem dX1_start_11 : decode cX1_start 11 = .ok (.aload_n 0, 1) := by decide +kernel
theorem dX1_start_12 : decode cX1_start 12 = .ok (.getfield 12, 3) := by decide +kernel
theorem dX1_start_15 : decode cX1_start 15 = .ok (.iconst 0, 1) := by decide +kernel
theorem dX1_start_16 : decode cX1_start 16 = .ok (.invokevirtual 33, 3) := by decide +kernel
theorem dX1_start_19 : decode cX1_start 19 = .ok (.bipush 77, 2) := by decide +kernel
theorem dX1_start_21 : decode cX1_start 21 = .ok (.if_icmp .ne 7, 3) := by decide +kernel
theorem dX1_start_24 : decode cX1_start 24 = .ok (.iconst 1, 1) := by decide +kernel
theorem dX1_start_25 : decode cX1_start 25 = .ok (.goto 4, 3) := by decide +kernel
theorem dX1_start_28 : decode cX1_start 28 = .ok (.iconst 0, 1) := by decide +kernel
theorem dX1_start_29 : decode cX1_start 29 = .ok (.invokevirtual 37, 3) := by decide +kernel
theorem dX1_start_32 : decode cX1_start 32 = .ok (.return_, 1) := by decide +kernel
theorem dX1_readsCommand_0 : decode cX1_readsCommand 0 = .ok (.aload_n 0, 1) := by decide +kernel
theorem dX1_readsCommand_1 : decode cX1_readsCommand 1 = .ok (.getfield 25, 3) := by decide +kernel
theorem dX1_readsCommand_4 : decode cX1_readsCommand 4 = .ok (.ifCond .ne 18, 3) := by decide +kernel
theorem dX1_readsCommand_7 : decode cX1_readsCommand 7 = .ok (.aload_n 0, 1) := by decide +kernel
theorem dX1_readsCommand_8 : decode cX1_readsCommand 8 = .ok (.getfield 12, 3) := by decide +kernel
theorem dX1_readsCommand_11 : decode cX1_readsCommand 11 = .ok (.aload_n 0, 1) := by decide +kernel
theorem dX1_readsCommand_12 : decode cX1_readsCommand 12 = .ok (.getfield 29, 3) := by decide +kernel
theorem dX1_readsCommand_15 : decode cX1_readsCommand 15 = .ok (.invokevirtual 33, 3) := by decide +kernel
theorem dX1_readsCommand_18 : decode cX1_readsCommand 18 = .ok (.iconst (-1), 1) := by decide +kernel
theorem dX1_readsCommand_19 : decode cX1_readsCommand 19 = .ok (.if_icmp .ne 5, 3) := by decide +kernel
theorem dX1_readsCommand_22 : decode cX1_readsCommand 22 = .ok (.iconst 0, 1) := by decide +kernel
theorem dX1_readsCommand_23 : decode cX1_readsCommand 23 = .ok (.ireturn, 1) := by decide +kernel
theorem dX1_readsCommand_24 : decode cX1_readsCommand 24 = .ok (.aload_n 0, 1) := by decide +kernel
theorem dX1_readsCommand_25 : decode cX1_readsCommand 25 = .ok (.aload_n 0, 1) := by decide +kernel
theorem dX1_readsCommand_26 : decode cX1_readsCommand 26 = .ok (.getfield 12, 3) := by decide +kernel
theorem dX1_readsCommand_29 : decode cX1_readsCommand 29 = .ok (.aload_n 0, 1) := by decide +kernel
theorem dX1_readsCommand_30 : decode cX1_readsCommand 30 = .ok (.getfield 29, 3) := by decide +kernel
theorem dX1_readsCommand_33 : decode cX1_readsCommand 33 = .ok (.invokevirtual 33, 3) := by decide +kernel
theorem dX1_readsCommand_36 : decode cX1_readsCommand 36 = .ok (.putfield 41, 3) := by decide +kernel
theorem dX1_readsCommand_39 : decode cX1_readsCommand 39 = .ok (.aload_n 0, 1) := by decide +kernel
theorem dX1_readsCommand_40 : decode cX1_readsCommand 40 = .ok (.aload_n 0, 1) := by decide +kernel
theorem dX1_readsCommand_41 : decode cX1_readsCommand 41 = .ok (.getfield 41, 3) := by decide +kernel
theorem dX1_readsCommand_44 : decode cX1_readsCommand 44 = .ok (.invokestatic 44, 3) := by decide +kernel
theorem dX1_readsCommand_47 : decode cX1_readsCommand 47 = .ok (.invokevirtual 37, 3) := by decide +kernel
theorem dX1_readsCommand_50 : decode cX1_readsCommand 50 = .ok (.aload_n 0, 1) := by decide +kernel
theorem dX1_readsCommand_51 : decode cX1_readsCommand 51 = .ok (.getfield 25, 3) := by decide +kernel
theorem dX1_readsCommand_54 : decode cX1_readsCommand 54 = .ok (.ifCond .eq 5, 3) := by decide +kernel
theorem dX1_readsCommand_57 : decode cX1_readsCommand 57 = .ok (.iconst 0, 1) := by decide +kernel
theorem dX1_readsCommand_58 : decode cX1_readsCommand 58 = .ok (.ireturn, 1) := by decide +kernel
theorem dX1_readsCommand_59 : decode cX1_readsCommand 59 = .ok (.aload_n 0, 1) := by decide +kernel
theorem dX1_readsCommand_60 : decode cX1_readsCommand 60 = .ok (.getfield 41, 3) := by decide +kernel
theorem dX1_readsCommand_63 : decode cX1_readsCommand 63 = .ok (.lookupswitch 95 #[(108, 79), (109, 64), (114, 33)], 33) := by decide +kernel
theorem dX1_readsCommand_96 : decode cX1_readsCommand 96 = .ok (.aload_n 0, 1) := by decide +kernel
theorem dX1_readsCommand_97 : decode cX1_readsCommand 97 = .ok (.aload_n 0, 1) := by decide +kernel
theorem dX1_readsCommand_98 : decode cX1_readsCommand 98 = .ok (.iconst 2, 1) := by decide +kernel
theorem dX1_readsCommand_99 : decode cX1_readsCommand 99 = .ok (.iconst 1, 1) := by decide +kernel
theorem dX1_readsCommand_100 : decode cX1_readsCommand 100 = .ok (.bipush 50, 2) := by decide +kernel
theorem dX1_readsCommand_102 : decode cX1_readsCommand 102 = .ok (.invokevirtual 48, 3) := by decide +kernel
theorem dX1_readsCommand_105 : decode cX1_readsCommand 105 = .ok (.putfield 52, 3) := by decide +kernel
theorem dX1_readsCommand_108 : decode cX1_readsCommand 108 = .ok (.aload_n 0, 1) := by decide +kernel
theorem dX1_readsCommand_109 : decode cX1_readsCommand 109 = .ok (.aload_n 0, 1) := by decide +kernel
theorem dX1_readsCommand_110 : decode cX1_readsCommand 110 = .ok (.invokevirtual 55, 3) := by decide +kernel
theorem dX1_readsCommand_113 : decode cX1_readsCommand 113 = .ok (.putfield 59, 3) := by decide +kernel
theorem dX1_readsCommand_116 : decode cX1_readsCommand 116 = .ok (.aload_n 0, 1) := by decide +kernel
theorem dX1_readsCommand_117 : decode cX1_readsCommand 117 = .ok (.aload_n 0, 1) := by decide +kernel
theorem dX1_readsCommand_118 : decode cX1_readsCommand 118 = .ok (.invokevirtual 55, 3) := by decide +kernel
theorem dX1_readsCommand_121 : decode cX1_readsCommand 121 = .ok (.putfield 62, 3) := by decide +kernel
theorem dX1_readsCommand_124 : decode cX1_readsCommand 124 = .ok (.goto 45, 3) := by decide +kernel
theorem dX1_readsCommand_127 : decode cX1_readsCommand 127 = .ok (.aload_n 0, 1) := by decide +kernel
theorem dX1_readsCommand_128 : decode cX1_readsCommand 128 = .ok (.aload_n 0, 1) := by decide +kernel
theorem dX1_readsCommand_129 : decode cX1_readsCommand 129 = .ok (.iconst 2, 1) := by decide +kernel
theorem dX1_readsCommand_130 : decode cX1_readsCommand 130 = .ok (.iconst 1, 1) := by decide +kernel
theorem dX1_readsCommand_131 : decode cX1_readsCommand 131 = .ok (.bipush 60, 2) := by decide +kernel
theorem dX1_readsCommand_133 : decode cX1_readsCommand 133 = .ok (.invokevirtual 48, 3) := by decide +kernel
theorem dX1_readsCommand_136 : decode cX1_readsCommand 136 = .ok (.putfield 52, 3) := by decide +kernel
theorem dX1_readsCommand_139 : decode cX1_readsCommand 139 = .ok (.goto 30, 3) := by decide +kernel
theorem dX1_readsCommand_142 : decode cX1_readsCommand 142 = .ok (.aload_n 0, 1) := by decide +kernel
theorem dX1_readsCommand_143 : decode cX1_readsCommand 143 = .ok (.aload_n 0, 1) := by decide +kernel
theorem dX1_readsCommand_144 : decode cX1_readsCommand 144 = .ok (.iconst 4, 1) := by decide +kernel
theorem dX1_readsCommand_145 : decode cX1_readsCommand 145 = .ok (.iconst 0, 1) := by decide +kernel
theorem dX1_readsCommand_146 : decode cX1_readsCommand 146 = .ok (.sipush 9999, 3) := by decide +kernel
theorem dX1_readsCommand_149 : decode cX1_readsCommand 149 = .ok (.invokevirtual 48, 3) := by decide +kernel
theorem dX1_readsCommand_152 : decode cX1_readsCommand 152 = .ok (.putfield 52, 3) := by decide +kernel
theorem dX1_readsCommand_155 : decode cX1_readsCommand 155 = .ok (.goto 14, 3) := by decide +kernel
theorem dX1_readsCommand_158 : decode cX1_readsCommand 158 = .ok (.aload_n 0, 1) := by decide +kernel
theorem dX1_readsCommand_159 : decode cX1_readsCommand 159 = .ok (.aload_n 0, 1) := by decide +kernel
theorem dX1_readsCommand_160 : decode cX1_readsCommand 160 = .ok (.iconst 1, 1) := by decide +kernel
theorem dX1_readsCommand_161 : decode cX1_readsCommand 161 = .ok (.iconst 0, 1) := by decide +kernel
theorem dX1_readsCommand_162 : decode cX1_readsCommand 162 = .ok (.iconst 5, 1) := by decide +kernel
theorem dX1_readsCommand_163 : decode cX1_readsCommand 163 = .ok (.invokevirtual 48, 3) := by decide +kernel
theorem dX1_readsCommand_166 : decode cX1_readsCommand 166 = .ok (.putfield 52, 3) := by decide +kernel
theorem dX1_readsCommand_169 : decode cX1_readsCommand 169 = .ok (.aload_n 0, 1) := by decide +kernel
theorem dX1_readsCommand_170 : decode cX1_readsCommand 170 = .ok (.getfield 25, 3) := by decide +kernel
theorem dX1_readsCommand_173 : decode cX1_readsCommand 173 = .ok (.ifCond .ne 7, 3) := by decide +kernel
theorem dX1_readsCommand_176 : decode cX1_readsCommand 176 = .ok (.iconst 1, 1) := by decide +kernel
theorem dX1_readsCommand_177 : decode cX1_readsCommand 177 = .ok (.goto 4, 3) := by decide +kernel
theorem dX1_readsCommand_180 : decode cX1_readsCommand 180 = .ok (.iconst 0, 1) := by decide +kernel
theorem dX1_readsCommand_181 : decode cX1_readsCommand 181 = .ok (.ireturn, 1) := by decide +kernel
theorem dX1_isCommand_0 : decode cX1_isCommand 0 = .ok (.iload_n 0, 1) := by decide +kernel
theorem dX1_isCommand_1 : decode cX1_isCommand 1 = .ok (.bipush 114, 2) := by decide +kernel
theorem dX1_isCommand_3 : decode cX1_isCommand 3 = .ok (.if_icmp .eq 27, 3) := by decide +kernel
theorem dX1_isCommand_6 : decode cX1_isCommand 6 = .ok (.iload_n 0, 1) := by decide +kernel
theorem dX1_isCommand_7 : decode cX1_isCommand 7 = .ok (.bipush 111, 2) := by decide +kernel
theorem dX1_isCommand_9 : decode cX1_isCommand 9 = .ok (.if_icmp .eq 21, 3) := by decide +kernel
theorem dX1_isCommand_12 : decode cX1_isCommand 12 = .ok (.iload_n 0, 1) := by decide +kernel
theorem dX1_isCommand_13 : decode cX1_isCommand 13 = .ok (.bipush 122, 2) := by decide +kernel
theorem dX1_isCommand_15 : decode cX1_isCommand 15 = .ok (.if_icmp .eq 15, 3) := by decide +kernel
theorem dX1_isCommand_18 : decode cX1_isCommand 18 = .ok (.iload_n 0, 1) := by decide +kernel
theorem dX1_isCommand_19 : decode cX1_isCommand 19 = .ok (.bipush 109, 2) := by decide +kernel
theorem dX1_isCommand_21 : decode cX1_isCommand 21 = .ok (.if_icmp .eq 9, 3) := by decide +kernel
theorem dX1_isCommand_24 : decode cX1_isCommand 24 = .ok (.iload_n 0, 1) := by decide +kernel
theorem dX1_isCommand_25 : decode cX1_isCommand 25 = .ok (.bipush 108, 2) := by decide +kernel
theorem dX1_isCommand_27 : decode cX1_isCommand 27 = .ok (.if_icmp .ne 7, 3) := by decide +kernel
theorem dX1_isCommand_30 : decode cX1_isCommand 30 = .ok (.iconst 1, 1) := by decide +kernel
theorem dX1_isCommand_31 : decode cX1_isCommand 31 = .ok (.goto 4, 3) := by decide +kernel
theorem dX1_isCommand_34 : decode cX1_isCommand 34 = .ok (.iconst 0, 1) := by decide +kernel
theorem dX1_isCommand_35 : decode cX1_isCommand 35 = .ok (.ireturn, 1) := by decide +kernel
theorem dX1_moveIf_0 : decode cX1_moveIf 0 = .ok (.iload_n 1, 1) := by decide +kernel
theorem dX1_moveIf_1 : decode cX1_moveIf 1 = .ok (.ifCond .eq 23, 3) := by decide +kernel
theorem dX1_moveIf_4 : decode cX1_moveIf 4 = .ok (.aload_n 0, 1) := by decide +kernel
theorem dX1_moveIf_5 : decode cX1_moveIf 5 = .ok (.getfield 25, 3) := by decide +kernel
theorem dX1_moveIf_8 : decode cX1_moveIf 8 = .ok (.ifCond .ne 16, 3) := by decide +kernel
theorem dX1_moveIf_11 : decode cX1_moveIf 11 = .ok (.aload_n 0, 1) := by decide +kernel
theorem dX1_moveIf_12 : decode cX1_moveIf 12 = .ok (.dup, 1) := by decide +kernel
theorem dX1_moveIf_13 : decode cX1_moveIf 13 = .ok (.getfield 29, 3) := by decide +kernel
theorem dX1_moveIf_16 : decode cX1_moveIf 16 = .ok (.iconst 1, 1) := by decide +kernel
theorem dX1_moveIf_17 : decode cX1_moveIf 17 = .ok (.iadd, 1) := by decide +kernel
theorem dX1_moveIf_18 : decode cX1_moveIf 18 = .ok (.putfield 29, 3) := by decide +kernel
theorem dX1_moveIf_21 : decode cX1_moveIf 21 = .ok (.goto 8, 3) := by decide +kernel
theorem dX1_moveIf_24 : decode cX1_moveIf 24 = .ok (.aload_n 0, 1) := by decide +kernel
theorem dX1_moveIf_25 : decode cX1_moveIf 25 = .ok (.iconst 1, 1) := by decide +kernel
theorem dX1_moveIf_26 : decode cX1_moveIf 26 = .ok (.putfield 25, 3) := by decide +kernel
theorem dX1_moveIf_29 : decode cX1_moveIf 29 = .ok (.return_, 1) := by decide +kernel
theorem dX1_readTemperature_0 : decode cX1_readTemperature 0 = .ok (.aload_n 0, 1) := by decide +kernel
theorem dX1_readTemperature_1 : decode cX1_readTemperature 1 = .ok (.getfield 12, 3) := by decide +kernel
theorem dX1_readTemperature_4 : decode cX1_readTemperature 4 = .ok (.aload_n 0, 1) := by decide +kernel
theorem dX1_readTemperature_5 : decode cX1_readTemperature 5 = .ok (.getfield 29, 3) := by decide +kernel
theorem dX1_readTemperature_8 : decode cX1_readTemperature 8 = .ok (.invokevirtual 33, 3) := by decide +kernel
theorem dX1_readTemperature_11 : decode cX1_readTemperature 11 = .ok (.istore_n 1, 1) := by decide +kernel
theorem dX1_readTemperature_12 : decode cX1_readTemperature 12 = .ok (.aload_n 0, 1) := by decide +kernel
theorem dX1_readTemperature_13 : decode cX1_readTemperature 13 = .ok (.iload_n 1, 1) := by decide +kernel
theorem dX1_readTemperature_14 : decode cX1_readTemperature 14 = .ok (.bipush 43, 2) := by decide +kernel
theorem dX1_readTemperature_16 : decode cX1_readTemperature 16 = .ok (.if_icmp .eq 9, 3) := by decide +kernel
theorem dX1_readTemperature_19 : decode cX1_readTemperature 19 = .ok (.iload_n 1, 1) := by decide +kernel
theorem dX1_readTemperature_20 : decode cX1_readTemperature 20 = .ok (.bipush 45, 2) := by decide +kernel
theorem dX1_readTemperature_22 : decode cX1_readTemperature 22 = .ok (.if_icmp .ne 7, 3) := by decide +kernel
theorem dX1_readTemperature_25 : decode cX1_readTemperature 25 = .ok (.iconst 1, 1) := by decide +kernel
theorem dX1_readTemperature_26 : decode cX1_readTemperature 26 = .ok (.goto 4, 3) := by decide +kernel
theorem dX1_readTemperature_29 : decode cX1_readTemperature 29 = .ok (.iconst 0, 1) := by decide +kernel
theorem dX1_readTemperature_30 : decode cX1_readTemperature 30 = .ok (.invokevirtual 37, 3) := by decide +kernel
theorem dX1_readTemperature_33 : decode cX1_readTemperature 33 = .ok (.iload_n 1, 1) := by decide +kernel
theorem dX1_readTemperature_34 : decode cX1_readTemperature 34 = .ok (.bipush 45, 2) := by decide +kernel
theorem dX1_readTemperature_36 : decode cX1_readTemperature 36 = .ok (.if_icmp .ne 14, 3) := by decide +kernel
theorem dX1_readTemperature_39 : decode cX1_readTemperature 39 = .ok (.aload_n 0, 1) := by decide +kernel
theorem dX1_readTemperature_40 : decode cX1_readTemperature 40 = .ok (.iconst 3, 1) := by decide +kernel
theorem dX1_readTemperature_41 : decode cX1_readTemperature 41 = .ok (.iconst 0, 1) := by decide +kernel
theorem dX1_readTemperature_42 : decode cX1_readTemperature 42 = .ok (.sipush 300, 3) := by decide +kernel
theorem dX1_readTemperature_45 : decode cX1_readTemperature 45 = .ok (.invokevirtual 48, 3) := by decide +kernel
theorem dX1_readTemperature_48 : decode cX1_readTemperature 48 = .ok (.ineg, 1) := by decide +kernel
theorem dX1_readTemperature_49 : decode cX1_readTemperature 49 = .ok (.ireturn, 1) := by decide +kernel
theorem dX1_readTemperature_50 : decode cX1_readTemperature 50 = .ok (.aload_n 0, 1) := by decide +kernel
theorem dX1_readTemperature_51 : decode cX1_readTemperature 51 = .ok (.iconst 3, 1) := by decide +kernel
theorem dX1_readTemperature_52 : decode cX1_readTemperature 52 = .ok (.iconst 0, 1) := by decide +kernel
theorem dX1_readTemperature_53 : decode cX1_readTemperature 53 = .ok (.sipush 200, 3) := by decide +kernel
theorem dX1_readTemperature_56 : decode cX1_readTemperature 56 = .ok (.invokevirtual 48, 3) := by decide +kernel
theorem dX1_readTemperature_59 : decode cX1_readTemperature 59 = .ok (.ireturn, 1) := by decide +kernel
theorem dX1_readNumber_0 : decode cX1_readNumber 0 = .ok (.iconst 0, 1) := by decide +kernel
theorem dX1_readNumber_1 : decode cX1_readNumber 1 = .ok (.istore 4, 2) := by decide +kernel
theorem dX1_readNumber_3 : decode cX1_readNumber 3 = .ok (.iconst 1, 1) := by decide +kernel
theorem dX1_readNumber_4 : decode cX1_readNumber 4 = .ok (.istore 5, 2) := by decide +kernel
theorem dX1_readNumber_6 : decode cX1_readNumber 6 = .ok (.iload 5, 2) := by decide +kernel
theorem dX1_readNumber_8 : decode cX1_readNumber 8 = .ok (.iload_n 1, 1) := by decide +kernel
theorem dX1_readNumber_9 : decode cX1_readNumber 9 = .ok (.if_icmp .gt 85, 3) := by decide +kernel
theorem dX1_readNumber_12 : decode cX1_readNumber 12 = .ok (.aload_n 0, 1) := by decide +kernel
theorem dX1_readNumber_13 : decode cX1_readNumber 13 = .ok (.getfield 12, 3) := by decide +kernel
theorem dX1_readNumber_16 : decode cX1_readNumber 16 = .ok (.aload_n 0, 1) := by decide +kernel
theorem dX1_readNumber_17 : decode cX1_readNumber 17 = .ok (.getfield 29, 3) := by decide +kernel
theorem dX1_readNumber_20 : decode cX1_readNumber 20 = .ok (.invokevirtual 33, 3) := by decide +kernel
theorem dX1_readNumber_23 : decode cX1_readNumber 23 = .ok (.istore 6, 2) := by decide +kernel
theorem dX1_readNumber_25 : decode cX1_readNumber 25 = .ok (.iload 4, 2) := by decide +kernel
theorem dX1_readNumber_27 : decode cX1_readNumber 27 = .ok (.bipush 10, 2) := by decide +kernel
theorem dX1_readNumber_29 : decode cX1_readNumber 29 = .ok (.imul, 1) := by decide +kernel
theorem dX1_readNumber_30 : decode cX1_readNumber 30 = .ok (.iload 6, 2) := by decide +kernel
theorem dX1_readNumber_32 : decode cX1_readNumber 32 = .ok (.iadd, 1) := by decide +kernel
theorem dX1_readNumber_33 : decode cX1_readNumber 33 = .ok (.bipush 48, 2) := by decide +kernel
theorem dX1_readNumber_35 : decode cX1_readNumber 35 = .ok (.isub, 1) := by decide +kernel
theorem dX1_readNumber_36 : decode cX1_readNumber 36 = .ok (.istore 7, 2) := by decide +kernel
theorem dX1_readNumber_38 : decode cX1_readNumber 38 = .ok (.aload_n 0, 1) := by decide +kernel
theorem dX1_readNumber_39 : decode cX1_readNumber 39 = .ok (.iload 6, 2) := by decide +kernel
theorem dX1_readNumber_41 : decode cX1_readNumber 41 = .ok (.bipush 48, 2) := by decide +kernel
theorem dX1_readNumber_43 : decode cX1_readNumber 43 = .ok (.if_icmp .lt 28, 3) := by decide +kernel
theorem dX1_readNumber_46 : decode cX1_readNumber 46 = .ok (.iload 6, 2) := by decide +kernel
theorem dX1_readNumber_48 : decode cX1_readNumber 48 = .ok (.bipush 57, 2) := by decide +kernel
theorem dX1_readNumber_50 : decode cX1_readNumber 50 = .ok (.if_icmp .gt 21, 3) := by decide +kernel
theorem dX1_readNumber_53 : decode cX1_readNumber 53 = .ok (.iload 7, 2) := by decide +kernel
theorem dX1_readNumber_55 : decode cX1_readNumber 55 = .ok (.iload_n 1, 1) := by decide +kernel
theorem dX1_readNumber_56 : decode cX1_readNumber 56 = .ok (.iload 5, 2) := by decide +kernel
theorem dX1_readNumber_58 : decode cX1_readNumber 58 = .ok (.isub, 1) := by decide +kernel
theorem dX1_readNumber_59 : decode cX1_readNumber 59 = .ok (.iload_n 2, 1) := by decide +kernel
theorem dX1_readNumber_60 : decode cX1_readNumber 60 = .ok (.iload_n 3, 1) := by decide +kernel
theorem dX1_readNumber_61 : decode cX1_readNumber 61 = .ok (.invokestatic 65, 3) := by decide +kernel
theorem dX1_readNumber_64 : decode cX1_readNumber 64 = .ok (.ifCond .eq 7, 3) := by decide +kernel
theorem dX1_readNumber_67 : decode cX1_readNumber 67 = .ok (.iconst 1, 1) := by decide +kernel
theorem dX1_readNumber_68 : decode cX1_readNumber 68 = .ok (.goto 4, 3) := by decide +kernel
theorem dX1_readNumber_71 : decode cX1_readNumber 71 = .ok (.iconst 0, 1) := by decide +kernel
theorem dX1_readNumber_72 : decode cX1_readNumber 72 = .ok (.invokevirtual 37, 3) := by decide +kernel
theorem dX1_readNumber_75 : decode cX1_readNumber 75 = .ok (.aload_n 0, 1) := by decide +kernel
theorem dX1_readNumber_76 : decode cX1_readNumber 76 = .ok (.getfield 25, 3) := by decide +kernel
theorem dX1_readNumber_79 : decode cX1_readNumber 79 = .ok (.ifCond .eq 5, 3) := by decide +kernel
theorem dX1_readNumber_82 : decode cX1_readNumber 82 = .ok (.iconst 0, 1) := by decide +kernel
theorem dX1_readNumber_83 : decode cX1_readNumber 83 = .ok (.ireturn, 1) := by decide +kernel
theorem dX1_readNumber_84 : decode cX1_readNumber 84 = .ok (.iload 7, 2) := by decide +kernel
theorem dX1_readNumber_86 : decode cX1_readNumber 86 = .ok (.istore 4, 2) := by decide +kernel
theorem dX1_readNumber_88 : decode cX1_readNumber 88 = .ok (.iinc 5 1, 3) := by decide +kernel
theorem dX1_readNumber_91 : decode cX1_readNumber 91 = .ok (.goto (-85), 3) := by decide +kernel
theorem dX1_readNumber_94 : decode cX1_readNumber 94 = .ok (.iload 4, 2) := by decide +kernel
theorem dX1_readNumber_96 : decode cX1_readNumber 96 = .ok (.ireturn, 1) := by decide +kernel
theorem dX1_isBegun_0 : decode cX1_isBegun 0 = .ok (.iload_n 0, 1) := by decide +kernel
theorem dX1_isBegun_1 : decode cX1_isBegun 1 = .ok (.istore 4, 2) := by decide +kernel
theorem dX1_isBegun_3 : decode cX1_isBegun 3 = .ok (.iload_n 0, 1) := by decide +kernel
theorem dX1_isBegun_4 : decode cX1_isBegun 4 = .ok (.istore 5, 2) := by decide +kernel
theorem dX1_isBegun_6 : decode cX1_isBegun 6 = .ok (.iconst 0, 1) := by decide +kernel
theorem dX1_isBegun_7 : decode cX1_isBegun 7 = .ok (.istore 6, 2) := by decide +kernel
theorem dX1_isBegun_9 : decode cX1_isBegun 9 = .ok (.iload 6, 2) := by decide +kernel
theorem dX1_isBegun_11 : decode cX1_isBegun 11 = .ok (.iload_n 1, 1) := by decide +kernel
theorem dX1_isBegun_12 : decode cX1_isBegun 12 = .ok (.if_icmp .ge 26, 3) := by decide +kernel
theorem dX1_isBegun_15 : decode cX1_isBegun 15 = .ok (.iload 4, 2) := by decide +kernel
theorem dX1_isBegun_17 : decode cX1_isBegun 17 = .ok (.bipush 10, 2) := by decide +kernel
theorem dX1_isBegun_19 : decode cX1_isBegun 19 = .ok (.imul, 1) := by decide +kernel
theorem dX1_isBegun_20 : decode cX1_isBegun 20 = .ok (.istore 4, 2) := by decide +kernel
theorem dX1_isBegun_22 : decode cX1_isBegun 22 = .ok (.iload 5, 2) := by decide +kernel
theorem dX1_isBegun_24 : decode cX1_isBegun 24 = .ok (.bipush 10, 2) := by decide +kernel
theorem dX1_isBegun_26 : decode cX1_isBegun 26 = .ok (.imul, 1) := by decide +kernel
theorem dX1_isBegun_27 : decode cX1_isBegun 27 = .ok (.bipush 9, 2) := by decide +kernel
theorem dX1_isBegun_29 : decode cX1_isBegun 29 = .ok (.iadd, 1) := by decide +kernel
theorem dX1_isBegun_30 : decode cX1_isBegun 30 = .ok (.istore 5, 2) := by decide +kernel
theorem dX1_isBegun_32 : decode cX1_isBegun 32 = .ok (.iinc 6 1, 3) := by decide +kernel
theorem dX1_isBegun_35 : decode cX1_isBegun 35 = .ok (.goto (-26), 3) := by decide +kernel
theorem dX1_isBegun_38 : decode cX1_isBegun 38 = .ok (.iload 4, 2) := by decide +kernel
theorem dX1_isBegun_40 : decode cX1_isBegun 40 = .ok (.iload_n 3, 1) := by decide +kernel
theorem dX1_isBegun_41 : decode cX1_isBegun 41 = .ok (.if_icmp .gt 13, 3) := by decide +kernel
theorem dX1_isBegun_44 : decode cX1_isBegun 44 = .ok (.iload 5, 2) := by decide +kernel
theorem dX1_isBegun_46 : decode cX1_isBegun 46 = .ok (.iload_n 2, 1) := by decide +kernel
theorem dX1_isBegun_47 : decode cX1_isBegun 47 = .ok (.if_icmp .lt 7, 3) := by decide +kernel
theorem dX1_isBegun_50 : decode cX1_isBegun 50 = .ok (.iconst 1, 1) := by decide +kernel
theorem dX1_isBegun_51 : decode cX1_isBegun 51 = .ok (.goto 4, 3) := by decide +kernel
theorem dX1_isBegun_54 : decode cX1_isBegun 54 = .ok (.iconst 0, 1) := by decide +kernel
theorem dX1_isBegun_55 : decode cX1_isBegun 55 = .ok (.ireturn, 1) := by decide +kernel
theorem dX2_init_0 : decode cX2_init 0 = .ok (.aload_n 0, 1) := by decide +kernel
theorem dX2_init_1 : decode cX2_init 1 = .ok (.invokespecial 3, 3) := by decide +kernel
theorem dX2_init_4 : decode cX2_init 4 = .ok (.aload_n 0, 1) := by decide +kernel
theorem dX2_init_5 : decode cX2_init 5 = .ok (.iload_n 1, 1) := by decide +kernel
theorem dX2_init_6 : decode cX2_init 6 = .ok (.putfield 9, 3) := by decide +kernel
theorem dX2_init_9 : decode cX2_init 9 = .ok (.return_, 1) := by decide +kernel
theorem dX2_isThere_0 : decode cX2_isThere 0 = .ok (.aload_n 0, 1) := by decide +kernel
theorem dX2_isThere_1 : decode cX2_isThere 1 = .ok (.getfield 15, 3) := by decide +kernel
theorem dX2_isThere_4 : decode cX2_isThere 4 = .ok (.ifCond .le 7, 3) := by decide +kernel
theorem dX2_isThere_7 : decode cX2_isThere 7 = .ok (.iconst 1, 1) := by decide +kernel
theorem dX2_isThere_8 : decode cX2_isThere 8 = .ok (.goto 4, 3) := by decide +kernel
theorem dX2_isThere_11 : decode cX2_isThere 11 = .ok (.iconst 0, 1) := by decide +kernel
theorem dX2_isThere_12 : decode cX2_isThere 12 = .ok (.ireturn, 1) := by decide +kernel
theorem dX2_fill_0 : decode cX2_fill 0 = .ok (.aload_n 0, 1) := by decide +kernel
theorem dX2_fill_1 : decode cX2_fill 1 = .ok (.iload_n 1, 1) := by decide +kernel
theorem dX2_fill_2 : decode cX2_fill 2 = .ok (.putfield 15, 3) := by decide +kernel
theorem dX2_fill_5 : decode cX2_fill 5 = .ok (.aload_n 0, 1) := by decide +kernel
theorem dX2_fill_6 : decode cX2_fill 6 = .ok (.iload_n 2, 1) := by decide +kernel
theorem dX2_fill_7 : decode cX2_fill 7 = .ok (.putfield 18, 3) := by decide +kernel
theorem dX2_fill_10 : decode cX2_fill 10 = .ok (.aload_n 0, 1) := by decide +kernel
theorem dX2_fill_11 : decode cX2_fill 11 = .ok (.iload_n 3, 1) := by decide +kernel
theorem dX2_fill_12 : decode cX2_fill 12 = .ok (.putfield 21, 3) := by decide +kernel
theorem dX2_fill_15 : decode cX2_fill 15 = .ok (.aload_n 0, 1) := by decide +kernel
theorem dX2_fill_16 : decode cX2_fill 16 = .ok (.iload_n 2, 1) := by decide +kernel
theorem dX2_fill_17 : decode cX2_fill 17 = .ok (.putfield 24, 3) := by decide +kernel
theorem dX2_fill_20 : decode cX2_fill 20 = .ok (.aload_n 0, 1) := by decide +kernel
theorem dX2_fill_21 : decode cX2_fill 21 = .ok (.iconst 0, 1) := by decide +kernel
theorem dX2_fill_22 : decode cX2_fill 22 = .ok (.putfield 27, 3) := by decide +kernel
theorem dX2_fill_25 : decode cX2_fill 25 = .ok (.aload_n 0, 1) := by decide +kernel
theorem dX2_fill_26 : decode cX2_fill 26 = .ok (.iconst 0, 1) := by decide +kernel
theorem dX2_fill_27 : decode cX2_fill 27 = .ok (.putfield 31, 3) := by decide +kernel
theorem dX2_fill_30 : decode cX2_fill 30 = .ok (.aload_n 0, 1) := by decide +kernel
theorem dX2_fill_31 : decode cX2_fill 31 = .ok (.iconst 0, 1) := by decide +kernel
theorem dX2_fill_32 : decode cX2_fill 32 = .ok (.putfield 34, 3) := by decide +kernel
theorem dX2_fill_35 : decode cX2_fill 35 = .ok (.aload_n 0, 1) := by decide +kernel
theorem dX2_fill_36 : decode cX2_fill 36 = .ok (.iconst 0, 1) := by decide +kernel
theorem dX2_fill_37 : decode cX2_fill 37 = .ok (.putfield 37, 3) := by decide +kernel
theorem dX2_fill_40 : decode cX2_fill 40 = .ok (.return_, 1) := by decide +kernel
theorem dX2_copyFrom_0 : decode cX2_copyFrom 0 = .ok (.aload_n 0, 1) := by decide +kernel
theorem dX2_copyFrom_1 : decode cX2_copyFrom 1 = .ok (.aload_n 1, 1) := by decide +kernel
theorem dX2_copyFrom_2 : decode cX2_copyFrom 2 = .ok (.getfield 15, 3) := by decide +kernel
theorem dX2_copyFrom_5 : decode cX2_copyFrom 5 = .ok (.putfield 15, 3) := by decide +kernel
theorem dX2_copyFrom_8 : decode cX2_copyFrom 8 = .ok (.aload_n 0, 1) := by decide +kernel
theorem dX2_copyFrom_9 : decode cX2_copyFrom 9 = .ok (.aload_n 1, 1) := by decide +kernel
theorem dX2_copyFrom_10 : decode cX2_copyFrom 10 = .ok (.getfield 18, 3) := by decide +kernel
theorem dX2_copyFrom_13 : decode cX2_copyFrom 13 = .ok (.putfield 18, 3) := by decide +kernel
theorem dX2_copyFrom_16 : decode cX2_copyFrom 16 = .ok (.aload_n 0, 1) := by decide +kernel
theorem dX2_copyFrom_17 : decode cX2_copyFrom 17 = .ok (.aload_n 1, 1) := by decide +kernel
theorem dX2_copyFrom_18 : decode cX2_copyFrom 18 = .ok (.getfield 21, 3) := by decide +kernel
theorem dX2_copyFrom_21 : decode cX2_copyFrom 21 = .ok (.putfield 21, 3) := by decide +kernel
theorem dX2_copyFrom_24 : decode cX2_copyFrom 24 = .ok (.aload_n 0, 1) := by decide +kernel
theorem dX2_copyFrom_25 : decode cX2_copyFrom 25 = .ok (.aload_n 1, 1) := by decide +kernel
theorem dX2_copyFrom_26 : decode cX2_copyFrom 26 = .ok (.getfield 24, 3) := by decide +kernel
theorem dX2_copyFrom_29 : decode cX2_copyFrom 29 = .ok (.putfield 24, 3) := by decide +kernel
theorem dX2_copyFrom_32 : decode cX2_copyFrom 32 = .ok (.aload_n 0, 1) := by decide +kernel
theorem dX2_copyFrom_33 : decode cX2_copyFrom 33 = .ok (.aload_n 1, 1) := by decide +kernel
theorem dX2_copyFrom_34 : decode cX2_copyFrom 34 = .ok (.getfield 27, 3) := by decide +kernel
theorem dX2_copyFrom_37 : decode cX2_copyFrom 37 = .ok (.putfield 27, 3) := by decide +kernel
theorem dX2_copyFrom_40 : decode cX2_copyFrom 40 = .ok (.aload_n 0, 1) := by decide +kernel
theorem dX2_copyFrom_41 : decode cX2_copyFrom 41 = .ok (.aload_n 1, 1) := by decide +kernel
theorem dX2_copyFrom_42 : decode cX2_copyFrom 42 = .ok (.getfield 31, 3) := by decide +kernel
theorem dX2_copyFrom_45 : decode cX2_copyFrom 45 = .ok (.putfield 31, 3) := by decide +kernel
theorem dX2_copyFrom_48 : decode cX2_copyFrom 48 = .ok (.aload_n 0, 1) := by decide +kernel
theorem dX2_copyFrom_49 : decode cX2_copyFrom 49 = .ok (.aload_n 1, 1) := by decide +kernel
theorem dX2_copyFrom_50 : decode cX2_copyFrom 50 = .ok (.getfield 34, 3) := by decide +kernel
theorem dX2_copyFrom_53 : decode cX2_copyFrom 53 = .ok (.putfield 34, 3) := by decide +kernel
theorem dX2_copyFrom_56 : decode cX2_copyFrom 56 = .ok (.aload_n 0, 1) := by decide +kernel
theorem dX2_copyFrom_57 : decode cX2_copyFrom 57 = .ok (.aload_n 1, 1) := by decide +kernel
theorem dX2_copyFrom_58 : decode cX2_copyFrom 58 = .ok (.getfield 37, 3) := by decide +kernel
theorem dX2_copyFrom_61 : decode cX2_copyFrom 61 = .ok (.putfield 37, 3) := by decide +kernel
theorem dX2_copyFrom_64 : decode cX2_copyFrom 64 = .ok (.return_, 1) := by decide +kernel
theorem dX2_property_0 : decode cX2_property 0 = .ok (.iload_n 1, 1) := by decide +kernel
theorem dX2_property_1 : decode cX2_property 1 = .ok (.tableswitch 86 0 6 #[43, 48, 53, 58, 63, 76, 81], 43) := by decide +kernel
theorem dX2_property_44 : decode cX2_property 44 = .ok (.aload_n 0, 1) := by decide +kernel
theorem dX2_property_45 : decode cX2_property 45 = .ok (.getfield 15, 3) := by decide +kernel
theorem dX2_property_48 : decode cX2_property 48 = .ok (.ireturn, 1) := by decide +kernel
theorem dX2_property_49 : decode cX2_property 49 = .ok (.aload_n 0, 1) := by decide +kernel
theorem dX2_property_50 : decode cX2_property 50 = .ok (.getfield 18, 3) := by decide +kernel
theorem dX2_property_53 : decode cX2_property 53 = .ok (.ireturn, 1) := by decide +kernel
theorem dX2_property_54 : decode cX2_property 54 = .ok (.aload_n 0, 1) := by decide +kernel
theorem dX2_property_55 : decode cX2_property 55 = .ok (.getfield 21, 3) := by decide +kernel
theorem dX2_property_58 : decode cX2_property 58 = .ok (.ireturn, 1) := by decide +kernel
theorem dX2_property_59 : decode cX2_property 59 = .ok (.aload_n 0, 1) := by decide +kernel
theorem dX2_property_60 : decode cX2_property 60 = .ok (.getfield 24, 3) := by decide +kernel
theorem dX2_property_63 : decode cX2_property 63 = .ok (.ireturn, 1) := by decide +kernel
theorem dX2_property_64 : decode cX2_property 64 = .ok (.aload_n 0, 1) := by decide +kernel
theorem dX2_property_65 : decode cX2_property 65 = .ok (.getfield 27, 3) := by decide +kernel
theorem dX2_property_68 : decode cX2_property 68 = .ok (.ifCond .eq 7, 3) := by decide +kernel
theorem dX2_property_71 : decode cX2_property 71 = .ok (.iconst 1, 1) := by decide +kernel
theorem dX2_property_72 : decode cX2_property 72 = .ok (.goto 4, 3) := by decide +kernel
theorem dX2_property_75 : decode cX2_property 75 = .ok (.iconst 0, 1) := by decide +kernel
theorem dX2_property_76 : decode cX2_property 76 = .ok (.ireturn, 1) := by decide +kernel
theorem dX2_property_77 : decode cX2_property 77 = .ok (.aload_n 0, 1) := by decide +kernel
theorem dX2_property_78 : decode cX2_property 78 = .ok (.getfield 31, 3) := by decide +kernel
theorem dX2_property_81 : decode cX2_property 81 = .ok (.ireturn, 1) := by decide +kernel
theorem dX2_property_82 : decode cX2_property 82 = .ok (.aload_n 0, 1) := by decide +kernel
theorem dX2_property_83 : decode cX2_property 83 = .ok (.getfield 34, 3) := by decide +kernel
theorem dX2_property_86 : decode cX2_property 86 = .ok (.ireturn, 1) := by decide +kernel
theorem dX2_property_87 : decode cX2_property 87 = .ok (.aload_n 0, 1) := by decide +kernel
theorem dX2_property_88 : decode cX2_property 88 = .ok (.getfield 37, 3) := by decide +kernel
theorem dX2_property_91 : decode cX2_property 91 = .ok (.ireturn, 1) := by decide +kernel
theorem dX2_warmth_0 : decode cX2_warmth 0 = .ok (.aload_n 0, 1) := by decide +kernel
theorem dX2_warmth_1 : decode cX2_warmth 1 = .ok (.getfield 24, 3) := by decide +kernel
theorem dX2_warmth_4 : decode cX2_warmth 4 = .ok (.aload_n 0, 1) := by decide +kernel
theorem dX2_warmth_5 : decode cX2_warmth 5 = .ok (.getfield 21, 3) := by decide +kernel
theorem dX2_warmth_8 : decode cX2_warmth 8 = .ok (.isub, 1) := by decide +kernel
theorem dX2_warmth_9 : decode cX2_warmth 9 = .ok (.ireturn, 1) := by decide +kernel
theorem dX2_isWarm_0 : decode cX2_isWarm 0 = .ok (.aload_n 0, 1) := by decide +kernel
theorem dX2_isWarm_1 : decode cX2_isWarm 1 = .ok (.getfield 24, 3) := by decide +kernel
theorem dX2_isWarm_4 : decode cX2_isWarm 4 = .ok (.aload_n 0, 1) := by decide +kernel
theorem dX2_isWarm_5 : decode cX2_isWarm 5 = .ok (.getfield 21, 3) := by decide +kernel
theorem dX2_isWarm_8 : decode cX2_isWarm 8 = .ok (.if_icmp .lt 7, 3) := by decide +kernel
theorem dX2_isWarm_11 : decode cX2_isWarm 11 = .ok (.iconst 1, 1) := by decide +kernel
theorem dX2_isWarm_12 : decode cX2_isWarm 12 = .ok (.goto 4, 3) := by decide +kernel
theorem dX2_isWarm_15 : decode cX2_isWarm 15 = .ok (.iconst 0, 1) := by decide +kernel
theorem dX2_isWarm_16 : decode cX2_isWarm 16 = .ok (.ireturn, 1) := by decide +kernel
theorem dX2_planMust_0 : decode cX2_planMust 0 = .ok (.aload_n 0, 1) := by decide +kernel
theorem dX2_planMust_1 : decode cX2_planMust 1 = .ok (.getfield 15, 3) := by decide +kernel
theorem dX2_planMust_4 : decode cX2_planMust 4 = .ok (.ifCond .ne 6, 3) := by decide +kernel
theorem dX2_planMust_7 : decode cX2_planMust 7 = .ok (.bipush 8, 2) := by decide +kernel
theorem dX2_planMust_9 : decode cX2_planMust 9 = .ok (.ireturn, 1) := by decide +kernel
theorem dX2_planMust_10 : decode cX2_planMust 10 = .ok (.aload_n 0, 1) := by decide +kernel
theorem dX2_planMust_11 : decode cX2_planMust 11 = .ok (.getfield 34, 3) := by decide +kernel
theorem dX2_planMust_14 : decode cX2_planMust 14 = .ok (.ifCond .le 5, 3) := by decide +kernel
theorem dX2_planMust_17 : decode cX2_planMust 17 = .ok (.iconst 0, 1) := by decide +kernel
theorem dX2_planMust_18 : decode cX2_planMust 18 = .ok (.ireturn, 1) := by decide +kernel
theorem dX2_planMust_19 : decode cX2_planMust 19 = .ok (.aload_n 0, 1) := by decide +kernel
theorem dX2_planMust_20 : decode cX2_planMust 20 = .ok (.getfield 24, 3) := by decide +kernel
theorem dX2_planMust_23 : decode cX2_planMust 23 = .ok (.aload_n 0, 1) := by decide +kernel
theorem dX2_planMust_24 : decode cX2_planMust 24 = .ok (.getfield 21, 3) := by decide +kernel
theorem dX2_planMust_27 : decode cX2_planMust 27 = .ok (.if_icmp .lt 5, 3) := by decide +kernel
theorem dX2_planMust_30 : decode cX2_planMust 30 = .ok (.iconst 1, 1) := by decide +kernel
theorem dX2_planMust_31 : decode cX2_planMust 31 = .ok (.ireturn, 1) := by decide +kernel
theorem dX2_planMust_32 : decode cX2_planMust 32 = .ok (.aload_n 0, 1) := by decide +kernel
theorem dX2_planMust_33 : decode cX2_planMust 33 = .ok (.getfield 31, 3) := by decide +kernel
theorem dX2_planMust_36 : decode cX2_planMust 36 = .ok (.bipush 100, 2) := by decide +kernel
theorem dX2_planMust_38 : decode cX2_planMust 38 = .ok (.if_icmp .lt 7, 3) := by decide +kernel
theorem dX2_planMust_41 : decode cX2_planMust 41 = .ok (.iconst 2, 1) := by decide +kernel
theorem dX2_planMust_42 : decode cX2_planMust 42 = .ok (.goto 5, 3) := by decide +kernel
theorem dX2_planMust_45 : decode cX2_planMust 45 = .ok (.bipush 7, 2) := by decide +kernel
theorem dX2_planMust_47 : decode cX2_planMust 47 = .ok (.ireturn, 1) := by decide +kernel
theorem dX2_isHeated_0 : decode cX2_isHeated 0 = .ok (.aload_n 0, 1) := by decide +kernel
theorem dX2_isHeated_1 : decode cX2_isHeated 1 = .ok (.getfield 40, 3) := by decide +kernel
theorem dX2_isHeated_4 : decode cX2_isHeated 4 = .ok (.ifCond .eq 19, 3) := by decide +kernel
theorem dX2_isHeated_7 : decode cX2_isHeated 7 = .ok (.aload_n 0, 1) := by decide +kernel
theorem dX2_isHeated_8 : decode cX2_isHeated 8 = .ok (.getfield 40, 3) := by decide +kernel
theorem dX2_isHeated_11 : decode cX2_isHeated 11 = .ok (.iconst 2, 1) := by decide +kernel
theorem dX2_isHeated_12 : decode cX2_isHeated 12 = .ok (.if_icmp .eq 11, 3) := by decide +kernel
theorem dX2_isHeated_15 : decode cX2_isHeated 15 = .ok (.aload_n 0, 1) := by decide +kernel
theorem dX2_isHeated_16 : decode cX2_isHeated 16 = .ok (.getfield 40, 3) := by decide +kernel
theorem dX2_isHeated_19 : decode cX2_isHeated 19 = .ok (.iconst 5, 1) := by decide +kernel
theorem dX2_isHeated_20 : decode cX2_isHeated 20 = .ok (.if_icmp .ne 7, 3) := by decide +kernel
theorem dX2_isHeated_23 : decode cX2_isHeated 23 = .ok (.iconst 1, 1) := by decide +kernel
theorem dX2_isHeated_24 : decode cX2_isHeated 24 = .ok (.goto 4, 3) := by decide +kernel
theorem dX2_isHeated_27 : decode cX2_isHeated 27 = .ok (.iconst 0, 1) := by decide +kernel
theorem dX2_isHeated_28 : decode cX2_isHeated 28 = .ok (.ireturn, 1) := by decide +kernel
theorem dX2_isCooled_0 : decode cX2_isCooled 0 = .ok (.aload_n 0, 1) := by decide +kernel
theorem dX2_isCooled_1 : decode cX2_isCooled 1 = .ok (.getfield 40, 3) := by decide +kernel
theorem dX2_isCooled_4 : decode cX2_isCooled 4 = .ok (.iconst 1, 1) := by decide +kernel
theorem dX2_isCooled_5 : decode cX2_isCooled 5 = .ok (.if_icmp .eq 11, 3) := by decide +kernel
theorem dX2_isCooled_8 : decode cX2_isCooled 8 = .ok (.aload_n 0, 1) := by decide +kernel
theorem dX2_isCooled_9 : decode cX2_isCooled 9 = .ok (.getfield 40, 3) := by decide +kernel
theorem dX2_isCooled_12 : decode cX2_isCooled 12 = .ok (.iconst 3, 1) := by decide +kernel
theorem dX2_isCooled_13 : decode cX2_isCooled 13 = .ok (.if_icmp .ne 7, 3) := by decide +kernel
theorem dX2_isCooled_16 : decode cX2_isCooled 16 = .ok (.iconst 1, 1) := by decide +kernel
theorem dX2_isCooled_17 : decode cX2_isCooled 17 = .ok (.goto 4, 3) := by decide +kernel
theorem dX2_isCooled_20 : decode cX2_isCooled 20 = .ok (.iconst 0, 1) := by decide +kernel
theorem dX2_isCooled_21 : decode cX2_isCooled 21 = .ok (.ireturn, 1) := by decide +kernel
theorem dX2_changeTemperature_0 : decode cX2_changeTemperature 0 = .ok (.iconst 1, 1) := by decide +kernel
theorem dX2_changeTemperature_1 : decode cX2_changeTemperature 1 = .ok (.istore_n 1, 1) := by decide +kernel
theorem dX2_changeTemperature_2 : decode cX2_changeTemperature 2 = .ok (.aload_n 0, 1) := by decide +kernel
theorem dX2_changeTemperature_3 : decode cX2_changeTemperature 3 = .ok (.invokevirtual 43, 3) := by decide +kernel
theorem dX2_changeTemperature_6 : decode cX2_changeTemperature 6 = .ok (.ifCond .eq 9, 3) := by decide +kernel
theorem dX2_changeTemperature_9 : decode cX2_changeTemperature 9 = .ok (.bipush 6, 2) := by decide +kernel
theorem dX2_changeTemperature_11 : decode cX2_changeTemperature 11 = .ok (.istore_n 1, 1) := by decide +kernel
theorem dX2_changeTemperature_12 : decode cX2_changeTemperature 12 = .ok (.goto 22, 3) := by decide +kernel
theorem dX2_changeTemperature_15 : decode cX2_changeTemperature 15 = .ok (.aload_n 0, 1) := by decide +kernel
theorem dX2_changeTemperature_16 : decode cX2_changeTemperature 16 = .ok (.invokevirtual 47, 3) := by decide +kernel
theorem dX2_changeTemperature_19 : decode cX2_changeTemperature 19 = .ok (.ifCond .eq 15, 3) := by decide +kernel
theorem dX2_changeTemperature_22 : decode cX2_changeTemperature 22 = .ok (.bipush 8, 2) := by decide +kernel
theorem dX2_changeTemperature_24 : decode cX2_changeTemperature 24 = .ok (.aload_n 0, 1) := by decide +kernel
theorem dX2_changeTemperature_25 : decode cX2_changeTemperature 25 = .ok (.getfield 31, 3) := by decide +kernel
theorem dX2_changeTemperature_28 : decode cX2_changeTemperature 28 = .ok (.bipush 20, 2) := by decide +kernel
theorem dX2_changeTemperature_30 : decode cX2_changeTemperature 30 = .ok (.idiv, 1) := by decide +kernel
theorem dX2_changeTemperature_31 : decode cX2_changeTemperature 31 = .ok (.isub, 1) := by decide +kernel
theorem dX2_changeTemperature_32 : decode cX2_changeTemperature 32 = .ok (.ineg, 1) := by decide +kernel
theorem dX2_changeTemperature_33 : decode cX2_changeTemperature 33 = .ok (.istore_n 1, 1) := by decide +kernel
theorem dX2_changeTemperature_34 : decode cX2_changeTemperature 34 = .ok (.aload_n 0, 1) := by decide +kernel
theorem dX2_changeTemperature_35 : decode cX2_changeTemperature 35 = .ok (.getfield 27, 3) := by decide +kernel
theorem dX2_changeTemperature_38 : decode cX2_changeTemperature 38 = .ok (.ifCond .eq 6, 3) := by decide +kernel
theorem dX2_changeTemperature_41 : decode cX2_changeTemperature 41 = .ok (.iinc 1 4, 3) := by decide +kernel
theorem dX2_changeTemperature_44 : decode cX2_changeTemperature 44 = .ok (.aload_n 0, 1) := by decide +kernel
theorem dX2_changeTemperature_45 : decode cX2_changeTemperature 45 = .ok (.sipush (-400), 3) := by decide +kernel
theorem dX2_changeTemperature_48 : decode cX2_changeTemperature 48 = .ok (.sipush 400, 3) := by decide +kernel
theorem dX2_changeTemperature_51 : decode cX2_changeTemperature 51 = .ok (.aload_n 0, 1) := by decide +kernel
theorem dX2_changeTemperature_52 : decode cX2_changeTemperature 52 = .ok (.getfield 24, 3) := by decide +kernel
theorem dX2_changeTemperature_55 : decode cX2_changeTemperature 55 = .ok (.iload_n 1, 1) := by decide +kernel
theorem dX2_changeTemperature_56 : decode cX2_changeTemperature 56 = .ok (.iadd, 1) := by decide +kernel
theorem dX2_changeTemperature_57 : decode cX2_changeTemperature 57 = .ok (.invokestatic 50, 3) := by decide +kernel
theorem dX2_changeTemperature_60 : decode cX2_changeTemperature 60 = .ok (.invokestatic 56, 3) := by decide +kernel
theorem dX2_changeTemperature_63 : decode cX2_changeTemperature 63 = .ok (.putfield 24, 3) := by decide +kernel
theorem dX2_changeTemperature_66 : decode cX2_changeTemperature 66 = .ok (.return_, 1) := by decide +kernel
theorem dX2_changeFrost_0 : decode cX2_changeFrost 0 = .ok (.aload_n 0, 1) := by decide +kernel
theorem dX2_changeFrost_1 : decode cX2_changeFrost 1 = .ok (.invokevirtual 43, 3) := by decide +kernel
theorem dX2_changeFrost_4 : decode cX2_changeFrost 4 = .ok (.ifCond .eq 40, 3) := by decide +kernel
theorem dX2_changeFrost_7 : decode cX2_changeFrost 7 = .ok (.aload_n 0, 1) := by decide +kernel
theorem dX2_changeFrost_8 : decode cX2_changeFrost 8 = .ok (.iconst 0, 1) := by decide +kernel
theorem dX2_changeFrost_9 : decode cX2_changeFrost 9 = .ok (.aload_n 0, 1) := by decide +kernel
theorem dX2_changeFrost_10 : decode cX2_changeFrost 10 = .ok (.getfield 31, 3) := by decide +kernel
theorem dX2_changeFrost_13 : decode cX2_changeFrost 13 = .ok (.bipush 10, 2) := by decide +kernel
theorem dX2_changeFrost_15 : decode cX2_changeFrost 15 = .ok (.isub, 1) := by decide +kernel
theorem dX2_changeFrost_16 : decode cX2_changeFrost 16 = .ok (.invokestatic 56, 3) := by decide +kernel
theorem dX2_changeFrost_19 : decode cX2_changeFrost 19 = .ok (.putfield 31, 3) := by decide +kernel
theorem dX2_changeFrost_22 : decode cX2_changeFrost 22 = .ok (.aload_n 0, 1) := by decide +kernel
theorem dX2_changeFrost_23 : decode cX2_changeFrost 23 = .ok (.aload_n 0, 1) := by decide +kernel
theorem dX2_changeFrost_24 : decode cX2_changeFrost 24 = .ok (.getfield 31, 3) := by decide +kernel
theorem dX2_changeFrost_27 : decode cX2_changeFrost 27 = .ok (.ifCond .ne 7, 3) := by decide +kernel
theorem dX2_changeFrost_30 : decode cX2_changeFrost 30 = .ok (.iconst 0, 1) := by decide +kernel
theorem dX2_changeFrost_31 : decode cX2_changeFrost 31 = .ok (.goto 9, 3) := by decide +kernel
theorem dX2_changeFrost_34 : decode cX2_changeFrost 34 = .ok (.aload_n 0, 1) := by decide +kernel
theorem dX2_changeFrost_35 : decode cX2_changeFrost 35 = .ok (.getfield 34, 3) := by decide +kernel
theorem dX2_changeFrost_38 : decode cX2_changeFrost 38 = .ok (.iconst 1, 1) := by decide +kernel
theorem dX2_changeFrost_39 : decode cX2_changeFrost 39 = .ok (.isub, 1) := by decide +kernel
theorem dX2_changeFrost_40 : decode cX2_changeFrost 40 = .ok (.putfield 34, 3) := by decide +kernel
theorem dX2_changeFrost_43 : decode cX2_changeFrost 43 = .ok (.return_, 1) := by decide +kernel
theorem dX2_changeFrost_44 : decode cX2_changeFrost 44 = .ok (.aload_n 0, 1) := by decide +kernel
theorem dX2_changeFrost_45 : decode cX2_changeFrost 45 = .ok (.invokevirtual 47, 3) := by decide +kernel
theorem dX2_changeFrost_48 : decode cX2_changeFrost 48 = .ok (.ifCond .eq 7, 3) := by decide +kernel
theorem dX2_changeFrost_51 : decode cX2_changeFrost 51 = .ok (.iconst 1, 1) := by decide +kernel
theorem dX2_changeFrost_52 : decode cX2_changeFrost 52 = .ok (.goto 4, 3) := by decide +kernel
theorem dX2_changeFrost_55 : decode cX2_changeFrost 55 = .ok (.iconst 0, 1) := by decide +kernel
theorem dX2_changeFrost_56 : decode cX2_changeFrost 56 = .ok (.aload_n 0, 1) := by decide +kernel
theorem dX2_changeFrost_57 : decode cX2_changeFrost 57 = .ok (.getfield 27, 3) := by decide +kernel
theorem dX2_changeFrost_60 : decode cX2_changeFrost 60 = .ok (.ifCond .eq 7, 3) := by decide +kernel
theorem dX2_changeFrost_63 : decode cX2_changeFrost 63 = .ok (.iconst 2, 1) := by decide +kernel
theorem dX2_changeFrost_64 : decode cX2_changeFrost 64 = .ok (.goto 4, 3) := by decide +kernel
theorem dX2_changeFrost_67 : decode cX2_changeFrost 67 = .ok (.iconst 0, 1) := by decide +kernel
theorem dX2_changeFrost_68 : decode cX2_changeFrost 68 = .ok (.iadd, 1) := by decide +kernel
theorem dX2_changeFrost_69 : decode cX2_changeFrost 69 = .ok (.istore_n 1, 1) := by decide +kernel
theorem dX2_changeFrost_70 : decode cX2_changeFrost 70 = .ok (.aload_n 0, 1) := by decide +kernel
theorem dX2_changeFrost_71 : decode cX2_changeFrost 71 = .ok (.bipush 100, 2) := by decide +kernel
theorem dX2_changeFrost_73 : decode cX2_changeFrost 73 = .ok (.aload_n 0, 1) := by decide +kernel
theorem dX2_changeFrost_74 : decode cX2_changeFrost 74 = .ok (.getfield 31, 3) := by decide +kernel
theorem dX2_changeFrost_77 : decode cX2_changeFrost 77 = .ok (.iload_n 1, 1) := by decide +kernel
theorem dX2_changeFrost_78 : decode cX2_changeFrost 78 = .ok (.iadd, 1) := by decide +kernel
theorem dX2_changeFrost_79 : decode cX2_changeFrost 79 = .ok (.invokestatic 50, 3) := by decide +kernel
theorem dX2_changeFrost_82 : decode cX2_changeFrost 82 = .ok (.putfield 31, 3) := by decide +kernel
theorem dX2_changeFrost_85 : decode cX2_changeFrost 85 = .ok (.return_, 1) := by decide +kernel
theorem dX3_init_0 : decode cX3_init 0 = .ok (.aload_n 0, 1) := by decide +kernel
theorem dX3_init_1 : decode cX3_init 1 = .ok (.invokespecial 1, 3) := by decide +kernel
theorem dX3_init_4 : decode cX3_init 4 = .ok (.aload_n 0, 1) := by decide +kernel
theorem dX3_init_5 : decode cX3_init 5 = .ok (.sipush 600, 3) := by decide +kernel
theorem dX3_init_8 : decode cX3_init 8 = .ok (.putfield 7, 3) := by decide +kernel
theorem dX3_init_11 : decode cX3_init 11 = .ok (.aload_n 0, 1) := by decide +kernel
theorem dX3_init_12 : decode cX3_init 12 = .ok (.iconst 0, 1) := by decide +kernel
theorem dX3_init_13 : decode cX3_init 13 = .ok (.putfield 13, 3) := by decide +kernel
theorem dX3_init_16 : decode cX3_init 16 = .ok (.aload_n 0, 1) := by decide +kernel
theorem dX3_init_17 : decode cX3_init 17 = .ok (.bipush 10, 2) := by decide +kernel
theorem dX3_init_19 : decode cX3_init 19 = .ok (.putfield 16, 3) := by decide +kernel
theorem dX3_init_22 : decode cX3_init 22 = .ok (.aload_n 0, 1) := by decide +kernel
theorem dX3_init_23 : decode cX3_init 23 = .ok (.bipush 12, 2) := by decide +kernel
theorem dX3_init_25 : decode cX3_init 25 = .ok (.putfield 19, 3) := by decide +kernel
theorem dX3_init_28 : decode cX3_init 28 = .ok (.aload_n 0, 1) := by decide +kernel
theorem dX3_init_29 : decode cX3_init 29 = .ok (.bipush 30, 2) := by decide +kernel
theorem dX3_init_31 : decode cX3_init 31 = .ok (.putfield 22, 3) := by decide +kernel
theorem dX3_init_34 : decode cX3_init 34 = .ok (.aload_n 0, 1) := by decide +kernel
theorem dX3_init_35 : decode cX3_init 35 = .ok (.bipush 6, 2) := by decide +kernel
theorem dX3_init_37 : decode cX3_init 37 = .ok (.putfield 25, 3) := by decide +kernel
theorem dX3_init_40 : decode cX3_init 40 = .ok (.return_, 1) := by decide +kernel
theorem dX3_copyFrom_0 : decode cX3_copyFrom 0 = .ok (.aload_n 0, 1) := by decide +kernel
theorem dX3_copyFrom_1 : decode cX3_copyFrom 1 = .ok (.aload_n 1, 1) := by decide +kernel
theorem dX3_copyFrom_2 : decode cX3_copyFrom 2 = .ok (.getfield 7, 3) := by decide +kernel
theorem dX3_copyFrom_5 : decode cX3_copyFrom 5 = .ok (.putfield 7, 3) := by decide +kernel
theorem dX3_copyFrom_8 : decode cX3_copyFrom 8 = .ok (.aload_n 0, 1) := by decide +kernel
theorem dX3_copyFrom_9 : decode cX3_copyFrom 9 = .ok (.aload_n 1, 1) := by decide +kernel
theorem dX3_copyFrom_10 : decode cX3_copyFrom 10 = .ok (.getfield 13, 3) := by decide +kernel
theorem dX3_copyFrom_13 : decode cX3_copyFrom 13 = .ok (.putfield 13, 3) := by decide +kernel
theorem dX3_copyFrom_16 : decode cX3_copyFrom 16 = .ok (.aload_n 0, 1) := by decide +kernel
theorem dX3_copyFrom_17 : decode cX3_copyFrom 17 = .ok (.aload_n 1, 1) := by decide +kernel
theorem dX3_copyFrom_18 : decode cX3_copyFrom 18 = .ok (.getfield 16, 3) := by decide +kernel
theorem dX3_copyFrom_21 : decode cX3_copyFrom 21 = .ok (.putfield 16, 3) := by decide +kernel
theorem dX3_copyFrom_24 : decode cX3_copyFrom 24 = .ok (.aload_n 0, 1) := by decide +kernel
theorem dX3_copyFrom_25 : decode cX3_copyFrom 25 = .ok (.aload_n 1, 1) := by decide +kernel
theorem dX3_copyFrom_26 : decode cX3_copyFrom 26 = .ok (.getfield 19, 3) := by decide +kernel
theorem dX3_copyFrom_29 : decode cX3_copyFrom 29 = .ok (.putfield 19, 3) := by decide +kernel
theorem dX3_copyFrom_32 : decode cX3_copyFrom 32 = .ok (.aload_n 0, 1) := by decide +kernel
theorem dX3_copyFrom_33 : decode cX3_copyFrom 33 = .ok (.aload_n 1, 1) := by decide +kernel
theorem dX3_copyFrom_34 : decode cX3_copyFrom 34 = .ok (.getfield 22, 3) := by decide +kernel
theorem dX3_copyFrom_37 : decode cX3_copyFrom 37 = .ok (.putfield 22, 3) := by decide +kernel
theorem dX3_copyFrom_40 : decode cX3_copyFrom 40 = .ok (.aload_n 0, 1) := by decide +kernel
theorem dX3_copyFrom_41 : decode cX3_copyFrom 41 = .ok (.aload_n 1, 1) := by decide +kernel
theorem dX3_copyFrom_42 : decode cX3_copyFrom 42 = .ok (.getfield 25, 3) := by decide +kernel
theorem dX3_copyFrom_45 : decode cX3_copyFrom 45 = .ok (.putfield 25, 3) := by decide +kernel
theorem dX3_copyFrom_48 : decode cX3_copyFrom 48 = .ok (.return_, 1) := by decide +kernel
theorem dX3_isSetting_0 : decode cX3_isSetting 0 = .ok (.iload_n 0, 1) := by decide +kernel
theorem dX3_isSetting_1 : decode cX3_isSetting 1 = .ok (.ifCond .lt 23, 3) := by decide +kernel
theorem dX3_isSetting_4 : decode cX3_isSetting 4 = .ok (.iload_n 0, 1) := by decide +kernel
theorem dX3_isSetting_5 : decode cX3_isSetting 5 = .ok (.getstatic 28, 3) := by decide +kernel
theorem dX3_isSetting_8 : decode cX3_isSetting 8 = .ok (.arraylength, 1) := by decide +kernel
theorem dX3_isSetting_9 : decode cX3_isSetting 9 = .ok (.if_icmp .ge 15, 3) := by decide +kernel
theorem dX3_isSetting_12 : decode cX3_isSetting 12 = .ok (.iload_n 0, 1) := by decide +kernel
theorem dX3_isSetting_13 : decode cX3_isSetting 13 = .ok (.getstatic 34, 3) := by decide +kernel
theorem dX3_isSetting_16 : decode cX3_isSetting 16 = .ok (.arraylength, 1) := by decide +kernel
theorem dX3_isSetting_17 : decode cX3_isSetting 17 = .ok (.if_icmp .ge 7, 3) := by decide +kernel
theorem dX3_isSetting_20 : decode cX3_isSetting 20 = .ok (.iconst 1, 1) := by decide +kernel
theorem dX3_isSetting_21 : decode cX3_isSetting 21 = .ok (.goto 4, 3) := by decide +kernel
theorem dX3_isSetting_24 : decode cX3_isSetting 24 = .ok (.iconst 0, 1) := by decide +kernel
theorem dX3_isSetting_25 : decode cX3_isSetting 25 = .ok (.ireturn, 1) := by decide +kernel
theorem dX3_isAllowed_0 : decode cX3_isAllowed 0 = .ok (.iload_n 0, 1) := by decide +kernel
theorem dX3_isAllowed_1 : decode cX3_isAllowed 1 = .ok (.invokestatic 37, 3) := by decide +kernel
theorem dX3_isAllowed_4 : decode cX3_isAllowed 4 = .ok (.ifCond .eq 25, 3) := by decide +kernel
theorem dX3_isAllowed_7 : decode cX3_isAllowed 7 = .ok (.iload_n 1, 1) := by decide +kernel
theorem dX3_isAllowed_8 : decode cX3_isAllowed 8 = .ok (.getstatic 28, 3) := by decide +kernel
theorem dX3_isAllowed_11 : decode cX3_isAllowed 11 = .ok (.iload_n 0, 1) := by decide +kernel
theorem dX3_isAllowed_12 : decode cX3_isAllowed 12 = .ok (.iaload, 1) := by decide +kernel
theorem dX3_isAllowed_13 : decode cX3_isAllowed 13 = .ok (.if_icmp .lt 16, 3) := by decide +kernel
theorem dX3_isAllowed_16 : decode cX3_isAllowed 16 = .ok (.iload_n 1, 1) := by decide +kernel
theorem dX3_isAllowed_17 : decode cX3_isAllowed 17 = .ok (.getstatic 34, 3) := by decide +kernel
theorem dX3_isAllowed_20 : decode cX3_isAllowed 20 = .ok (.iload_n 0, 1) := by decide +kernel
theorem dX3_isAllowed_21 : decode cX3_isAllowed 21 = .ok (.iaload, 1) := by decide +kernel
theorem dX3_isAllowed_22 : decode cX3_isAllowed 22 = .ok (.if_icmp .gt 7, 3) := by decide +kernel
theorem dX3_isAllowed_25 : decode cX3_isAllowed 25 = .ok (.iconst 1, 1) := by decide +kernel
theorem dX3_isAllowed_26 : decode cX3_isAllowed 26 = .ok (.goto 4, 3) := by decide +kernel
theorem dX3_isAllowed_29 : decode cX3_isAllowed 29 = .ok (.iconst 0, 1) := by decide +kernel
theorem dX3_isAllowed_30 : decode cX3_isAllowed 30 = .ok (.ireturn, 1) := by decide +kernel
theorem dX3_value_0 : decode cX3_value 0 = .ok (.iload_n 1, 1) := by decide +kernel
theorem dX3_value_1 : decode cX3_value 1 = .ok (.tableswitch 60 0 4 #[35, 40, 45, 50, 55], 35) := by decide +kernel
theorem dX3_value_36 : decode cX3_value 36 = .ok (.aload_n 0, 1) := by decide +kernel
theorem dX3_value_37 : decode cX3_value 37 = .ok (.getfield 7, 3) := by decide +kernel
theorem dX3_value_40 : decode cX3_value 40 = .ok (.ireturn, 1) := by decide +kernel
theorem dX3_value_41 : decode cX3_value 41 = .ok (.aload_n 0, 1) := by decide +kernel
theorem dX3_value_42 : decode cX3_value 42 = .ok (.getfield 13, 3) := by decide +kernel
theorem dX3_value_45 : decode cX3_value 45 = .ok (.ireturn, 1) := by decide +kernel
theorem dX3_value_46 : decode cX3_value 46 = .ok (.aload_n 0, 1) := by decide +kernel
theorem dX3_value_47 : decode cX3_value 47 = .ok (.getfield 16, 3) := by decide +kernel
theorem dX3_value_50 : decode cX3_value 50 = .ok (.ireturn, 1) := by decide +kernel
theorem dX3_value_51 : decode cX3_value 51 = .ok (.aload_n 0, 1) := by decide +kernel
theorem dX3_value_52 : decode cX3_value 52 = .ok (.getfield 19, 3) := by decide +kernel
theorem dX3_value_55 : decode cX3_value 55 = .ok (.ireturn, 1) := by decide +kernel
theorem dX3_value_56 : decode cX3_value 56 = .ok (.aload_n 0, 1) := by decide +kernel
theorem dX3_value_57 : decode cX3_value 57 = .ok (.getfield 22, 3) := by decide +kernel
theorem dX3_value_60 : decode cX3_value 60 = .ok (.ireturn, 1) := by decide +kernel
theorem dX3_value_61 : decode cX3_value 61 = .ok (.aload_n 0, 1) := by decide +kernel
theorem dX3_value_62 : decode cX3_value 62 = .ok (.getfield 25, 3) := by decide +kernel
theorem dX3_value_65 : decode cX3_value 65 = .ok (.ireturn, 1) := by decide +kernel
theorem dX3_change_0 : decode cX3_change 0 = .ok (.iload_n 1, 1) := by decide +kernel
theorem dX3_change_1 : decode cX3_change 1 = .ok (.tableswitch 75 0 4 #[35, 43, 51, 59, 67], 35) := by decide +kernel
theorem dX3_change_36 : decode cX3_change 36 = .ok (.aload_n 0, 1) := by decide +kernel
theorem dX3_change_37 : decode cX3_change 37 = .ok (.iload_n 2, 1) := by decide +kernel
theorem dX3_change_38 : decode cX3_change 38 = .ok (.putfield 7, 3) := by decide +kernel
theorem dX3_change_41 : decode cX3_change 41 = .ok (.goto 40, 3) := by decide +kernel
theorem dX3_change_44 : decode cX3_change 44 = .ok (.aload_n 0, 1) := by decide +kernel
theorem dX3_change_45 : decode cX3_change 45 = .ok (.iload_n 2, 1) := by decide +kernel
theorem dX3_change_46 : decode cX3_change 46 = .ok (.putfield 13, 3) := by decide +kernel
theorem dX3_change_49 : decode cX3_change 49 = .ok (.goto 32, 3) := by decide +kernel
theorem dX3_change_52 : decode cX3_change 52 = .ok (.aload_n 0, 1) := by decide +kernel
theorem dX3_change_53 : decode cX3_change 53 = .ok (.iload_n 2, 1) := by decide +kernel
theorem dX3_change_54 : decode cX3_change 54 = .ok (.putfield 16, 3) := by decide +kernel
theorem dX3_change_57 : decode cX3_change 57 = .ok (.goto 24, 3) := by decide +kernel
theorem dX3_change_60 : decode cX3_change 60 = .ok (.aload_n 0, 1) := by decide +kernel
theorem dX3_change_61 : decode cX3_change 61 = .ok (.iload_n 2, 1) := by decide +kernel
theorem dX3_change_62 : decode cX3_change 62 = .ok (.putfield 19, 3) := by decide +kernel
theorem dX3_change_65 : decode cX3_change 65 = .ok (.goto 16, 3) := by decide +kernel
theorem dX3_change_68 : decode cX3_change 68 = .ok (.aload_n 0, 1) := by decide +kernel
theorem dX3_change_69 : decode cX3_change 69 = .ok (.iload_n 2, 1) := by decide +kernel
theorem dX3_change_70 : decode cX3_change 70 = .ok (.putfield 22, 3) := by decide +kernel
theorem dX3_change_73 : decode cX3_change 73 = .ok (.goto 8, 3) := by decide +kernel
theorem dX3_change_76 : decode cX3_change 76 = .ok (.aload_n 0, 1) := by decide +kernel
theorem dX3_change_77 : decode cX3_change 77 = .ok (.iload_n 2, 1) := by decide +kernel
theorem dX3_change_78 : decode cX3_change 78 = .ok (.putfield 25, 3) := by decide +kernel
theorem dX3_change_81 : decode cX3_change 81 = .ok (.return_, 1) := by decide +kernel
theorem dX4_init_0 : decode cX4_init 0 = .ok (.aload_n 0, 1) := by decide +kernel
theorem dX4_init_1 : decode cX4_init 1 = .ok (.invokespecial 1, 3) := by decide +kernel
theorem dX4_init_4 : decode cX4_init 4 = .ok (.aload_n 0, 1) := by decide +kernel
theorem dX4_init_5 : decode cX4_init 5 = .ok (.new 7, 3) := by decide +kernel
theorem dX4_init_8 : decode cX4_init 8 = .ok (.dup, 1) := by decide +kernel
theorem dX4_init_9 : decode cX4_init 9 = .ok (.invokespecial 9, 3) := by decide +kernel
theorem dX4_init_12 : decode cX4_init 12 = .ok (.putfield 10, 3) := by decide +kernel
theorem dX4_init_15 : decode cX4_init 15 = .ok (.return_, 1) := by decide +kernel
theorem dX4_empty_0 : decode cX4_empty 0 = .ok (.aload_n 0, 1) := by decide +kernel
theorem dX4_empty_1 : decode cX4_empty 1 = .ok (.iconst 0, 1) := by decide +kernel
theorem dX4_empty_2 : decode cX4_empty 2 = .ok (.putfield 16, 3) := by decide +kernel
theorem dX4_empty_5 : decode cX4_empty 5 = .ok (.return_, 1) := by decide +kernel
theorem dX4_keep_0 : decode cX4_keep 0 = .ok (.aload_n 0, 1) := by decide +kernel
theorem dX4_keep_1 : decode cX4_keep 1 = .ok (.getfield 10, 3) := by decide +kernel
theorem dX4_keep_4 : decode cX4_keep 4 = .ok (.aload_n 1, 1) := by decide +kernel
theorem dX4_keep_5 : decode cX4_keep 5 = .ok (.invokevirtual 20, 3) := by decide +kernel
theorem dX4_keep_8 : decode cX4_keep 8 = .ok (.aload_n 0, 1) := by decide +kernel
theorem dX4_keep_9 : decode cX4_keep 9 = .ok (.iconst 1, 1) := by decide +kernel
theorem dX4_keep_10 : decode cX4_keep 10 = .ok (.putfield 16, 3) := by decide +kernel
theorem dX4_keep_13 : decode cX4_keep 13 = .ok (.return_, 1) := by decide +kernel
theorem dX5_init_0 : decode cX5_init 0 = .ok (.aload_n 0, 1) := by decide +kernel
theorem dX5_init_1 : decode cX5_init 1 = .ok (.invokespecial 3, 3) := by decide +kernel
theorem dX5_init_4 : decode cX5_init 4 = .ok (.aload_n 0, 1) := by decide +kernel
theorem dX5_init_5 : decode cX5_init 5 = .ok (.new 9, 3) := by decide +kernel
theorem dX5_init_8 : decode cX5_init 8 = .ok (.dup, 1) := by decide +kernel
theorem dX5_init_9 : decode cX5_init 9 = .ok (.invokespecial 11, 3) := by decide +kernel
theorem dX5_init_12 : decode cX5_init 12 = .ok (.putfield 12, 3) := by decide +kernel
theorem dX5_init_15 : decode cX5_init 15 = .ok (.aload_n 0, 1) := by decide +kernel
theorem dX5_init_16 : decode cX5_init 16 = .ok (.bipush 6, 2) := by decide +kernel
theorem dX5_init_18 : decode cX5_init 18 = .ok (.anewarray 18, 3) := by decide +kernel
theorem dX5_init_21 : decode cX5_init 21 = .ok (.putfield 20, 3) := by decide +kernel
theorem dX5_init_24 : decode cX5_init 24 = .ok (.iconst 0, 1) := by decide +kernel
theorem dX5_init_25 : decode cX5_init 25 = .ok (.istore_n 1, 1) := by decide +kernel
theorem dX5_init_26 : decode cX5_init 26 = .ok (.iload_n 1, 1) := by decide +kernel
theorem dX5_init_27 : decode cX5_init 27 = .ok (.aload_n 0, 1) := by decide +kernel
theorem dX5_init_28 : decode cX5_init 28 = .ok (.getfield 20, 3) := by decide +kernel
theorem dX5_init_31 : decode cX5_init 31 = .ok (.arraylength, 1) := by decide +kernel
theorem dX5_init_32 : decode cX5_init 32 = .ok (.if_icmp .ge 23, 3) := by decide +kernel
theorem dX5_init_35 : decode cX5_init 35 = .ok (.aload_n 0, 1) := by decide +kernel
theorem dX5_init_36 : decode cX5_init 36 = .ok (.getfield 20, 3) := by decide +kernel
theorem dX5_init_39 : decode cX5_init 39 = .ok (.iload_n 1, 1) := by decide +kernel
theorem dX5_init_40 : decode cX5_init 40 = .ok (.new 18, 3) := by decide +kernel
theorem dX5_init_43 : decode cX5_init 43 = .ok (.dup, 1) := by decide +kernel
theorem dX5_init_44 : decode cX5_init 44 = .ok (.iload_n 1, 1) := by decide +kernel
theorem dX5_init_45 : decode cX5_init 45 = .ok (.invokespecial 24, 3) := by decide +kernel
theorem dX5_init_48 : decode cX5_init 48 = .ok (.aastore, 1) := by decide +kernel
theorem dX5_init_49 : decode cX5_init 49 = .ok (.iinc 1 1, 3) := by decide +kernel
theorem dX5_init_52 : decode cX5_init 52 = .ok (.goto (-26), 3) := by decide +kernel
theorem dX5_init_55 : decode cX5_init 55 = .ok (.return_, 1) := by decide +kernel
theorem dX5_copyFrom_0 : decode cX5_copyFrom 0 = .ok (.aload_n 0, 1) := by decide +kernel
theorem dX5_copyFrom_1 : decode cX5_copyFrom 1 = .ok (.getfield 12, 3) := by decide +kernel
theorem dX5_copyFrom_4 : decode cX5_copyFrom 4 = .ok (.aload_n 1, 1) := by decide +kernel
theorem dX5_copyFrom_5 : decode cX5_copyFrom 5 = .ok (.getfield 12, 3) := by decide +kernel
theorem dX5_copyFrom_8 : decode cX5_copyFrom 8 = .ok (.invokevirtual 27, 3) := by decide +kernel
theorem dX5_copyFrom_11 : decode cX5_copyFrom 11 = .ok (.iconst 0, 1) := by decide +kernel
theorem dX5_copyFrom_12 : decode cX5_copyFrom 12 = .ok (.istore_n 2, 1) := by decide +kernel
theorem dX5_copyFrom_13 : decode cX5_copyFrom 13 = .ok (.iload_n 2, 1) := by decide +kernel
theorem dX5_copyFrom_14 : decode cX5_copyFrom 14 = .ok (.aload_n 0, 1) := by decide +kernel
theorem dX5_copyFrom_15 : decode cX5_copyFrom 15 = .ok (.getfield 20, 3) := by decide +kernel
theorem dX5_copyFrom_18 : decode cX5_copyFrom 18 = .ok (.arraylength, 1) := by decide +kernel
theorem dX5_copyFrom_19 : decode cX5_copyFrom 19 = .ok (.if_icmp .ge 33, 3) := by decide +kernel
theorem dX5_copyFrom_22 : decode cX5_copyFrom 22 = .ok (.iload_n 2, 1) := by decide +kernel
theorem dX5_copyFrom_23 : decode cX5_copyFrom 23 = .ok (.aload_n 1, 1) := by decide +kernel
theorem dX5_copyFrom_24 : decode cX5_copyFrom 24 = .ok (.getfield 20, 3) := by decide +kernel
theorem dX5_copyFrom_27 : decode cX5_copyFrom 27 = .ok (.arraylength, 1) := by decide +kernel
theorem dX5_copyFrom_28 : decode cX5_copyFrom 28 = .ok (.if_icmp .ge 24, 3) := by decide +kernel
theorem dX5_copyFrom_31 : decode cX5_copyFrom 31 = .ok (.aload_n 0, 1) := by decide +kernel
theorem dX5_copyFrom_32 : decode cX5_copyFrom 32 = .ok (.getfield 20, 3) := by decide +kernel
theorem dX5_copyFrom_35 : decode cX5_copyFrom 35 = .ok (.iload_n 2, 1) := by decide +kernel
theorem dX5_copyFrom_36 : decode cX5_copyFrom 36 = .ok (.aaload, 1) := by decide +kernel
theorem dX5_copyFrom_37 : decode cX5_copyFrom 37 = .ok (.aload_n 1, 1) := by decide +kernel
theorem dX5_copyFrom_38 : decode cX5_copyFrom 38 = .ok (.getfield 20, 3) := by decide +kernel
theorem dX5_copyFrom_41 : decode cX5_copyFrom 41 = .ok (.iload_n 2, 1) := by decide +kernel
theorem dX5_copyFrom_42 : decode cX5_copyFrom 42 = .ok (.aaload, 1) := by decide +kernel
theorem dX5_copyFrom_43 : decode cX5_copyFrom 43 = .ok (.invokevirtual 31, 3) := by decide +kernel
theorem dX5_copyFrom_46 : decode cX5_copyFrom 46 = .ok (.iinc 2 1, 3) := by decide +kernel
theorem dX5_copyFrom_49 : decode cX5_copyFrom 49 = .ok (.goto (-36), 3) := by decide +kernel
theorem dX5_copyFrom_52 : decode cX5_copyFrom 52 = .ok (.aload_n 0, 1) := by decide +kernel
theorem dX5_copyFrom_53 : decode cX5_copyFrom 53 = .ok (.aload_n 1, 1) := by decide +kernel
theorem dX5_copyFrom_54 : decode cX5_copyFrom 54 = .ok (.getfield 34, 3) := by decide +kernel
theorem dX5_copyFrom_57 : decode cX5_copyFrom 57 = .ok (.putfield 34, 3) := by decide +kernel
theorem dX5_copyFrom_60 : decode cX5_copyFrom 60 = .ok (.aload_n 0, 1) := by decide +kernel
theorem dX5_copyFrom_61 : decode cX5_copyFrom 61 = .ok (.aload_n 1, 1) := by decide +kernel
theorem dX5_copyFrom_62 : decode cX5_copyFrom 62 = .ok (.getfield 38, 3) := by decide +kernel
theorem dX5_copyFrom_65 : decode cX5_copyFrom 65 = .ok (.putfield 38, 3) := by decide +kernel
theorem dX5_copyFrom_68 : decode cX5_copyFrom 68 = .ok (.aload_n 0, 1) := by decide +kernel
theorem dX5_copyFrom_69 : decode cX5_copyFrom 69 = .ok (.aload_n 1, 1) := by decide +kernel
theorem dX5_copyFrom_70 : decode cX5_copyFrom 70 = .ok (.getfield 41, 3) := by decide +kernel
theorem dX5_copyFrom_73 : decode cX5_copyFrom 73 = .ok (.putfield 41, 3) := by decide +kernel
theorem dX5_copyFrom_76 : decode cX5_copyFrom 76 = .ok (.aload_n 0, 1) := by decide +kernel
theorem dX5_copyFrom_77 : decode cX5_copyFrom 77 = .ok (.aload_n 1, 1) := by decide +kernel
theorem dX5_copyFrom_78 : decode cX5_copyFrom 78 = .ok (.getfield 44, 3) := by decide +kernel
theorem dX5_copyFrom_81 : decode cX5_copyFrom 81 = .ok (.putfield 44, 3) := by decide +kernel
theorem dX5_copyFrom_84 : decode cX5_copyFrom 84 = .ok (.aload_n 0, 1) := by decide +kernel
theorem dX5_copyFrom_85 : decode cX5_copyFrom 85 = .ok (.aload_n 1, 1) := by decide +kernel
theorem dX5_copyFrom_86 : decode cX5_copyFrom 86 = .ok (.getfield 47, 3) := by decide +kernel
theorem dX5_copyFrom_89 : decode cX5_copyFrom 89 = .ok (.putfield 47, 3) := by decide +kernel
theorem dX5_copyFrom_92 : decode cX5_copyFrom 92 = .ok (.aload_n 0, 1) := by decide +kernel
theorem dX5_copyFrom_93 : decode cX5_copyFrom 93 = .ok (.aload_n 1, 1) := by decide +kernel
theorem dX5_copyFrom_94 : decode cX5_copyFrom 94 = .ok (.getfield 50, 3) := by decide +kernel
theorem dX5_copyFrom_97 : decode cX5_copyFrom 97 = .ok (.putfield 50, 3) := by decide +kernel
theorem dX5_copyFrom_100 : decode cX5_copyFrom 100 = .ok (.aload_n 0, 1) := by decide +kernel
theorem dX5_copyFrom_101 : decode cX5_copyFrom 101 = .ok (.aload_n 1, 1) := by decide +kernel
theorem dX5_copyFrom_102 : decode cX5_copyFrom 102 = .ok (.getfield 53, 3) := by decide +kernel
theorem dX5_copyFrom_105 : decode cX5_copyFrom 105 = .ok (.putfield 53, 3) := by decide +kernel
theorem dX5_copyFrom_108 : decode cX5_copyFrom 108 = .ok (.aload_n 0, 1) := by decide +kernel
theorem dX5_copyFrom_109 : decode cX5_copyFrom 109 = .ok (.aload_n 1, 1) := by decide +kernel
theorem dX5_copyFrom_110 : decode cX5_copyFrom 110 = .ok (.getfield 56, 3) := by decide +kernel
theorem dX5_copyFrom_113 : decode cX5_copyFrom 113 = .ok (.putfield 56, 3) := by decide +kernel
theorem dX5_copyFrom_116 : decode cX5_copyFrom 116 = .ok (.aload_n 0, 1) := by decide +kernel
theorem dX5_copyFrom_117 : decode cX5_copyFrom 117 = .ok (.aload_n 1, 1) := by decide +kernel
theorem dX5_copyFrom_118 : decode cX5_copyFrom 118 = .ok (.getfield 59, 3) := by decide +kernel
theorem dX5_copyFrom_121 : decode cX5_copyFrom 121 = .ok (.putfield 59, 3) := by decide +kernel
theorem dX5_copyFrom_124 : decode cX5_copyFrom 124 = .ok (.return_, 1) := by decide +kernel
theorem dX5_account_0 : decode cX5_account 0 = .ok (.iload_n 1, 1) := by decide +kernel
theorem dX5_account_1 : decode cX5_account 1 = .ok (.tableswitch 105 0 9 #[55, 60, 65, 70, 75, 80, 85, 90, 95, 100], 55) := by decide +kernel
theorem dX5_account_56 : decode cX5_account 56 = .ok (.aload_n 0, 1) := by decide +kernel
theorem dX5_account_57 : decode cX5_account 57 = .ok (.invokevirtual 62, 3) := by decide +kernel
theorem dX5_account_60 : decode cX5_account 60 = .ok (.ireturn, 1) := by decide +kernel
theorem dX5_account_61 : decode cX5_account 61 = .ok (.aload_n 0, 1) := by decide +kernel
theorem dX5_account_62 : decode cX5_account 62 = .ok (.getfield 34, 3) := by decide +kernel
theorem dX5_account_65 : decode cX5_account 65 = .ok (.ireturn, 1) := by decide +kernel
theorem dX5_account_66 : decode cX5_account 66 = .ok (.aload_n 0, 1) := by decide +kernel
theorem dX5_account_67 : decode cX5_account 67 = .ok (.getfield 38, 3) := by decide +kernel
theorem dX5_account_70 : decode cX5_account 70 = .ok (.ireturn, 1) := by decide +kernel
theorem dX5_account_71 : decode cX5_account 71 = .ok (.aload_n 0, 1) := by decide +kernel
theorem dX5_account_72 : decode cX5_account 72 = .ok (.invokevirtual 66, 3) := by decide +kernel
theorem dX5_account_75 : decode cX5_account 75 = .ok (.ireturn, 1) := by decide +kernel
theorem dX5_account_76 : decode cX5_account 76 = .ok (.aload_n 0, 1) := by decide +kernel
theorem dX5_account_77 : decode cX5_account 77 = .ok (.getfield 41, 3) := by decide +kernel
theorem dX5_account_80 : decode cX5_account 80 = .ok (.ireturn, 1) := by decide +kernel
theorem dX5_account_81 : decode cX5_account 81 = .ok (.aload_n 0, 1) := by decide +kernel
theorem dX5_account_82 : decode cX5_account 82 = .ok (.getfield 44, 3) := by decide +kernel
theorem dX5_account_85 : decode cX5_account 85 = .ok (.ireturn, 1) := by decide +kernel
theorem dX5_account_86 : decode cX5_account 86 = .ok (.aload_n 0, 1) := by decide +kernel
theorem dX5_account_87 : decode cX5_account 87 = .ok (.getfield 47, 3) := by decide +kernel
theorem dX5_account_90 : decode cX5_account 90 = .ok (.ireturn, 1) := by decide +kernel
theorem dX5_account_91 : decode cX5_account 91 = .ok (.aload_n 0, 1) := by decide +kernel
theorem dX5_account_92 : decode cX5_account 92 = .ok (.getfield 50, 3) := by decide +kernel
theorem dX5_account_95 : decode cX5_account 95 = .ok (.ireturn, 1) := by decide +kernel
theorem dX5_account_96 : decode cX5_account 96 = .ok (.aload_n 0, 1) := by decide +kernel
theorem dX5_account_97 : decode cX5_account 97 = .ok (.getfield 53, 3) := by decide +kernel
theorem dX5_account_100 : decode cX5_account 100 = .ok (.ireturn, 1) := by decide +kernel
theorem dX5_account_101 : decode cX5_account 101 = .ok (.aload_n 0, 1) := by decide +kernel
theorem dX5_account_102 : decode cX5_account 102 = .ok (.getfield 56, 3) := by decide +kernel
theorem dX5_account_105 : decode cX5_account 105 = .ok (.ireturn, 1) := by decide +kernel
theorem dX5_account_106 : decode cX5_account 106 = .ok (.aload_n 0, 1) := by decide +kernel
theorem dX5_account_107 : decode cX5_account 107 = .ok (.getfield 59, 3) := by decide +kernel
theorem dX5_account_110 : decode cX5_account 110 = .ok (.ireturn, 1) := by decide +kernel
theorem dX5_roomAt_0 : decode cX5_roomAt 0 = .ok (.iload_n 1, 1) := by decide +kernel
theorem dX5_roomAt_1 : decode cX5_roomAt 1 = .ok (.ifCond .lt 12, 3) := by decide +kernel
theorem dX5_roomAt_4 : decode cX5_roomAt 4 = .ok (.iload_n 1, 1) := by decide +kernel
theorem dX5_roomAt_5 : decode cX5_roomAt 5 = .ok (.aload_n 0, 1) := by decide +kernel
theorem dX5_roomAt_6 : decode cX5_roomAt 6 = .ok (.getfield 20, 3) := by decide +kernel
theorem dX5_roomAt_9 : decode cX5_roomAt 9 = .ok (.arraylength, 1) := by decide +kernel
theorem dX5_roomAt_10 : decode cX5_roomAt 10 = .ok (.if_icmp .lt 5, 3) := by decide +kernel
theorem dX5_roomAt_13 : decode cX5_roomAt 13 = .ok (.aconst_null, 1) := by decide +kernel
theorem dX5_roomAt_14 : decode cX5_roomAt 14 = .ok (.areturn, 1) := by decide +kernel
theorem dX5_roomAt_15 : decode cX5_roomAt 15 = .ok (.aload_n 0, 1) := by decide +kernel
theorem dX5_roomAt_16 : decode cX5_roomAt 16 = .ok (.getfield 20, 3) := by decide +kernel
theorem dX5_roomAt_19 : decode cX5_roomAt 19 = .ok (.iload_n 1, 1) := by decide +kernel
theorem dX5_roomAt_20 : decode cX5_roomAt 20 = .ok (.aaload, 1) := by decide +kernel
theorem dX5_roomAt_21 : decode cX5_roomAt 21 = .ok (.astore_n 2, 1) := by decide +kernel
theorem dX5_roomAt_22 : decode cX5_roomAt 22 = .ok (.aload_n 2, 1) := by decide +kernel
theorem dX5_roomAt_23 : decode cX5_roomAt 23 = .ok (.invokevirtual 69, 3) := by decide +kernel
theorem dX5_roomAt_26 : decode cX5_roomAt 26 = .ok (.ifCond .eq 7, 3) := by decide +kernel
theorem dX5_roomAt_29 : decode cX5_roomAt 29 = .ok (.aload_n 2, 1) := by decide +kernel
theorem dX5_roomAt_30 : decode cX5_roomAt 30 = .ok (.goto 4, 3) := by decide +kernel
theorem dX5_roomAt_33 : decode cX5_roomAt 33 = .ok (.aconst_null, 1) := by decide +kernel
theorem dX5_roomAt_34 : decode cX5_roomAt 34 = .ok (.areturn, 1) := by decide +kernel
theorem dX5_firstFree_0 : decode cX5_firstFree 0 = .ok (.aload_n 0, 1) := by decide +kernel
theorem dX5_firstFree_1 : decode cX5_firstFree 1 = .ok (.getfield 20, 3) := by decide +kernel
theorem dX5_firstFree_4 : decode cX5_firstFree 4 = .ok (.astore_n 1, 1) := by decide +kernel
theorem dX5_firstFree_5 : decode cX5_firstFree 5 = .ok (.aload_n 1, 1) := by decide +kernel
theorem dX5_firstFree_6 : decode cX5_firstFree 6 = .ok (.arraylength, 1) := by decide +kernel
theorem dX5_firstFree_7 : decode cX5_firstFree 7 = .ok (.istore_n 2, 1) := by decide +kernel
theorem dX5_firstFree_8 : decode cX5_firstFree 8 = .ok (.iconst 0, 1) := by decide +kernel
theorem dX5_firstFree_9 : decode cX5_firstFree 9 = .ok (.istore_n 3, 1) := by decide +kernel
theorem dX5_firstFree_10 : decode cX5_firstFree 10 = .ok (.iload_n 3, 1) := by decide +kernel
theorem dX5_firstFree_11 : decode cX5_firstFree 11 = .ok (.iload_n 2, 1) := by decide +kernel
theorem dX5_firstFree_12 : decode cX5_firstFree 12 = .ok (.if_icmp .ge 25, 3) := by decide +kernel
theorem dX5_firstFree_15 : decode cX5_firstFree 15 = .ok (.aload_n 1, 1) := by decide +kernel
theorem dX5_firstFree_16 : decode cX5_firstFree 16 = .ok (.iload_n 3, 1) := by decide +kernel
theorem dX5_firstFree_17 : decode cX5_firstFree 17 = .ok (.aaload, 1) := by decide +kernel
theorem dX5_firstFree_18 : decode cX5_firstFree 18 = .ok (.astore 4, 2) := by decide +kernel
theorem dX5_firstFree_20 : decode cX5_firstFree 20 = .ok (.aload 4, 2) := by decide +kernel
theorem dX5_firstFree_22 : decode cX5_firstFree 22 = .ok (.invokevirtual 69, 3) := by decide +kernel
theorem dX5_firstFree_25 : decode cX5_firstFree 25 = .ok (.ifCond .ne 6, 3) := by decide +kernel
theorem dX5_firstFree_28 : decode cX5_firstFree 28 = .ok (.aload 4, 2) := by decide +kernel
theorem dX5_firstFree_30 : decode cX5_firstFree 30 = .ok (.areturn, 1) := by decide +kernel
theorem dX5_firstFree_31 : decode cX5_firstFree 31 = .ok (.iinc 3 1, 3) := by decide +kernel
theorem dX5_firstFree_34 : decode cX5_firstFree 34 = .ok (.goto (-24), 3) := by decide +kernel
theorem dX5_firstFree_37 : decode cX5_firstFree 37 = .ok (.aconst_null, 1) := by decide +kernel
theorem dX5_firstFree_38 : decode cX5_firstFree 38 = .ok (.areturn, 1) := by decide +kernel
theorem dX5_countRooms_0 : decode cX5_countRooms 0 = .ok (.aload_n 0, 1) := by decide +kernel
theorem dX5_countRooms_1 : decode cX5_countRooms 1 = .ok (.invokevirtual 73, 3) := by decide +kernel
theorem dX5_countRooms_4 : decode cX5_countRooms 4 = .ok (.astore_n 1, 1) := by decide +kernel
theorem dX5_countRooms_5 : decode cX5_countRooms 5 = .ok (.aload_n 1, 1) := by decide +kernel
theorem dX5_countRooms_6 : decode cX5_countRooms 6 = .ok (.ifnonnull 11, 3) := by decide +kernel
theorem dX5_countRooms_9 : decode cX5_countRooms 9 = .ok (.aload_n 0, 1) := by decide +kernel
theorem dX5_countRooms_10 : decode cX5_countRooms 10 = .ok (.getfield 20, 3) := by decide +kernel
theorem dX5_countRooms_13 : decode cX5_countRooms 13 = .ok (.arraylength, 1) := by decide +kernel
theorem dX5_countRooms_14 : decode cX5_countRooms 14 = .ok (.goto 7, 3) := by decide +kernel
theorem dX5_countRooms_17 : decode cX5_countRooms 17 = .ok (.aload_n 1, 1) := by decide +kernel
theorem dX5_countRooms_18 : decode cX5_countRooms 18 = .ok (.getfield 77, 3) := by decide +kernel
theorem dX5_countRooms_21 : decode cX5_countRooms 21 = .ok (.ireturn, 1) := by decide +kernel
theorem dX5_openDoors_0 : decode cX5_openDoors 0 = .ok (.iconst 0, 1) := by decide +kernel
theorem dX5_openDoors_1 : decode cX5_openDoors 1 = .ok (.istore_n 1, 1) := by decide +kernel
theorem dX5_openDoors_2 : decode cX5_openDoors 2 = .ok (.aload_n 0, 1) := by decide +kernel
theorem dX5_openDoors_3 : decode cX5_openDoors 3 = .ok (.getfield 20, 3) := by decide +kernel
theorem dX5_openDoors_6 : decode cX5_openDoors 6 = .ok (.astore_n 2, 1) := by decide +kernel
theorem dX5_openDoors_7 : decode cX5_openDoors 7 = .ok (.aload_n 2, 1) := by decide +kernel
theorem dX5_openDoors_8 : decode cX5_openDoors 8 = .ok (.arraylength, 1) := by decide +kernel
theorem dX5_openDoors_9 : decode cX5_openDoors 9 = .ok (.istore_n 3, 1) := by decide +kernel
theorem dX5_openDoors_10 : decode cX5_openDoors 10 = .ok (.iconst 0, 1) := by decide +kernel
theorem dX5_openDoors_11 : decode cX5_openDoors 11 = .ok (.istore 4, 2) := by decide +kernel
theorem dX5_openDoors_13 : decode cX5_openDoors 13 = .ok (.iload 4, 2) := by decide +kernel
theorem dX5_openDoors_15 : decode cX5_openDoors 15 = .ok (.iload_n 3, 1) := by decide +kernel
theorem dX5_openDoors_16 : decode cX5_openDoors 16 = .ok (.if_icmp .ge 34, 3) := by decide +kernel
theorem dX5_openDoors_19 : decode cX5_openDoors 19 = .ok (.aload_n 2, 1) := by decide +kernel
theorem dX5_openDoors_20 : decode cX5_openDoors 20 = .ok (.iload 4, 2) := by decide +kernel
theorem dX5_openDoors_22 : decode cX5_openDoors 22 = .ok (.aaload, 1) := by decide +kernel
theorem dX5_openDoors_23 : decode cX5_openDoors 23 = .ok (.astore 5, 2) := by decide +kernel
theorem dX5_openDoors_25 : decode cX5_openDoors 25 = .ok (.aload 5, 2) := by decide +kernel
theorem dX5_openDoors_27 : decode cX5_openDoors 27 = .ok (.invokevirtual 69, 3) := by decide +kernel
theorem dX5_openDoors_30 : decode cX5_openDoors 30 = .ok (.ifCond .eq 14, 3) := by decide +kernel
theorem dX5_openDoors_33 : decode cX5_openDoors 33 = .ok (.aload 5, 2) := by decide +kernel
theorem dX5_openDoors_35 : decode cX5_openDoors 35 = .ok (.getfield 80, 3) := by decide +kernel
theorem dX5_openDoors_38 : decode cX5_openDoors 38 = .ok (.ifCond .eq 6, 3) := by decide +kernel
theorem dX5_openDoors_41 : decode cX5_openDoors 41 = .ok (.iinc 1 1, 3) := by decide +kernel
theorem dX5_openDoors_44 : decode cX5_openDoors 44 = .ok (.iinc 4 1, 3) := by decide +kernel
theorem dX5_openDoors_47 : decode cX5_openDoors 47 = .ok (.goto (-34), 3) := by decide +kernel
theorem dX5_openDoors_50 : decode cX5_openDoors 50 = .ok (.iload_n 1, 1) := by decide +kernel
theorem dX5_openDoors_51 : decode cX5_openDoors 51 = .ok (.ireturn, 1) := by decide +kernel
theorem dX5_warmestRoom_0 : decode cX5_warmestRoom 0 = .ok (.aconst_null, 1) := by decide +kernel
theorem dX5_warmestRoom_1 : decode cX5_warmestRoom 1 = .ok (.astore_n 1, 1) := by decide +kernel
theorem dX5_warmestRoom_2 : decode cX5_warmestRoom 2 = .ok (.aload_n 0, 1) := by decide +kernel
theorem dX5_warmestRoom_3 : decode cX5_warmestRoom 3 = .ok (.getfield 20, 3) := by decide +kernel
theorem dX5_warmestRoom_6 : decode cX5_warmestRoom 6 = .ok (.astore_n 2, 1) := by decide +kernel
theorem dX5_warmestRoom_7 : decode cX5_warmestRoom 7 = .ok (.aload_n 2, 1) := by decide +kernel
theorem dX5_warmestRoom_8 : decode cX5_warmestRoom 8 = .ok (.arraylength, 1) := by decide +kernel
theorem dX5_warmestRoom_9 : decode cX5_warmestRoom 9 = .ok (.istore_n 3, 1) := by decide +kernel
theorem dX5_warmestRoom_10 : decode cX5_warmestRoom 10 = .ok (.iconst 0, 1) := by decide +kernel
theorem dX5_warmestRoom_11 : decode cX5_warmestRoom 11 = .ok (.istore 4, 2) := by decide +kernel
theorem dX5_warmestRoom_13 : decode cX5_warmestRoom 13 = .ok (.iload 4, 2) := by decide +kernel
theorem dX5_warmestRoom_15 : decode cX5_warmestRoom 15 = .ok (.iload_n 3, 1) := by decide +kernel
theorem dX5_warmestRoom_16 : decode cX5_warmestRoom 16 = .ok (.if_icmp .ge 42, 3) := by decide +kernel
theorem dX5_warmestRoom_19 : decode cX5_warmestRoom 19 = .ok (.aload_n 2, 1) := by decide +kernel
theorem dX5_warmestRoom_20 : decode cX5_warmestRoom 20 = .ok (.iload 4, 2) := by decide +kernel
theorem dX5_warmestRoom_22 : decode cX5_warmestRoom 22 = .ok (.aaload, 1) := by decide +kernel
theorem dX5_warmestRoom_23 : decode cX5_warmestRoom 23 = .ok (.astore 5, 2) := by decide +kernel
theorem dX5_warmestRoom_25 : decode cX5_warmestRoom 25 = .ok (.aload 5, 2) := by decide +kernel
theorem dX5_warmestRoom_27 : decode cX5_warmestRoom 27 = .ok (.invokevirtual 69, 3) := by decide +kernel
theorem dX5_warmestRoom_30 : decode cX5_warmestRoom 30 = .ok (.ifCond .eq 22, 3) := by decide +kernel
theorem dX5_warmestRoom_33 : decode cX5_warmestRoom 33 = .ok (.aload_n 1, 1) := by decide +kernel
theorem dX5_warmestRoom_34 : decode cX5_warmestRoom 34 = .ok (.ifnull 15, 3) := by decide +kernel
theorem dX5_warmestRoom_37 : decode cX5_warmestRoom 37 = .ok (.aload 5, 2) := by decide +kernel
theorem dX5_warmestRoom_39 : decode cX5_warmestRoom 39 = .ok (.invokevirtual 84, 3) := by decide +kernel
theorem dX5_warmestRoom_42 : decode cX5_warmestRoom 42 = .ok (.aload_n 1, 1) := by decide +kernel
theorem dX5_warmestRoom_43 : decode cX5_warmestRoom 43 = .ok (.invokevirtual 84, 3) := by decide +kernel
theorem dX5_warmestRoom_46 : decode cX5_warmestRoom 46 = .ok (.if_icmp .le 6, 3) := by decide +kernel
theorem dX5_warmestRoom_49 : decode cX5_warmestRoom 49 = .ok (.aload 5, 2) := by decide +kernel
theorem dX5_warmestRoom_51 : decode cX5_warmestRoom 51 = .ok (.astore_n 1, 1) := by decide +kernel
theorem dX5_warmestRoom_52 : decode cX5_warmestRoom 52 = .ok (.iinc 4 1, 3) := by decide +kernel
theorem dX5_warmestRoom_55 : decode cX5_warmestRoom 55 = .ok (.goto (-42), 3) := by decide +kernel
theorem dX5_warmestRoom_58 : decode cX5_warmestRoom 58 = .ok (.aload_n 1, 1) := by decide +kernel
theorem dX5_warmestRoom_59 : decode cX5_warmestRoom 59 = .ok (.ifnonnull 7, 3) := by decide +kernel
theorem dX5_warmestRoom_62 : decode cX5_warmestRoom 62 = .ok (.iconst (-1), 1) := by decide +kernel
theorem dX5_warmestRoom_63 : decode cX5_warmestRoom 63 = .ok (.goto 7, 3) := by decide +kernel
theorem dX5_warmestRoom_66 : decode cX5_warmestRoom 66 = .ok (.aload_n 1, 1) := by decide +kernel
theorem dX5_warmestRoom_67 : decode cX5_warmestRoom 67 = .ok (.getfield 77, 3) := by decide +kernel
theorem dX5_warmestRoom_70 : decode cX5_warmestRoom 70 = .ok (.ireturn, 1) := by decide +kernel
theorem dX5_canBeRoom_0 : decode cX5_canBeRoom 0 = .ok (.iload_n 0, 1) := by decide +kernel
theorem dX5_canBeRoom_1 : decode cX5_canBeRoom 1 = .ok (.iconst 1, 1) := by decide +kernel
theorem dX5_canBeRoom_2 : decode cX5_canBeRoom 2 = .ok (.if_icmp .lt 32, 3) := by decide +kernel
theorem dX5_canBeRoom_5 : decode cX5_canBeRoom 5 = .ok (.iload_n 0, 1) := by decide +kernel
theorem dX5_canBeRoom_6 : decode cX5_canBeRoom 6 = .ok (.bipush 50, 2) := by decide +kernel
theorem dX5_canBeRoom_8 : decode cX5_canBeRoom 8 = .ok (.if_icmp .gt 26, 3) := by decide +kernel
theorem dX5_canBeRoom_11 : decode cX5_canBeRoom 11 = .ok (.iload_n 1, 1) := by decide +kernel
theorem dX5_canBeRoom_12 : decode cX5_canBeRoom 12 = .ok (.sipush (-300), 3) := by decide +kernel
theorem dX5_canBeRoom_15 : decode cX5_canBeRoom 15 = .ok (.if_icmp .lt 19, 3) := by decide +kernel
theorem dX5_canBeRoom_18 : decode cX5_canBeRoom 18 = .ok (.iload_n 1, 1) := by decide +kernel
theorem dX5_canBeRoom_19 : decode cX5_canBeRoom 19 = .ok (.iload_n 2, 1) := by decide +kernel
theorem dX5_canBeRoom_20 : decode cX5_canBeRoom 20 = .ok (.if_icmp .ge 14, 3) := by decide +kernel
theorem dX5_canBeRoom_23 : decode cX5_canBeRoom 23 = .ok (.iload_n 2, 1) := by decide +kernel
theorem dX5_canBeRoom_24 : decode cX5_canBeRoom 24 = .ok (.sipush 200, 3) := by decide +kernel
theorem dX5_canBeRoom_27 : decode cX5_canBeRoom 27 = .ok (.if_icmp .gt 7, 3) := by decide +kernel
theorem dX5_canBeRoom_30 : decode cX5_canBeRoom 30 = .ok (.iconst 1, 1) := by decide +kernel
theorem dX5_canBeRoom_31 : decode cX5_canBeRoom 31 = .ok (.goto 4, 3) := by decide +kernel
theorem dX5_canBeRoom_34 : decode cX5_canBeRoom 34 = .ok (.iconst 0, 1) := by decide +kernel
theorem dX5_canBeRoom_35 : decode cX5_canBeRoom 35 = .ok (.ireturn, 1) := by decide +kernel
theorem dX5_canPass_0 : decode cX5_canPass 0 = .ok (.iload_n 0, 1) := by decide +kernel
theorem dX5_canPass_1 : decode cX5_canPass 1 = .ok (.iconst 1, 1) := by decide +kernel
theorem dX5_canPass_2 : decode cX5_canPass 2 = .ok (.if_icmp .lt 13, 3) := by decide +kernel
theorem dX5_canPass_5 : decode cX5_canPass 5 = .ok (.iload_n 0, 1) := by decide +kernel
theorem dX5_canPass_6 : decode cX5_canPass 6 = .ok (.bipush 60, 2) := by decide +kernel
theorem dX5_canPass_8 : decode cX5_canPass 8 = .ok (.if_icmp .gt 7, 3) := by decide +kernel
theorem dX5_canPass_11 : decode cX5_canPass 11 = .ok (.iconst 1, 1) := by decide +kernel
theorem dX5_canPass_12 : decode cX5_canPass 12 = .ok (.goto 4, 3) := by decide +kernel
theorem dX5_canPass_15 : decode cX5_canPass 15 = .ok (.iconst 0, 1) := by decide +kernel
theorem dX5_canPass_16 : decode cX5_canPass 16 = .ok (.ireturn, 1) := by decide +kernel
theorem dX5_canBeTemperature_0 : decode cX5_canBeTemperature 0 = .ok (.iload_n 0, 1) := by decide +kernel
theorem dX5_canBeTemperature_1 : decode cX5_canBeTemperature 1 = .ok (.sipush (-400), 3) := by decide +kernel
theorem dX5_canBeTemperature_4 : decode cX5_canBeTemperature 4 = .ok (.if_icmp .lt 14, 3) := by decide +kernel
theorem dX5_canBeTemperature_7 : decode cX5_canBeTemperature 7 = .ok (.iload_n 0, 1) := by decide +kernel
theorem dX5_canBeTemperature_8 : decode cX5_canBeTemperature 8 = .ok (.sipush 400, 3) := by decide +kernel
theorem dX5_canBeTemperature_11 : decode cX5_canBeTemperature 11 = .ok (.if_icmp .gt 7, 3) := by decide +kernel
theorem dX5_canBeTemperature_14 : decode cX5_canBeTemperature 14 = .ok (.iconst 1, 1) := by decide +kernel
theorem dX5_canBeTemperature_15 : decode cX5_canBeTemperature 15 = .ok (.goto 4, 3) := by decide +kernel
theorem dX5_canBeTemperature_18 : decode cX5_canBeTemperature 18 = .ok (.iconst 0, 1) := by decide +kernel
theorem dX5_canBeTemperature_19 : decode cX5_canBeTemperature 19 = .ok (.ireturn, 1) := by decide +kernel
theorem dX5_takeRoom_0 : decode cX5_takeRoom 0 = .ok (.aload_n 0, 1) := by decide +kernel
theorem dX5_takeRoom_1 : decode cX5_takeRoom 1 = .ok (.invokevirtual 73, 3) := by decide +kernel
theorem dX5_takeRoom_4 : decode cX5_takeRoom 4 = .ok (.astore 4, 2) := by decide +kernel
theorem dX5_takeRoom_6 : decode cX5_takeRoom 6 = .ok (.aload 4, 2) := by decide +kernel
theorem dX5_takeRoom_8 : decode cX5_takeRoom 8 = .ok (.ifnull 12, 3) := by decide +kernel
theorem dX5_takeRoom_11 : decode cX5_takeRoom 11 = .ok (.iload_n 1, 1) := by decide +kernel
theorem dX5_takeRoom_12 : decode cX5_takeRoom 12 = .ok (.iload_n 2, 1) := by decide +kernel
theorem dX5_takeRoom_13 : decode cX5_takeRoom 13 = .ok (.iload_n 3, 1) := by decide +kernel
theorem dX5_takeRoom_14 : decode cX5_takeRoom 14 = .ok (.invokestatic 87, 3) := by decide +kernel
theorem dX5_takeRoom_17 : decode cX5_takeRoom 17 = .ok (.ifCond .ne 5, 3) := by decide +kernel
theorem dX5_takeRoom_20 : decode cX5_takeRoom 20 = .ok (.iconst (-1), 1) := by decide +kernel
theorem dX5_takeRoom_21 : decode cX5_takeRoom 21 = .ok (.ireturn, 1) := by decide +kernel
theorem dX5_takeRoom_22 : decode cX5_takeRoom 22 = .ok (.aload 4, 2) := by decide +kernel
theorem dX5_takeRoom_24 : decode cX5_takeRoom 24 = .ok (.iload_n 1, 1) := by decide +kernel
theorem dX5_takeRoom_25 : decode cX5_takeRoom 25 = .ok (.iload_n 2, 1) := by decide +kernel
theorem dX5_takeRoom_26 : decode cX5_takeRoom 26 = .ok (.iload_n 3, 1) := by decide +kernel
theorem dX5_takeRoom_27 : decode cX5_takeRoom 27 = .ok (.invokevirtual 91, 3) := by decide +kernel
theorem dX5_takeRoom_30 : decode cX5_takeRoom 30 = .ok (.aload 4, 2) := by decide +kernel
theorem dX5_takeRoom_32 : decode cX5_takeRoom 32 = .ok (.getfield 77, 3) := by decide +kernel
theorem dX5_takeRoom_35 : decode cX5_takeRoom 35 = .ok (.ireturn, 1) := by decide +kernel
theorem dX5_moveDoor_0 : decode cX5_moveDoor 0 = .ok (.aload_n 0, 1) := by decide +kernel
theorem dX5_moveDoor_1 : decode cX5_moveDoor 1 = .ok (.iload_n 1, 1) := by decide +kernel
theorem dX5_moveDoor_2 : decode cX5_moveDoor 2 = .ok (.invokevirtual 95, 3) := by decide +kernel
theorem dX5_moveDoor_5 : decode cX5_moveDoor 5 = .ok (.astore_n 3, 1) := by decide +kernel
theorem dX5_moveDoor_6 : decode cX5_moveDoor 6 = .ok (.aload_n 3, 1) := by decide +kernel
theorem dX5_moveDoor_7 : decode cX5_moveDoor 7 = .ok (.ifnonnull 5, 3) := by decide +kernel
theorem dX5_moveDoor_10 : decode cX5_moveDoor 10 = .ok (.iconst 0, 1) := by decide +kernel
theorem dX5_moveDoor_11 : decode cX5_moveDoor 11 = .ok (.ireturn, 1) := by decide +kernel
theorem dX5_moveDoor_12 : decode cX5_moveDoor 12 = .ok (.aload_n 3, 1) := by decide +kernel
theorem dX5_moveDoor_13 : decode cX5_moveDoor 13 = .ok (.iload_n 2, 1) := by decide +kernel
theorem dX5_moveDoor_14 : decode cX5_moveDoor 14 = .ok (.putfield 80, 3) := by decide +kernel
theorem dX5_moveDoor_17 : decode cX5_moveDoor 17 = .ok (.iconst 1, 1) := by decide +kernel
theorem dX5_moveDoor_18 : decode cX5_moveDoor 18 = .ok (.ireturn, 1) := by decide +kernel
theorem dX5_takeGoods_0 : decode cX5_takeGoods 0 = .ok (.aload_n 0, 1) := by decide +kernel
theorem dX5_takeGoods_1 : decode cX5_takeGoods 1 = .ok (.iload_n 1, 1) := by decide +kernel
theorem dX5_takeGoods_2 : decode cX5_takeGoods 2 = .ok (.invokevirtual 95, 3) := by decide +kernel
theorem dX5_takeGoods_5 : decode cX5_takeGoods 5 = .ok (.astore_n 3, 1) := by decide +kernel
theorem dX5_takeGoods_6 : decode cX5_takeGoods 6 = .ok (.aload_n 3, 1) := by decide +kernel
theorem dX5_takeGoods_7 : decode cX5_takeGoods 7 = .ok (.ifnull 10, 3) := by decide +kernel
theorem dX5_takeGoods_10 : decode cX5_takeGoods 10 = .ok (.iload_n 2, 1) := by decide +kernel
theorem dX5_takeGoods_11 : decode cX5_takeGoods 11 = .ok (.invokestatic 99, 3) := by decide +kernel
theorem dX5_takeGoods_14 : decode cX5_takeGoods 14 = .ok (.ifCond .ne 5, 3) := by decide +kernel
theorem dX5_takeGoods_17 : decode cX5_takeGoods 17 = .ok (.iconst 0, 1) := by decide +kernel
theorem dX5_takeGoods_18 : decode cX5_takeGoods 18 = .ok (.ireturn, 1) := by decide +kernel
theorem dX5_takeGoods_19 : decode cX5_takeGoods 19 = .ok (.aload_n 3, 1) := by decide +kernel
theorem dX5_takeGoods_20 : decode cX5_takeGoods 20 = .ok (.iload_n 2, 1) := by decide +kernel
theorem dX5_takeGoods_21 : decode cX5_takeGoods 21 = .ok (.putfield 103, 3) := by decide +kernel
theorem dX5_takeGoods_24 : decode cX5_takeGoods 24 = .ok (.iconst 1, 1) := by decide +kernel
theorem dX5_takeGoods_25 : decode cX5_takeGoods 25 = .ok (.ireturn, 1) := by decide +kernel
theorem dX5_changeSetting_0 : decode cX5_changeSetting 0 = .ok (.iload_n 1, 1) := by decide +kernel
theorem dX5_changeSetting_1 : decode cX5_changeSetting 1 = .ok (.iload_n 2, 1) := by decide +kernel
theorem dX5_changeSetting_2 : decode cX5_changeSetting 2 = .ok (.invokestatic 106, 3) := by decide +kernel
theorem dX5_changeSetting_5 : decode cX5_changeSetting 5 = .ok (.ifCond .ne 5, 3) := by decide +kernel
theorem dX5_changeSetting_8 : decode cX5_changeSetting 8 = .ok (.iconst 0, 1) := by decide +kernel
theorem dX5_changeSetting_9 : decode cX5_changeSetting 9 = .ok (.ireturn, 1) := by decide +kernel
theorem dX5_changeSetting_10 : decode cX5_changeSetting 10 = .ok (.aload_n 0, 1) := by decide +kernel
theorem dX5_changeSetting_11 : decode cX5_changeSetting 11 = .ok (.getfield 12, 3) := by decide +kernel
theorem dX5_changeSetting_14 : decode cX5_changeSetting 14 = .ok (.iload_n 1, 1) := by decide +kernel
theorem dX5_changeSetting_15 : decode cX5_changeSetting 15 = .ok (.iload_n 2, 1) := by decide +kernel
theorem dX5_changeSetting_16 : decode cX5_changeSetting 16 = .ok (.invokevirtual 110, 3) := by decide +kernel
theorem dX5_changeSetting_19 : decode cX5_changeSetting 19 = .ok (.iconst 1, 1) := by decide +kernel
theorem dX5_changeSetting_20 : decode cX5_changeSetting 20 = .ok (.ireturn, 1) := by decide +kernel
theorem dX5_passMinutes_0 : decode cX5_passMinutes 0 = .ok (.iload_n 1, 1) := by decide +kernel
theorem dX5_passMinutes_1 : decode cX5_passMinutes 1 = .ok (.invokestatic 114, 3) := by decide +kernel
theorem dX5_passMinutes_4 : decode cX5_passMinutes 4 = .ok (.ifCond .ne 5, 3) := by decide +kernel
theorem dX5_passMinutes_7 : decode cX5_passMinutes 7 = .ok (.iconst 0, 1) := by decide +kernel
theorem dX5_passMinutes_8 : decode cX5_passMinutes 8 = .ok (.ireturn, 1) := by decide +kernel
theorem dX5_passMinutes_9 : decode cX5_passMinutes 9 = .ok (.iconst 0, 1) := by decide +kernel
theorem dX5_passMinutes_10 : decode cX5_passMinutes 10 = .ok (.istore_n 2, 1) := by decide +kernel
theorem dX5_passMinutes_11 : decode cX5_passMinutes 11 = .ok (.iload_n 2, 1) := by decide +kernel
theorem dX5_passMinutes_12 : decode cX5_passMinutes 12 = .ok (.iload_n 1, 1) := by decide +kernel
theorem dX5_passMinutes_13 : decode cX5_passMinutes 13 = .ok (.if_icmp .ge 13, 3) := by decide +kernel
theorem dX5_passMinutes_16 : decode cX5_passMinutes 16 = .ok (.aload_n 0, 1) := by decide +kernel
theorem dX5_passMinutes_17 : decode cX5_passMinutes 17 = .ok (.invokevirtual 117, 3) := by decide +kernel
theorem dX5_passMinutes_20 : decode cX5_passMinutes 20 = .ok (.iinc 2 1, 3) := by decide +kernel
theorem dX5_passMinutes_23 : decode cX5_passMinutes 23 = .ok (.goto (-12), 3) := by decide +kernel
theorem dX5_passMinutes_26 : decode cX5_passMinutes 26 = .ok (.iconst 1, 1) := by decide +kernel
theorem dX5_passMinutes_27 : decode cX5_passMinutes 27 = .ok (.ireturn, 1) := by decide +kernel
theorem dX5_passMinute_0 : decode cX5_passMinute 0 = .ok (.aload_n 0, 1) := by decide +kernel
theorem dX5_passMinute_1 : decode cX5_passMinute 1 = .ok (.aload_n 0, 1) := by decide +kernel
theorem dX5_passMinute_2 : decode cX5_passMinute 2 = .ok (.invokevirtual 120, 3) := by decide +kernel
theorem dX5_passMinute_5 : decode cX5_passMinute 5 = .ok (.aload_n 0, 1) := by decide +kernel
theorem dX5_passMinute_6 : decode cX5_passMinute 6 = .ok (.getfield 12, 3) := by decide +kernel
theorem dX5_passMinute_9 : decode cX5_passMinute 9 = .ok (.getfield 123, 3) := by decide +kernel
theorem dX5_passMinute_12 : decode cX5_passMinute 12 = .ok (.iadd, 1) := by decide +kernel
theorem dX5_passMinute_13 : decode cX5_passMinute 13 = .ok (.invokevirtual 126, 3) := by decide +kernel
theorem dX5_passMinute_16 : decode cX5_passMinute 16 = .ok (.aload_n 0, 1) := by decide +kernel
theorem dX5_passMinute_17 : decode cX5_passMinute 17 = .ok (.getfield 20, 3) := by decide +kernel
theorem dX5_passMinute_20 : decode cX5_passMinute 20 = .ok (.astore_n 1, 1) := by decide +kernel
theorem dX5_passMinute_21 : decode cX5_passMinute 21 = .ok (.aload_n 1, 1) := by decide +kernel
theorem dX5_passMinute_22 : decode cX5_passMinute 22 = .ok (.arraylength, 1) := by decide +kernel
theorem dX5_passMinute_23 : decode cX5_passMinute 23 = .ok (.istore_n 2, 1) := by decide +kernel
theorem dX5_passMinute_24 : decode cX5_passMinute 24 = .ok (.iconst 0, 1) := by decide +kernel
theorem dX5_passMinute_25 : decode cX5_passMinute 25 = .ok (.istore_n 3, 1) := by decide +kernel
theorem dX5_passMinute_26 : decode cX5_passMinute 26 = .ok (.iload_n 3, 1) := by decide +kernel
theorem dX5_passMinute_27 : decode cX5_passMinute 27 = .ok (.iload_n 2, 1) := by decide +kernel
theorem dX5_passMinute_28 : decode cX5_passMinute 28 = .ok (.if_icmp .ge 44, 3) := by decide +kernel
theorem dX5_passMinute_31 : decode cX5_passMinute 31 = .ok (.aload_n 1, 1) := by decide +kernel
theorem dX5_passMinute_32 : decode cX5_passMinute 32 = .ok (.iload_n 3, 1) := by decide +kernel
theorem dX5_passMinute_33 : decode cX5_passMinute 33 = .ok (.aaload, 1) := by decide +kernel
theorem dX5_passMinute_34 : decode cX5_passMinute 34 = .ok (.astore 4, 2) := by decide +kernel
theorem dX5_passMinute_36 : decode cX5_passMinute 36 = .ok (.aload 4, 2) := by decide +kernel
theorem dX5_passMinute_38 : decode cX5_passMinute 38 = .ok (.invokevirtual 69, 3) := by decide +kernel
theorem dX5_passMinute_41 : decode cX5_passMinute 41 = .ok (.ifCond .eq 25, 3) := by decide +kernel
theorem dX5_passMinute_44 : decode cX5_passMinute 44 = .ok (.aload_n 0, 1) := by decide +kernel
theorem dX5_passMinute_45 : decode cX5_passMinute 45 = .ok (.aload 4, 2) := by decide +kernel
theorem dX5_passMinute_47 : decode cX5_passMinute 47 = .ok (.invokevirtual 129, 3) := by decide +kernel
theorem dX5_passMinute_50 : decode cX5_passMinute 50 = .ok (.aload 4, 2) := by decide +kernel
theorem dX5_passMinute_52 : decode cX5_passMinute 52 = .ok (.invokevirtual 132, 3) := by decide +kernel
theorem dX5_passMinute_55 : decode cX5_passMinute 55 = .ok (.aload 4, 2) := by decide +kernel
theorem dX5_passMinute_57 : decode cX5_passMinute 57 = .ok (.invokevirtual 135, 3) := by decide +kernel
theorem dX5_passMinute_60 : decode cX5_passMinute 60 = .ok (.aload_n 0, 1) := by decide +kernel
theorem dX5_passMinute_61 : decode cX5_passMinute 61 = .ok (.aload 4, 2) := by decide +kernel
theorem dX5_passMinute_63 : decode cX5_passMinute 63 = .ok (.invokevirtual 138, 3) := by decide +kernel
theorem dX5_passMinute_66 : decode cX5_passMinute 66 = .ok (.iinc 3 1, 3) := by decide +kernel
theorem dX5_passMinute_69 : decode cX5_passMinute 69 = .ok (.goto (-43), 3) := by decide +kernel
theorem dX5_passMinute_72 : decode cX5_passMinute 72 = .ok (.aload_n 0, 1) := by decide +kernel
theorem dX5_passMinute_73 : decode cX5_passMinute 73 = .ok (.dup, 1) := by decide +kernel
theorem dX5_passMinute_74 : decode cX5_passMinute 74 = .ok (.getfield 34, 3) := by decide +kernel
theorem dX5_passMinute_77 : decode cX5_passMinute 77 = .ok (.iconst 1, 1) := by decide +kernel
theorem dX5_passMinute_78 : decode cX5_passMinute 78 = .ok (.iadd, 1) := by decide +kernel
theorem dX5_passMinute_79 : decode cX5_passMinute 79 = .ok (.putfield 34, 3) := by decide +kernel
theorem dX5_passMinute_82 : decode cX5_passMinute 82 = .ok (.return_, 1) := by decide +kernel
theorem dX5_beginDefrost_0 : decode cX5_beginDefrost 0 = .ok (.aload_n 1, 1) := by decide +kernel
theorem dX5_beginDefrost_1 : decode cX5_beginDefrost 1 = .ok (.getfield 141, 3) := by decide +kernel
theorem dX5_beginDefrost_4 : decode cX5_beginDefrost 4 = .ok (.iconst 2, 1) := by decide +kernel
theorem dX5_beginDefrost_5 : decode cX5_beginDefrost 5 = .ok (.if_icmp .eq 11, 3) := by decide +kernel
theorem dX5_beginDefrost_8 : decode cX5_beginDefrost 8 = .ok (.aload_n 1, 1) := by decide +kernel
theorem dX5_beginDefrost_9 : decode cX5_beginDefrost 9 = .ok (.getfield 141, 3) := by decide +kernel
theorem dX5_beginDefrost_12 : decode cX5_beginDefrost 12 = .ok (.iconst 5, 1) := by decide +kernel
theorem dX5_beginDefrost_13 : decode cX5_beginDefrost 13 = .ok (.if_icmp .ne 24, 3) := by decide +kernel
theorem dX5_beginDefrost_16 : decode cX5_beginDefrost 16 = .ok (.aload_n 1, 1) := by decide +kernel
theorem dX5_beginDefrost_17 : decode cX5_beginDefrost 17 = .ok (.aload_n 0, 1) := by decide +kernel
theorem dX5_beginDefrost_18 : decode cX5_beginDefrost 18 = .ok (.getfield 12, 3) := by decide +kernel
theorem dX5_beginDefrost_21 : decode cX5_beginDefrost 21 = .ok (.getfield 144, 3) := by decide +kernel
theorem dX5_beginDefrost_24 : decode cX5_beginDefrost 24 = .ok (.putfield 147, 3) := by decide +kernel
theorem dX5_beginDefrost_27 : decode cX5_beginDefrost 27 = .ok (.aload_n 0, 1) := by decide +kernel
theorem dX5_beginDefrost_28 : decode cX5_beginDefrost 28 = .ok (.dup, 1) := by decide +kernel
theorem dX5_beginDefrost_29 : decode cX5_beginDefrost 29 = .ok (.getfield 50, 3) := by decide +kernel
theorem dX5_beginDefrost_32 : decode cX5_beginDefrost 32 = .ok (.iconst 1, 1) := by decide +kernel
theorem dX5_beginDefrost_33 : decode cX5_beginDefrost 33 = .ok (.iadd, 1) := by decide +kernel
theorem dX5_beginDefrost_34 : decode cX5_beginDefrost 34 = .ok (.putfield 50, 3) := by decide +kernel
theorem dX5_beginDefrost_37 : decode cX5_beginDefrost 37 = .ok (.return_, 1) := by decide +kernel
theorem dX5_countMinute_0 : decode cX5_countMinute 0 = .ok (.aload_n 1, 1) := by decide +kernel
theorem dX5_countMinute_1 : decode cX5_countMinute 1 = .ok (.dup, 1) := by decide +kernel
theorem dX5_countMinute_2 : decode cX5_countMinute 2 = .ok (.getfield 150, 3) := by decide +kernel
theorem dX5_countMinute_5 : decode cX5_countMinute 5 = .ok (.aload_n 1, 1) := by decide +kernel
theorem dX5_countMinute_6 : decode cX5_countMinute 6 = .ok (.invokevirtual 153, 3) := by decide +kernel
theorem dX5_countMinute_9 : decode cX5_countMinute 9 = .ok (.ifCond .eq 7, 3) := by decide +kernel
theorem dX5_countMinute_12 : decode cX5_countMinute 12 = .ok (.iconst 1, 1) := by decide +kernel
theorem dX5_countMinute_13 : decode cX5_countMinute 13 = .ok (.goto 4, 3) := by decide +kernel
theorem dX5_countMinute_16 : decode cX5_countMinute 16 = .ok (.iconst 0, 1) := by decide +kernel
theorem dX5_countMinute_17 : decode cX5_countMinute 17 = .ok (.iadd, 1) := by decide +kernel
theorem dX5_countMinute_18 : decode cX5_countMinute 18 = .ok (.putfield 150, 3) := by decide +kernel
theorem dX5_countMinute_21 : decode cX5_countMinute 21 = .ok (.aload_n 0, 1) := by decide +kernel
theorem dX5_countMinute_22 : decode cX5_countMinute 22 = .ok (.dup, 1) := by decide +kernel
theorem dX5_countMinute_23 : decode cX5_countMinute 23 = .ok (.getfield 53, 3) := by decide +kernel
theorem dX5_countMinute_26 : decode cX5_countMinute 26 = .ok (.aload_n 1, 1) := by decide +kernel
theorem dX5_countMinute_27 : decode cX5_countMinute 27 = .ok (.getfield 141, 3) := by decide +kernel
theorem dX5_countMinute_30 : decode cX5_countMinute 30 = .ok (.iconst 4, 1) := by decide +kernel
theorem dX5_countMinute_31 : decode cX5_countMinute 31 = .ok (.if_icmp .ne 7, 3) := by decide +kernel
theorem dX5_countMinute_34 : decode cX5_countMinute 34 = .ok (.iconst 1, 1) := by decide +kernel
theorem dX5_countMinute_35 : decode cX5_countMinute 35 = .ok (.goto 4, 3) := by decide +kernel
theorem dX5_countMinute_38 : decode cX5_countMinute 38 = .ok (.iconst 0, 1) := by decide +kernel
theorem dX5_countMinute_39 : decode cX5_countMinute 39 = .ok (.iadd, 1) := by decide +kernel
theorem dX5_countMinute_40 : decode cX5_countMinute 40 = .ok (.putfield 53, 3) := by decide +kernel
theorem dX5_countMinute_43 : decode cX5_countMinute 43 = .ok (.aload_n 0, 1) := by decide +kernel
theorem dX5_countMinute_44 : decode cX5_countMinute 44 = .ok (.dup, 1) := by decide +kernel
theorem dX5_countMinute_45 : decode cX5_countMinute 45 = .ok (.getfield 56, 3) := by decide +kernel
theorem dX5_countMinute_48 : decode cX5_countMinute 48 = .ok (.aload_n 1, 1) := by decide +kernel
theorem dX5_countMinute_49 : decode cX5_countMinute 49 = .ok (.getfield 141, 3) := by decide +kernel
theorem dX5_countMinute_52 : decode cX5_countMinute 52 = .ok (.bipush 6, 2) := by decide +kernel
theorem dX5_countMinute_54 : decode cX5_countMinute 54 = .ok (.if_icmp .ne 7, 3) := by decide +kernel
theorem dX5_countMinute_57 : decode cX5_countMinute 57 = .ok (.iconst 1, 1) := by decide +kernel
theorem dX5_countMinute_58 : decode cX5_countMinute 58 = .ok (.goto 4, 3) := by decide +kernel
theorem dX5_countMinute_61 : decode cX5_countMinute 61 = .ok (.iconst 0, 1) := by decide +kernel
theorem dX5_countMinute_62 : decode cX5_countMinute 62 = .ok (.iadd, 1) := by decide +kernel
theorem dX5_countMinute_63 : decode cX5_countMinute 63 = .ok (.putfield 56, 3) := by decide +kernel
theorem dX5_countMinute_66 : decode cX5_countMinute 66 = .ok (.aload_n 0, 1) := by decide +kernel
theorem dX5_countMinute_67 : decode cX5_countMinute 67 = .ok (.dup, 1) := by decide +kernel
theorem dX5_countMinute_68 : decode cX5_countMinute 68 = .ok (.getfield 59, 3) := by decide +kernel
theorem dX5_countMinute_71 : decode cX5_countMinute 71 = .ok (.aload_n 1, 1) := by decide +kernel
theorem dX5_countMinute_72 : decode cX5_countMinute 72 = .ok (.invokevirtual 156, 3) := by decide +kernel
theorem dX5_countMinute_75 : decode cX5_countMinute 75 = .ok (.ifCond .eq 7, 3) := by decide +kernel
theorem dX5_countMinute_78 : decode cX5_countMinute 78 = .ok (.iconst 1, 1) := by decide +kernel
theorem dX5_countMinute_79 : decode cX5_countMinute 79 = .ok (.goto 4, 3) := by decide +kernel
theorem dX5_countMinute_82 : decode cX5_countMinute 82 = .ok (.iconst 0, 1) := by decide +kernel
theorem dX5_countMinute_83 : decode cX5_countMinute 83 = .ok (.iadd, 1) := by decide +kernel
theorem dX5_countMinute_84 : decode cX5_countMinute 84 = .ok (.putfield 59, 3) := by decide +kernel
theorem dX5_countMinute_87 : decode cX5_countMinute 87 = .ok (.return_, 1) := by decide +kernel
theorem dX5_takeUnits_0 : decode cX5_takeUnits 0 = .ok (.aload_n 0, 1) := by decide +kernel
theorem dX5_takeUnits_1 : decode cX5_takeUnits 1 = .ok (.dup, 1) := by decide +kernel
theorem dX5_takeUnits_2 : decode cX5_takeUnits 2 = .ok (.getfield 38, 3) := by decide +kernel
theorem dX5_takeUnits_5 : decode cX5_takeUnits 5 = .ok (.iload_n 1, 1) := by decide +kernel
theorem dX5_takeUnits_6 : decode cX5_takeUnits 6 = .ok (.iadd, 1) := by decide +kernel
theorem dX5_takeUnits_7 : decode cX5_takeUnits 7 = .ok (.putfield 38, 3) := by decide +kernel
theorem dX5_takeUnits_10 : decode cX5_takeUnits 10 = .ok (.aload_n 0, 1) := by decide +kernel
theorem dX5_takeUnits_11 : decode cX5_takeUnits 11 = .ok (.dup, 1) := by decide +kernel
theorem dX5_takeUnits_12 : decode cX5_takeUnits 12 = .ok (.getfield 47, 3) := by decide +kernel
theorem dX5_takeUnits_15 : decode cX5_takeUnits 15 = .ok (.iload_n 1, 1) := by decide +kernel
theorem dX5_takeUnits_16 : decode cX5_takeUnits 16 = .ok (.iadd, 1) := by decide +kernel
theorem dX5_takeUnits_17 : decode cX5_takeUnits 17 = .ok (.putfield 47, 3) := by decide +kernel
theorem dX5_takeUnits_20 : decode cX5_takeUnits 20 = .ok (.aload_n 0, 1) := by decide +kernel
theorem dX5_takeUnits_21 : decode cX5_takeUnits 21 = .ok (.invokevirtual 66, 3) := by decide +kernel
theorem dX5_takeUnits_24 : decode cX5_takeUnits 24 = .ok (.iconst 1, 1) := by decide +kernel
theorem dX5_takeUnits_25 : decode cX5_takeUnits 25 = .ok (.if_icmp .ne 51, 3) := by decide +kernel
theorem dX5_takeUnits_28 : decode cX5_takeUnits 28 = .ok (.aload_n 0, 1) := by decide +kernel
theorem dX5_takeUnits_29 : decode cX5_takeUnits 29 = .ok (.dup, 1) := by decide +kernel
theorem dX5_takeUnits_30 : decode cX5_takeUnits 30 = .ok (.getfield 41, 3) := by decide +kernel
theorem dX5_takeUnits_33 : decode cX5_takeUnits 33 = .ok (.aload_n 0, 1) := by decide +kernel
theorem dX5_takeUnits_34 : decode cX5_takeUnits 34 = .ok (.getfield 38, 3) := by decide +kernel
theorem dX5_takeUnits_37 : decode cX5_takeUnits 37 = .ok (.aload_n 0, 1) := by decide +kernel
theorem dX5_takeUnits_38 : decode cX5_takeUnits 38 = .ok (.getfield 12, 3) := by decide +kernel
theorem dX5_takeUnits_41 : decode cX5_takeUnits 41 = .ok (.getfield 159, 3) := by decide +kernel
theorem dX5_takeUnits_44 : decode cX5_takeUnits 44 = .ok (.if_icmp .le 7, 3) := by decide +kernel
theorem dX5_takeUnits_47 : decode cX5_takeUnits 47 = .ok (.iconst 1, 1) := by decide +kernel
theorem dX5_takeUnits_48 : decode cX5_takeUnits 48 = .ok (.goto 4, 3) := by decide +kernel
theorem dX5_takeUnits_51 : decode cX5_takeUnits 51 = .ok (.iconst 0, 1) := by decide +kernel
theorem dX5_takeUnits_52 : decode cX5_takeUnits 52 = .ok (.iadd, 1) := by decide +kernel
theorem dX5_takeUnits_53 : decode cX5_takeUnits 53 = .ok (.putfield 41, 3) := by decide +kernel
theorem dX5_takeUnits_56 : decode cX5_takeUnits 56 = .ok (.aload_n 0, 1) := by decide +kernel
theorem dX5_takeUnits_57 : decode cX5_takeUnits 57 = .ok (.aload_n 0, 1) := by decide +kernel
theorem dX5_takeUnits_58 : decode cX5_takeUnits 58 = .ok (.getfield 44, 3) := by decide +kernel
theorem dX5_takeUnits_61 : decode cX5_takeUnits 61 = .ok (.aload_n 0, 1) := by decide +kernel
theorem dX5_takeUnits_62 : decode cX5_takeUnits 62 = .ok (.getfield 38, 3) := by decide +kernel
theorem dX5_takeUnits_65 : decode cX5_takeUnits 65 = .ok (.invokestatic 162, 3) := by decide +kernel
theorem dX5_takeUnits_68 : decode cX5_takeUnits 68 = .ok (.putfield 44, 3) := by decide +kernel
theorem dX5_takeUnits_71 : decode cX5_takeUnits 71 = .ok (.aload_n 0, 1) := by decide +kernel
theorem dX5_takeUnits_72 : decode cX5_takeUnits 72 = .ok (.iconst 0, 1) := by decide +kernel
theorem dX5_takeUnits_73 : decode cX5_takeUnits 73 = .ok (.putfield 38, 3) := by decide +kernel
theorem dX5_takeUnits_76 : decode cX5_takeUnits 76 = .ok (.return_, 1) := by decide +kernel
theorem dX5_minutesLeft_0 : decode cX5_minutesLeft 0 = .ok (.bipush 15, 2) := by decide +kernel
theorem dX5_minutesLeft_2 : decode cX5_minutesLeft 2 = .ok (.aload_n 0, 1) := by decide +kernel
theorem dX5_minutesLeft_3 : decode cX5_minutesLeft 3 = .ok (.getfield 34, 3) := by decide +kernel
theorem dX5_minutesLeft_6 : decode cX5_minutesLeft 6 = .ok (.aload_n 0, 1) := by decide +kernel
theorem dX5_minutesLeft_7 : decode cX5_minutesLeft 7 = .ok (.getfield 12, 3) := by decide +kernel
theorem dX5_minutesLeft_10 : decode cX5_minutesLeft 10 = .ok (.getfield 168, 3) := by decide +kernel
theorem dX5_minutesLeft_13 : decode cX5_minutesLeft 13 = .ok (.iadd, 1) := by decide +kernel
theorem dX5_minutesLeft_14 : decode cX5_minutesLeft 14 = .ok (.bipush 15, 2) := by decide +kernel
theorem dX5_minutesLeft_16 : decode cX5_minutesLeft 16 = .ok (.irem, 1) := by decide +kernel
theorem dX5_minutesLeft_17 : decode cX5_minutesLeft 17 = .ok (.isub, 1) := by decide +kernel
theorem dX5_minutesLeft_18 : decode cX5_minutesLeft 18 = .ok (.ireturn, 1) := by decide +kernel
theorem dX5_spareKilowatts_0 : decode cX5_spareKilowatts 0 = .ok (.aload_n 0, 1) := by decide +kernel
theorem dX5_spareKilowatts_1 : decode cX5_spareKilowatts 1 = .ok (.invokevirtual 66, 3) := by decide +kernel
theorem dX5_spareKilowatts_4 : decode cX5_spareKilowatts 4 = .ok (.istore_n 1, 1) := by decide +kernel
theorem dX5_spareKilowatts_5 : decode cX5_spareKilowatts 5 = .ok (.aload_n 0, 1) := by decide +kernel
theorem dX5_spareKilowatts_6 : decode cX5_spareKilowatts 6 = .ok (.getfield 12, 3) := by decide +kernel
theorem dX5_spareKilowatts_9 : decode cX5_spareKilowatts 9 = .ok (.getfield 159, 3) := by decide +kernel
theorem dX5_spareKilowatts_12 : decode cX5_spareKilowatts 12 = .ok (.aload_n 0, 1) := by decide +kernel
theorem dX5_spareKilowatts_13 : decode cX5_spareKilowatts 13 = .ok (.getfield 38, 3) := by decide +kernel
theorem dX5_spareKilowatts_16 : decode cX5_spareKilowatts 16 = .ok (.isub, 1) := by decide +kernel
theorem dX5_spareKilowatts_17 : decode cX5_spareKilowatts 17 = .ok (.istore_n 2, 1) := by decide +kernel
theorem dX5_spareKilowatts_18 : decode cX5_spareKilowatts 18 = .ok (.iload_n 2, 1) := by decide +kernel
theorem dX5_spareKilowatts_19 : decode cX5_spareKilowatts 19 = .ok (.ifCond .lt 8, 3) := by decide +kernel
theorem dX5_spareKilowatts_22 : decode cX5_spareKilowatts 22 = .ok (.iload_n 1, 1) := by decide +kernel
theorem dX5_spareKilowatts_23 : decode cX5_spareKilowatts 23 = .ok (.iconst 1, 1) := by decide +kernel
theorem dX5_spareKilowatts_24 : decode cX5_spareKilowatts 24 = .ok (.if_icmp .ge 5, 3) := by decide +kernel
theorem dX5_spareKilowatts_27 : decode cX5_spareKilowatts 27 = .ok (.iconst (-1), 1) := by decide +kernel
theorem dX5_spareKilowatts_28 : decode cX5_spareKilowatts 28 = .ok (.ireturn, 1) := by decide +kernel
theorem dX5_spareKilowatts_29 : decode cX5_spareKilowatts 29 = .ok (.iload_n 2, 1) := by decide +kernel
theorem dX5_spareKilowatts_30 : decode cX5_spareKilowatts 30 = .ok (.iload_n 1, 1) := by decide +kernel
theorem dX5_spareKilowatts_31 : decode cX5_spareKilowatts 31 = .ok (.idiv, 1) := by decide +kernel
theorem dX5_spareKilowatts_32 : decode cX5_spareKilowatts 32 = .ok (.aload_n 0, 1) := by decide +kernel
theorem dX5_spareKilowatts_33 : decode cX5_spareKilowatts 33 = .ok (.getfield 12, 3) := by decide +kernel
theorem dX5_spareKilowatts_36 : decode cX5_spareKilowatts 36 = .ok (.getfield 123, 3) := by decide +kernel
theorem dX5_spareKilowatts_39 : decode cX5_spareKilowatts 39 = .ok (.isub, 1) := by decide +kernel
theorem dX5_spareKilowatts_40 : decode cX5_spareKilowatts 40 = .ok (.istore_n 3, 1) := by decide +kernel
theorem dX5_spareKilowatts_41 : decode cX5_spareKilowatts 41 = .ok (.iload_n 3, 1) := by decide +kernel
theorem dX5_spareKilowatts_42 : decode cX5_spareKilowatts 42 = .ok (.ifCond .ge 7, 3) := by decide +kernel
theorem dX5_spareKilowatts_45 : decode cX5_spareKilowatts 45 = .ok (.iconst (-1), 1) := by decide +kernel
theorem dX5_spareKilowatts_46 : decode cX5_spareKilowatts 46 = .ok (.goto 10, 3) := by decide +kernel
theorem dX5_spareKilowatts_49 : decode cX5_spareKilowatts 49 = .ok (.iload_n 3, 1) := by decide +kernel
theorem dX5_spareKilowatts_50 : decode cX5_spareKilowatts 50 = .ok (.sipush 9999, 3) := by decide +kernel
theorem dX5_spareKilowatts_53 : decode cX5_spareKilowatts 53 = .ok (.invokestatic 171, 3) := by decide +kernel
theorem dX5_spareKilowatts_56 : decode cX5_spareKilowatts 56 = .ok (.ireturn, 1) := by decide +kernel
theorem dX5_planMinute_0 : decode cX5_planMinute 0 = .ok (.aload_n 0, 1) := by decide +kernel
theorem dX5_planMinute_1 : decode cX5_planMinute 1 = .ok (.invokevirtual 174, 3) := by decide +kernel
theorem dX5_planMinute_4 : decode cX5_planMinute 4 = .ok (.istore_n 1, 1) := by decide +kernel
theorem dX5_planMinute_5 : decode cX5_planMinute 5 = .ok (.aload_n 0, 1) := by decide +kernel
theorem dX5_planMinute_6 : decode cX5_planMinute 6 = .ok (.invokevirtual 177, 3) := by decide +kernel
theorem dX5_planMinute_9 : decode cX5_planMinute 9 = .ok (.istore_n 2, 1) := by decide +kernel
theorem dX5_planMinute_10 : decode cX5_planMinute 10 = .ok (.aload_n 0, 1) := by decide +kernel
theorem dX5_planMinute_11 : decode cX5_planMinute 11 = .ok (.iload_n 2, 1) := by decide +kernel
theorem dX5_planMinute_12 : decode cX5_planMinute 12 = .ok (.iload_n 1, 1) := by decide +kernel
theorem dX5_planMinute_13 : decode cX5_planMinute 13 = .ok (.invokevirtual 180, 3) := by decide +kernel
theorem dX5_planMinute_16 : decode cX5_planMinute 16 = .ok (.istore_n 2, 1) := by decide +kernel
theorem dX5_planMinute_17 : decode cX5_planMinute 17 = .ok (.aload_n 0, 1) := by decide +kernel
theorem dX5_planMinute_18 : decode cX5_planMinute 18 = .ok (.iload_n 2, 1) := by decide +kernel
theorem dX5_planMinute_19 : decode cX5_planMinute 19 = .ok (.iload_n 1, 1) := by decide +kernel
theorem dX5_planMinute_20 : decode cX5_planMinute 20 = .ok (.invokevirtual 183, 3) := by decide +kernel
theorem dX5_planMinute_23 : decode cX5_planMinute 23 = .ok (.ireturn, 1) := by decide +kernel
theorem dX5_planMusts_0 : decode cX5_planMusts 0 = .ok (.iconst 0, 1) := by decide +kernel
theorem dX5_planMusts_1 : decode cX5_planMusts 1 = .ok (.istore_n 1, 1) := by decide +kernel
theorem dX5_planMusts_2 : decode cX5_planMusts 2 = .ok (.aload_n 0, 1) := by decide +kernel
theorem dX5_planMusts_3 : decode cX5_planMusts 3 = .ok (.getfield 20, 3) := by decide +kernel
theorem dX5_planMusts_6 : decode cX5_planMusts 6 = .ok (.astore_n 2, 1) := by decide +kernel
theorem dX5_planMusts_7 : decode cX5_planMusts 7 = .ok (.aload_n 2, 1) := by decide +kernel
theorem dX5_planMusts_8 : decode cX5_planMusts 8 = .ok (.arraylength, 1) := by decide +kernel
theorem dX5_planMusts_9 : decode cX5_planMusts 9 = .ok (.istore_n 3, 1) := by decide +kernel
theorem dX5_planMusts_10 : decode cX5_planMusts 10 = .ok (.iconst 0, 1) := by decide +kernel
theorem dX5_planMusts_11 : decode cX5_planMusts 11 = .ok (.istore 4, 2) := by decide +kernel
theorem dX5_planMusts_13 : decode cX5_planMusts 13 = .ok (.iload 4, 2) := by decide +kernel
theorem dX5_planMusts_15 : decode cX5_planMusts 15 = .ok (.iload_n 3, 1) := by decide +kernel
theorem dX5_planMusts_16 : decode cX5_planMusts 16 = .ok (.if_icmp .ge 62, 3) := by decide +kernel
theorem dX5_planMusts_19 : decode cX5_planMusts 19 = .ok (.aload_n 2, 1) := by decide +kernel
theorem dX5_planMusts_20 : decode cX5_planMusts 20 = .ok (.iload 4, 2) := by decide +kernel
theorem dX5_planMusts_22 : decode cX5_planMusts 22 = .ok (.aaload, 1) := by decide +kernel
theorem dX5_planMusts_23 : decode cX5_planMusts 23 = .ok (.astore 5, 2) := by decide +kernel
theorem dX5_planMusts_25 : decode cX5_planMusts 25 = .ok (.aload 5, 2) := by decide +kernel
theorem dX5_planMusts_27 : decode cX5_planMusts 27 = .ok (.aload 5, 2) := by decide +kernel
theorem dX5_planMusts_29 : decode cX5_planMusts 29 = .ok (.invokevirtual 186, 3) := by decide +kernel
theorem dX5_planMusts_32 : decode cX5_planMusts 32 = .ok (.putfield 141, 3) := by decide +kernel
theorem dX5_planMusts_35 : decode cX5_planMusts 35 = .ok (.aload 5, 2) := by decide +kernel
theorem dX5_planMusts_37 : decode cX5_planMusts 37 = .ok (.invokevirtual 189, 3) := by decide +kernel
theorem dX5_planMusts_40 : decode cX5_planMusts 40 = .ok (.ifCond .eq 16, 3) := by decide +kernel
theorem dX5_planMusts_43 : decode cX5_planMusts 43 = .ok (.iload_n 1, 1) := by decide +kernel
theorem dX5_planMusts_44 : decode cX5_planMusts 44 = .ok (.aload_n 0, 1) := by decide +kernel
theorem dX5_planMusts_45 : decode cX5_planMusts 45 = .ok (.getfield 12, 3) := by decide +kernel
theorem dX5_planMusts_48 : decode cX5_planMusts 48 = .ok (.getfield 192, 3) := by decide +kernel
theorem dX5_planMusts_51 : decode cX5_planMusts 51 = .ok (.iadd, 1) := by decide +kernel
theorem dX5_planMusts_52 : decode cX5_planMusts 52 = .ok (.istore_n 1, 1) := by decide +kernel
theorem dX5_planMusts_53 : decode cX5_planMusts 53 = .ok (.goto 19, 3) := by decide +kernel
theorem dX5_planMusts_56 : decode cX5_planMusts 56 = .ok (.aload 5, 2) := by decide +kernel
theorem dX5_planMusts_58 : decode cX5_planMusts 58 = .ok (.invokevirtual 153, 3) := by decide +kernel
theorem dX5_planMusts_61 : decode cX5_planMusts 61 = .ok (.ifCond .eq 11, 3) := by decide +kernel
theorem dX5_planMusts_64 : decode cX5_planMusts 64 = .ok (.iload_n 1, 1) := by decide +kernel
theorem dX5_planMusts_65 : decode cX5_planMusts 65 = .ok (.aload 5, 2) := by decide +kernel
theorem dX5_planMusts_67 : decode cX5_planMusts 67 = .ok (.getfield 195, 3) := by decide +kernel
theorem dX5_planMusts_70 : decode cX5_planMusts 70 = .ok (.iadd, 1) := by decide +kernel
theorem dX5_planMusts_71 : decode cX5_planMusts 71 = .ok (.istore_n 1, 1) := by decide +kernel
theorem dX5_planMusts_72 : decode cX5_planMusts 72 = .ok (.iinc 4 1, 3) := by decide +kernel
theorem dX5_planMusts_75 : decode cX5_planMusts 75 = .ok (.goto (-62), 3) := by decide +kernel
theorem dX5_planMusts_78 : decode cX5_planMusts 78 = .ok (.iload_n 1, 1) := by decide +kernel
theorem dX5_planMusts_79 : decode cX5_planMusts 79 = .ok (.ireturn, 1) := by decide +kernel
theorem dX5_planCompressors_0 : decode cX5_planCompressors 0 = .ok (.iload_n 1, 1) := by decide +kernel
theorem dX5_planCompressors_1 : decode cX5_planCompressors 1 = .ok (.istore_n 3, 1) := by decide +kernel
theorem dX5_planCompressors_2 : decode cX5_planCompressors 2 = .ok (.iconst 0, 1) := by decide +kernel
theorem dX5_planCompressors_3 : decode cX5_planCompressors 3 = .ok (.istore 4, 2) := by decide +kernel
theorem dX5_planCompressors_5 : decode cX5_planCompressors 5 = .ok (.iload 4, 2) := by decide +kernel
theorem dX5_planCompressors_7 : decode cX5_planCompressors 7 = .ok (.bipush 6, 2) := by decide +kernel
theorem dX5_planCompressors_9 : decode cX5_planCompressors 9 = .ok (.if_icmp .ge 57, 3) := by decide +kernel
theorem dX5_planCompressors_12 : decode cX5_planCompressors 12 = .ok (.aload_n 0, 1) := by decide +kernel
theorem dX5_planCompressors_13 : decode cX5_planCompressors 13 = .ok (.invokevirtual 198, 3) := by decide +kernel
theorem dX5_planCompressors_16 : decode cX5_planCompressors 16 = .ok (.astore 5, 2) := by decide +kernel
theorem dX5_planCompressors_18 : decode cX5_planCompressors 18 = .ok (.aload 5, 2) := by decide +kernel
theorem dX5_planCompressors_20 : decode cX5_planCompressors 20 = .ok (.ifnonnull 6, 3) := by decide +kernel
theorem dX5_planCompressors_23 : decode cX5_planCompressors 23 = .ok (.goto 43, 3) := by decide +kernel
theorem dX5_planCompressors_26 : decode cX5_planCompressors 26 = .ok (.iload_n 3, 1) := by decide +kernel
theorem dX5_planCompressors_27 : decode cX5_planCompressors 27 = .ok (.aload 5, 2) := by decide +kernel
theorem dX5_planCompressors_29 : decode cX5_planCompressors 29 = .ok (.getfield 195, 3) := by decide +kernel
theorem dX5_planCompressors_32 : decode cX5_planCompressors 32 = .ok (.iadd, 1) := by decide +kernel
theorem dX5_planCompressors_33 : decode cX5_planCompressors 33 = .ok (.iload_n 2, 1) := by decide +kernel
theorem dX5_planCompressors_34 : decode cX5_planCompressors 34 = .ok (.if_icmp .gt 20, 3) := by decide +kernel
theorem dX5_planCompressors_37 : decode cX5_planCompressors 37 = .ok (.aload 5, 2) := by decide +kernel
theorem dX5_planCompressors_39 : decode cX5_planCompressors 39 = .ok (.iconst 3, 1) := by decide +kernel
theorem dX5_planCompressors_40 : decode cX5_planCompressors 40 = .ok (.putfield 141, 3) := by decide +kernel
theorem dX5_planCompressors_43 : decode cX5_planCompressors 43 = .ok (.iload_n 3, 1) := by decide +kernel
theorem dX5_planCompressors_44 : decode cX5_planCompressors 44 = .ok (.aload 5, 2) := by decide +kernel
theorem dX5_planCompressors_46 : decode cX5_planCompressors 46 = .ok (.getfield 195, 3) := by decide +kernel
theorem dX5_planCompressors_49 : decode cX5_planCompressors 49 = .ok (.iadd, 1) := by decide +kernel
theorem dX5_planCompressors_50 : decode cX5_planCompressors 50 = .ok (.istore_n 3, 1) := by decide +kernel
theorem dX5_planCompressors_51 : decode cX5_planCompressors 51 = .ok (.goto 9, 3) := by decide +kernel
theorem dX5_planCompressors_54 : decode cX5_planCompressors 54 = .ok (.aload 5, 2) := by decide +kernel
theorem dX5_planCompressors_56 : decode cX5_planCompressors 56 = .ok (.iconst 4, 1) := by decide +kernel
theorem dX5_planCompressors_57 : decode cX5_planCompressors 57 = .ok (.putfield 141, 3) := by decide +kernel
theorem dX5_planCompressors_60 : decode cX5_planCompressors 60 = .ok (.iinc 4 1, 3) := by decide +kernel
theorem dX5_planCompressors_63 : decode cX5_planCompressors 63 = .ok (.goto (-58), 3) := by decide +kernel
theorem dX5_planCompressors_66 : decode cX5_planCompressors 66 = .ok (.iload_n 3, 1) := by decide +kernel
theorem dX5_planCompressors_67 : decode cX5_planCompressors 67 = .ok (.ireturn, 1) := by decide +kernel
theorem dX5_planDefrosts_0 : decode cX5_planDefrosts 0 = .ok (.iload_n 1, 1) := by decide +kernel
theorem dX5_planDefrosts_1 : decode cX5_planDefrosts 1 = .ok (.istore_n 3, 1) := by decide +kernel
theorem dX5_planDefrosts_2 : decode cX5_planDefrosts 2 = .ok (.iconst 0, 1) := by decide +kernel
theorem dX5_planDefrosts_3 : decode cX5_planDefrosts 3 = .ok (.istore 4, 2) := by decide +kernel
theorem dX5_planDefrosts_5 : decode cX5_planDefrosts 5 = .ok (.iload 4, 2) := by decide +kernel
theorem dX5_planDefrosts_7 : decode cX5_planDefrosts 7 = .ok (.bipush 6, 2) := by decide +kernel
theorem dX5_planDefrosts_9 : decode cX5_planDefrosts 9 = .ok (.if_icmp .ge 62, 3) := by decide +kernel
theorem dX5_planDefrosts_12 : decode cX5_planDefrosts 12 = .ok (.aload_n 0, 1) := by decide +kernel
theorem dX5_planDefrosts_13 : decode cX5_planDefrosts 13 = .ok (.invokevirtual 201, 3) := by decide +kernel
theorem dX5_planDefrosts_16 : decode cX5_planDefrosts 16 = .ok (.astore 5, 2) := by decide +kernel
theorem dX5_planDefrosts_18 : decode cX5_planDefrosts 18 = .ok (.aload 5, 2) := by decide +kernel
theorem dX5_planDefrosts_20 : decode cX5_planDefrosts 20 = .ok (.ifnonnull 6, 3) := by decide +kernel
theorem dX5_planDefrosts_23 : decode cX5_planDefrosts 23 = .ok (.goto 48, 3) := by decide +kernel
theorem dX5_planDefrosts_26 : decode cX5_planDefrosts 26 = .ok (.iload_n 3, 1) := by decide +kernel
theorem dX5_planDefrosts_27 : decode cX5_planDefrosts 27 = .ok (.aload_n 0, 1) := by decide +kernel
theorem dX5_planDefrosts_28 : decode cX5_planDefrosts 28 = .ok (.getfield 12, 3) := by decide +kernel
theorem dX5_planDefrosts_31 : decode cX5_planDefrosts 31 = .ok (.getfield 192, 3) := by decide +kernel
theorem dX5_planDefrosts_34 : decode cX5_planDefrosts 34 = .ok (.iadd, 1) := by decide +kernel
theorem dX5_planDefrosts_35 : decode cX5_planDefrosts 35 = .ok (.iload_n 2, 1) := by decide +kernel
theorem dX5_planDefrosts_36 : decode cX5_planDefrosts 36 = .ok (.if_icmp .gt 22, 3) := by decide +kernel
theorem dX5_planDefrosts_39 : decode cX5_planDefrosts 39 = .ok (.aload 5, 2) := by decide +kernel
theorem dX5_planDefrosts_41 : decode cX5_planDefrosts 41 = .ok (.iconst 5, 1) := by decide +kernel
theorem dX5_planDefrosts_42 : decode cX5_planDefrosts 42 = .ok (.putfield 141, 3) := by decide +kernel
theorem dX5_planDefrosts_45 : decode cX5_planDefrosts 45 = .ok (.iload_n 3, 1) := by decide +kernel
theorem dX5_planDefrosts_46 : decode cX5_planDefrosts 46 = .ok (.aload_n 0, 1) := by decide +kernel
theorem dX5_planDefrosts_47 : decode cX5_planDefrosts 47 = .ok (.getfield 12, 3) := by decide +kernel
theorem dX5_planDefrosts_50 : decode cX5_planDefrosts 50 = .ok (.getfield 192, 3) := by decide +kernel
theorem dX5_planDefrosts_53 : decode cX5_planDefrosts 53 = .ok (.iadd, 1) := by decide +kernel
theorem dX5_planDefrosts_54 : decode cX5_planDefrosts 54 = .ok (.istore_n 3, 1) := by decide +kernel
theorem dX5_planDefrosts_55 : decode cX5_planDefrosts 55 = .ok (.goto 10, 3) := by decide +kernel
theorem dX5_planDefrosts_58 : decode cX5_planDefrosts 58 = .ok (.aload 5, 2) := by decide +kernel
theorem dX5_planDefrosts_60 : decode cX5_planDefrosts 60 = .ok (.bipush 6, 2) := by decide +kernel
theorem dX5_planDefrosts_62 : decode cX5_planDefrosts 62 = .ok (.putfield 141, 3) := by decide +kernel
theorem dX5_planDefrosts_65 : decode cX5_planDefrosts 65 = .ok (.iinc 4 1, 3) := by decide +kernel
theorem dX5_planDefrosts_68 : decode cX5_planDefrosts 68 = .ok (.goto (-63), 3) := by decide +kernel
theorem dX5_planDefrosts_71 : decode cX5_planDefrosts 71 = .ok (.iload_n 3, 1) := by decide +kernel
theorem dX5_planDefrosts_72 : decode cX5_planDefrosts 72 = .ok (.ireturn, 1) := by decide +kernel
theorem dX5_nextToCool_0 : decode cX5_nextToCool 0 = .ok (.aconst_null, 1) := by decide +kernel
theorem dX5_nextToCool_1 : decode cX5_nextToCool 1 = .ok (.astore_n 1, 1) := by decide +kernel
theorem dX5_nextToCool_2 : decode cX5_nextToCool 2 = .ok (.iconst 0, 1) := by decide +kernel
theorem dX5_nextToCool_3 : decode cX5_nextToCool 3 = .ok (.istore_n 2, 1) := by decide +kernel
theorem dX5_nextToCool_4 : decode cX5_nextToCool 4 = .ok (.aload_n 0, 1) := by decide +kernel
theorem dX5_nextToCool_5 : decode cX5_nextToCool 5 = .ok (.getfield 20, 3) := by decide +kernel
theorem dX5_nextToCool_8 : decode cX5_nextToCool 8 = .ok (.astore_n 3, 1) := by decide +kernel
theorem dX5_nextToCool_9 : decode cX5_nextToCool 9 = .ok (.aload_n 3, 1) := by decide +kernel
theorem dX5_nextToCool_10 : decode cX5_nextToCool 10 = .ok (.arraylength, 1) := by decide +kernel
theorem dX5_nextToCool_11 : decode cX5_nextToCool 11 = .ok (.istore 4, 2) := by decide +kernel
theorem dX5_nextToCool_13 : decode cX5_nextToCool 13 = .ok (.iconst 0, 1) := by decide +kernel
theorem dX5_nextToCool_14 : decode cX5_nextToCool 14 = .ok (.istore 5, 2) := by decide +kernel
theorem dX5_nextToCool_16 : decode cX5_nextToCool 16 = .ok (.iload 5, 2) := by decide +kernel
theorem dX5_nextToCool_18 : decode cX5_nextToCool 18 = .ok (.iload 4, 2) := by decide +kernel
theorem dX5_nextToCool_20 : decode cX5_nextToCool 20 = .ok (.if_icmp .ge 50, 3) := by decide +kernel
theorem dX5_nextToCool_23 : decode cX5_nextToCool 23 = .ok (.aload_n 3, 1) := by decide +kernel
theorem dX5_nextToCool_24 : decode cX5_nextToCool 24 = .ok (.iload 5, 2) := by decide +kernel
theorem dX5_nextToCool_26 : decode cX5_nextToCool 26 = .ok (.aaload, 1) := by decide +kernel
theorem dX5_nextToCool_27 : decode cX5_nextToCool 27 = .ok (.astore 6, 2) := by decide +kernel
theorem dX5_nextToCool_29 : decode cX5_nextToCool 29 = .ok (.aload 6, 2) := by decide +kernel
theorem dX5_nextToCool_31 : decode cX5_nextToCool 31 = .ok (.getfield 103, 3) := by decide +kernel
theorem dX5_nextToCool_34 : decode cX5_nextToCool 34 = .ok (.aload 6, 2) := by decide +kernel
theorem dX5_nextToCool_36 : decode cX5_nextToCool 36 = .ok (.getfield 204, 3) := by decide +kernel
theorem dX5_nextToCool_39 : decode cX5_nextToCool 39 = .ok (.isub, 1) := by decide +kernel
theorem dX5_nextToCool_40 : decode cX5_nextToCool 40 = .ok (.istore 7, 2) := by decide +kernel
theorem dX5_nextToCool_42 : decode cX5_nextToCool 42 = .ok (.aload 6, 2) := by decide +kernel
theorem dX5_nextToCool_44 : decode cX5_nextToCool 44 = .ok (.getfield 141, 3) := by decide +kernel
theorem dX5_nextToCool_47 : decode cX5_nextToCool 47 = .ok (.bipush 7, 2) := by decide +kernel
theorem dX5_nextToCool_49 : decode cX5_nextToCool 49 = .ok (.if_icmp .ne 15, 3) := by decide +kernel
theorem dX5_nextToCool_52 : decode cX5_nextToCool 52 = .ok (.iload 7, 2) := by decide +kernel
theorem dX5_nextToCool_54 : decode cX5_nextToCool 54 = .ok (.iload_n 2, 1) := by decide +kernel
theorem dX5_nextToCool_55 : decode cX5_nextToCool 55 = .ok (.if_icmp .le 9, 3) := by decide +kernel
theorem dX5_nextToCool_58 : decode cX5_nextToCool 58 = .ok (.aload 6, 2) := by decide +kernel
theorem dX5_nextToCool_60 : decode cX5_nextToCool 60 = .ok (.astore_n 1, 1) := by decide +kernel
theorem dX5_nextToCool_61 : decode cX5_nextToCool 61 = .ok (.iload 7, 2) := by decide +kernel
theorem dX5_nextToCool_63 : decode cX5_nextToCool 63 = .ok (.istore_n 2, 1) := by decide +kernel
theorem dX5_nextToCool_64 : decode cX5_nextToCool 64 = .ok (.iinc 5 1, 3) := by decide +kernel
theorem dX5_nextToCool_67 : decode cX5_nextToCool 67 = .ok (.goto (-51), 3) := by decide +kernel
theorem dX5_nextToCool_70 : decode cX5_nextToCool 70 = .ok (.aload_n 1, 1) := by decide +kernel
theorem dX5_nextToCool_71 : decode cX5_nextToCool 71 = .ok (.areturn, 1) := by decide +kernel
theorem dX5_nextToDefrost_0 : decode cX5_nextToDefrost 0 = .ok (.aconst_null, 1) := by decide +kernel
theorem dX5_nextToDefrost_1 : decode cX5_nextToDefrost 1 = .ok (.astore_n 1, 1) := by decide +kernel
theorem dX5_nextToDefrost_2 : decode cX5_nextToDefrost 2 = .ok (.aload_n 0, 1) := by decide +kernel
theorem dX5_nextToDefrost_3 : decode cX5_nextToDefrost 3 = .ok (.getfield 12, 3) := by decide +kernel
theorem dX5_nextToDefrost_6 : decode cX5_nextToDefrost 6 = .ok (.getfield 207, 3) := by decide +kernel
theorem dX5_nextToDefrost_9 : decode cX5_nextToDefrost 9 = .ok (.iconst 1, 1) := by decide +kernel
theorem dX5_nextToDefrost_10 : decode cX5_nextToDefrost 10 = .ok (.isub, 1) := by decide +kernel
theorem dX5_nextToDefrost_11 : decode cX5_nextToDefrost 11 = .ok (.istore_n 2, 1) := by decide +kernel
theorem dX5_nextToDefrost_12 : decode cX5_nextToDefrost 12 = .ok (.aload_n 0, 1) := by decide +kernel
theorem dX5_nextToDefrost_13 : decode cX5_nextToDefrost 13 = .ok (.getfield 20, 3) := by decide +kernel
theorem dX5_nextToDefrost_16 : decode cX5_nextToDefrost 16 = .ok (.astore_n 3, 1) := by decide +kernel
theorem dX5_nextToDefrost_17 : decode cX5_nextToDefrost 17 = .ok (.aload_n 3, 1) := by decide +kernel
theorem dX5_nextToDefrost_18 : decode cX5_nextToDefrost 18 = .ok (.arraylength, 1) := by decide +kernel
theorem dX5_nextToDefrost_19 : decode cX5_nextToDefrost 19 = .ok (.istore 4, 2) := by decide +kernel
theorem dX5_nextToDefrost_21 : decode cX5_nextToDefrost 21 = .ok (.iconst 0, 1) := by decide +kernel
theorem dX5_nextToDefrost_22 : decode cX5_nextToDefrost 22 = .ok (.istore 5, 2) := by decide +kernel
theorem dX5_nextToDefrost_24 : decode cX5_nextToDefrost 24 = .ok (.iload 5, 2) := by decide +kernel
theorem dX5_nextToDefrost_26 : decode cX5_nextToDefrost 26 = .ok (.iload 4, 2) := by decide +kernel
theorem dX5_nextToDefrost_28 : decode cX5_nextToDefrost 28 = .ok (.if_icmp .ge 43, 3) := by decide +kernel
theorem dX5_nextToDefrost_31 : decode cX5_nextToDefrost 31 = .ok (.aload_n 3, 1) := by decide +kernel
theorem dX5_nextToDefrost_32 : decode cX5_nextToDefrost 32 = .ok (.iload 5, 2) := by decide +kernel
theorem dX5_nextToDefrost_34 : decode cX5_nextToDefrost 34 = .ok (.aaload, 1) := by decide +kernel
theorem dX5_nextToDefrost_35 : decode cX5_nextToDefrost 35 = .ok (.astore 6, 2) := by decide +kernel
theorem dX5_nextToDefrost_37 : decode cX5_nextToDefrost 37 = .ok (.aload 6, 2) := by decide +kernel
theorem dX5_nextToDefrost_39 : decode cX5_nextToDefrost 39 = .ok (.getfield 141, 3) := by decide +kernel
theorem dX5_nextToDefrost_42 : decode cX5_nextToDefrost 42 = .ok (.bipush 7, 2) := by decide +kernel
theorem dX5_nextToDefrost_44 : decode cX5_nextToDefrost 44 = .ok (.if_icmp .ne 21, 3) := by decide +kernel
theorem dX5_nextToDefrost_47 : decode cX5_nextToDefrost 47 = .ok (.aload 6, 2) := by decide +kernel
theorem dX5_nextToDefrost_49 : decode cX5_nextToDefrost 49 = .ok (.getfield 210, 3) := by decide +kernel
theorem dX5_nextToDefrost_52 : decode cX5_nextToDefrost 52 = .ok (.iload_n 2, 1) := by decide +kernel
theorem dX5_nextToDefrost_53 : decode cX5_nextToDefrost 53 = .ok (.if_icmp .le 12, 3) := by decide +kernel
theorem dX5_nextToDefrost_56 : decode cX5_nextToDefrost 56 = .ok (.aload 6, 2) := by decide +kernel
theorem dX5_nextToDefrost_58 : decode cX5_nextToDefrost 58 = .ok (.astore_n 1, 1) := by decide +kernel
theorem dX5_nextToDefrost_59 : decode cX5_nextToDefrost 59 = .ok (.aload 6, 2) := by decide +kernel
theorem dX5_nextToDefrost_61 : decode cX5_nextToDefrost 61 = .ok (.getfield 210, 3) := by decide +kernel
theorem dX5_nextToDefrost_64 : decode cX5_nextToDefrost 64 = .ok (.istore_n 2, 1) := by decide +kernel
theorem dX5_nextToDefrost_65 : decode cX5_nextToDefrost 65 = .ok (.iinc 5 1, 3) := by decide +kernel
theorem dX5_nextToDefrost_68 : decode cX5_nextToDefrost 68 = .ok (.goto (-44), 3) := by decide +kernel
theorem dX5_nextToDefrost_71 : decode cX5_nextToDefrost 71 = .ok (.aload_n 1, 1) := by decide +kernel
theorem dX5_nextToDefrost_72 : decode cX5_nextToDefrost 72 = .ok (.areturn, 1) := by decide +kernel
theorem dX6_init_0 : decode cX6_init 0 = .ok (.aload_n 0, 1) := by decide +kernel
theorem dX6_init_1 : decode cX6_init 1 = .ok (.invokespecial 3, 3) := by decide +kernel
theorem dX6_init_4 : decode cX6_init 4 = .ok (.aload_n 0, 1) := by decide +kernel
theorem dX6_init_5 : decode cX6_init 5 = .ok (.bipush 120, 2) := by decide +kernel
theorem dX6_init_7 : decode cX6_init 7 = .ok (.newarray .char, 2) := by decide +kernel
theorem dX6_init_9 : decode cX6_init 9 = .ok (.putfield 9, 3) := by decide +kernel
theorem dX6_init_12 : decode cX6_init 12 = .ok (.return_, 1) := by decide +kernel
theorem dX6_isFull_0 : decode cX6_isFull 0 = .ok (.aload_n 0, 1) := by decide +kernel
theorem dX6_isFull_1 : decode cX6_isFull 1 = .ok (.getfield 15, 3) := by decide +kernel
theorem dX6_isFull_4 : decode cX6_isFull 4 = .ok (.aload_n 0, 1) := by decide +kernel
theorem dX6_isFull_5 : decode cX6_isFull 5 = .ok (.getfield 9, 3) := by decide +kernel
theorem dX6_isFull_8 : decode cX6_isFull 8 = .ok (.arraylength, 1) := by decide +kernel
theorem dX6_isFull_9 : decode cX6_isFull 9 = .ok (.if_icmp .lt 7, 3) := by decide +kernel
theorem dX6_isFull_12 : decode cX6_isFull 12 = .ok (.iconst 1, 1) := by decide +kernel
theorem dX6_isFull_13 : decode cX6_isFull 13 = .ok (.goto 4, 3) := by decide +kernel
theorem dX6_isFull_16 : decode cX6_isFull 16 = .ok (.iconst 0, 1) := by decide +kernel
theorem dX6_isFull_17 : decode cX6_isFull 17 = .ok (.ireturn, 1) := by decide +kernel
theorem dX6_lengthen_0 : decode cX6_lengthen 0 = .ok (.aload_n 0, 1) := by decide +kernel
theorem dX6_lengthen_1 : decode cX6_lengthen 1 = .ok (.getfield 15, 3) := by decide +kernel
theorem dX6_lengthen_4 : decode cX6_lengthen 4 = .ok (.ifCond .lt 36, 3) := by decide +kernel
theorem dX6_lengthen_7 : decode cX6_lengthen 7 = .ok (.aload_n 0, 1) := by decide +kernel
theorem dX6_lengthen_8 : decode cX6_lengthen 8 = .ok (.getfield 15, 3) := by decide +kernel
theorem dX6_lengthen_11 : decode cX6_lengthen 11 = .ok (.aload_n 0, 1) := by decide +kernel
theorem dX6_lengthen_12 : decode cX6_lengthen 12 = .ok (.getfield 9, 3) := by decide +kernel
theorem dX6_lengthen_15 : decode cX6_lengthen 15 = .ok (.arraylength, 1) := by decide +kernel
theorem dX6_lengthen_16 : decode cX6_lengthen 16 = .ok (.if_icmp .ge 24, 3) := by decide +kernel
theorem dX6_lengthen_19 : decode cX6_lengthen 19 = .ok (.aload_n 0, 1) := by decide +kernel
theorem dX6_lengthen_20 : decode cX6_lengthen 20 = .ok (.getfield 9, 3) := by decide +kernel
theorem dX6_lengthen_23 : decode cX6_lengthen 23 = .ok (.aload_n 0, 1) := by decide +kernel
theorem dX6_lengthen_24 : decode cX6_lengthen 24 = .ok (.getfield 15, 3) := by decide +kernel
theorem dX6_lengthen_27 : decode cX6_lengthen 27 = .ok (.iload_n 1, 1) := by decide +kernel
theorem dX6_lengthen_28 : decode cX6_lengthen 28 = .ok (.i2c, 1) := by decide +kernel
theorem dX6_lengthen_29 : decode cX6_lengthen 29 = .ok (.castore, 1) := by decide +kernel
theorem dX6_lengthen_30 : decode cX6_lengthen 30 = .ok (.aload_n 0, 1) := by decide +kernel
theorem dX6_lengthen_31 : decode cX6_lengthen 31 = .ok (.dup, 1) := by decide +kernel
theorem dX6_lengthen_32 : decode cX6_lengthen 32 = .ok (.getfield 15, 3) := by decide +kernel
theorem dX6_lengthen_35 : decode cX6_lengthen 35 = .ok (.iconst 1, 1) := by decide +kernel
theorem dX6_lengthen_36 : decode cX6_lengthen 36 = .ok (.iadd, 1) := by decide +kernel
theorem dX6_lengthen_37 : decode cX6_lengthen 37 = .ok (.putfield 15, 3) := by decide +kernel
theorem dX6_lengthen_40 : decode cX6_lengthen 40 = .ok (.aload_n 0, 1) := by decide +kernel
theorem dX6_lengthen_41 : decode cX6_lengthen 41 = .ok (.getfield 15, 3) := by decide +kernel
theorem dX6_lengthen_44 : decode cX6_lengthen 44 = .ok (.ireturn, 1) := by decide +kernel
theorem dX6_signAt_0 : decode cX6_signAt 0 = .ok (.iload_n 1, 1) := by decide +kernel
theorem dX6_signAt_1 : decode cX6_signAt 1 = .ok (.ifCond .lt 27, 3) := by decide +kernel
theorem dX6_signAt_4 : decode cX6_signAt 4 = .ok (.iload_n 1, 1) := by decide +kernel
theorem dX6_signAt_5 : decode cX6_signAt 5 = .ok (.aload_n 0, 1) := by decide +kernel
theorem dX6_signAt_6 : decode cX6_signAt 6 = .ok (.getfield 15, 3) := by decide +kernel
theorem dX6_signAt_9 : decode cX6_signAt 9 = .ok (.if_icmp .ge 19, 3) := by decide +kernel
theorem dX6_signAt_12 : decode cX6_signAt 12 = .ok (.iload_n 1, 1) := by decide +kernel
theorem dX6_signAt_13 : decode cX6_signAt 13 = .ok (.aload_n 0, 1) := by decide +kernel
theorem dX6_signAt_14 : decode cX6_signAt 14 = .ok (.getfield 9, 3) := by decide +kernel
theorem dX6_signAt_17 : decode cX6_signAt 17 = .ok (.arraylength, 1) := by decide +kernel
theorem dX6_signAt_18 : decode cX6_signAt 18 = .ok (.if_icmp .ge 10, 3) := by decide +kernel
theorem dX6_signAt_21 : decode cX6_signAt 21 = .ok (.aload_n 0, 1) := by decide +kernel
theorem dX6_signAt_22 : decode cX6_signAt 22 = .ok (.getfield 9, 3) := by decide +kernel
theorem dX6_signAt_25 : decode cX6_signAt 25 = .ok (.iload_n 1, 1) := by decide +kernel
theorem dX6_signAt_26 : decode cX6_signAt 26 = .ok (.caload, 1) := by decide +kernel
theorem dX6_signAt_27 : decode cX6_signAt 27 = .ok (.ireturn, 1) := by decide +kernel
theorem dX6_signAt_28 : decode cX6_signAt 28 = .ok (.iconst (-1), 1) := by decide +kernel
theorem dX6_signAt_29 : decode cX6_signAt 29 = .ok (.ireturn, 1) := by decide +kernel
theorem dX7_init_0 : decode cX7_init 0 = .ok (.aload_n 0, 1) := by decide +kernel
theorem dX7_init_1 : decode cX7_init 1 = .ok (.invokespecial 1, 3) := by decide +kernel
theorem dX7_init_4 : decode cX7_init 4 = .ok (.aload_n 0, 1) := by decide +kernel
theorem dX7_init_5 : decode cX7_init 5 = .ok (.new 7, 3) := by decide +kernel
theorem dX7_init_8 : decode cX7_init 8 = .ok (.dup, 1) := by decide +kernel
theorem dX7_init_9 : decode cX7_init 9 = .ok (.invokespecial 9, 3) := by decide +kernel
theorem dX7_init_12 : decode cX7_init 12 = .ok (.putfield 10, 3) := by decide +kernel
theorem dX7_init_15 : decode cX7_init 15 = .ok (.aload_n 0, 1) := by decide +kernel
theorem dX7_init_16 : decode cX7_init 16 = .ok (.new 16, 3) := by decide +kernel
theorem dX7_init_19 : decode cX7_init 19 = .ok (.dup, 1) := by decide +kernel
theorem dX7_init_20 : decode cX7_init 20 = .ok (.invokespecial 18, 3) := by decide +kernel
theorem dX7_init_23 : decode cX7_init 23 = .ok (.putfield 19, 3) := by decide +kernel
theorem dX7_init_26 : decode cX7_init 26 = .ok (.aload_n 0, 1) := by decide +kernel
theorem dX7_init_27 : decode cX7_init 27 = .ok (.new 16, 3) := by decide +kernel
theorem dX7_init_30 : decode cX7_init 30 = .ok (.dup, 1) := by decide +kernel
theorem dX7_init_31 : decode cX7_init 31 = .ok (.invokespecial 18, 3) := by decide +kernel
theorem dX7_init_34 : decode cX7_init 34 = .ok (.putfield 23, 3) := by decide +kernel
theorem dX7_init_37 : decode cX7_init 37 = .ok (.aload_n 0, 1) := by decide +kernel
theorem dX7_init_38 : decode cX7_init 38 = .ok (.new 16, 3) := by decide +kernel
theorem dX7_init_41 : decode cX7_init 41 = .ok (.dup, 1) := by decide +kernel
theorem dX7_init_42 : decode cX7_init 42 = .ok (.invokespecial 18, 3) := by decide +kernel
theorem dX7_init_45 : decode cX7_init 45 = .ok (.putfield 26, 3) := by decide +kernel
theorem dX7_init_48 : decode cX7_init 48 = .ok (.aload_n 0, 1) := by decide +kernel
theorem dX7_init_49 : decode cX7_init 49 = .ok (.new 29, 3) := by decide +kernel
theorem dX7_init_52 : decode cX7_init 52 = .ok (.dup, 1) := by decide +kernel
theorem dX7_init_53 : decode cX7_init 53 = .ok (.invokespecial 31, 3) := by decide +kernel
theorem dX7_init_56 : decode cX7_init 56 = .ok (.putfield 32, 3) := by decide +kernel
theorem dX7_init_59 : decode cX7_init 59 = .ok (.aload_n 0, 1) := by decide +kernel
theorem dX7_init_60 : decode cX7_init 60 = .ok (.new 36, 3) := by decide +kernel
theorem dX7_init_63 : decode cX7_init 63 = .ok (.dup, 1) := by decide +kernel
theorem dX7_init_64 : decode cX7_init 64 = .ok (.invokespecial 38, 3) := by decide +kernel
theorem dX7_init_67 : decode cX7_init 67 = .ok (.putfield 39, 3) := by decide +kernel
theorem dX7_init_70 : decode cX7_init 70 = .ok (.aload_n 0, 1) := by decide +kernel
theorem dX7_init_71 : decode cX7_init 71 = .ok (.new 36, 3) := by decide +kernel
theorem dX7_init_74 : decode cX7_init 74 = .ok (.dup, 1) := by decide +kernel
theorem dX7_init_75 : decode cX7_init 75 = .ok (.invokespecial 38, 3) := by decide +kernel
theorem dX7_init_78 : decode cX7_init 78 = .ok (.putfield 43, 3) := by decide +kernel
theorem dX7_init_81 : decode cX7_init 81 = .ok (.return_, 1) := by decide +kernel
theorem dX7_append_0 : decode cX7_append 0 = .ok (.iload_n 1, 1) := by decide +kernel
theorem dX7_append_1 : decode cX7_append 1 = .ok (.ifCond .lt 10, 3) := by decide +kernel
theorem dX7_append_4 : decode cX7_append 4 = .ok (.iload_n 1, 1) := by decide +kernel
theorem dX7_append_5 : decode cX7_append 5 = .ok (.sipush 255, 3) := by decide +kernel
theorem dX7_append_8 : decode cX7_append 8 = .ok (.if_icmp .le 13, 3) := by decide +kernel
theorem dX7_append_11 : decode cX7_append 11 = .ok (.new 46, 3) := by decide +kernel
theorem dX7_append_14 : decode cX7_append 14 = .ok (.dup, 1) := by decide +kernel
theorem dX7_append_15 : decode cX7_append 15 = .ok (.ldc 48, 2) := by decide +kernel
theorem dX7_append_17 : decode cX7_append 17 = .ok (.invokespecial 50, 3) := by decide +kernel
theorem dX7_append_20 : decode cX7_append 20 = .ok (.athrow, 1) := by decide +kernel
theorem dX7_append_21 : decode cX7_append 21 = .ok (.aload_n 0, 1) := by decide +kernel
theorem dX7_append_22 : decode cX7_append 22 = .ok (.getfield 10, 3) := by decide +kernel
theorem dX7_append_25 : decode cX7_append 25 = .ok (.getfield 53, 3) := by decide +kernel
theorem dX7_append_28 : decode cX7_append 28 = .ok (.invokevirtual 57, 3) := by decide +kernel
theorem dX7_append_31 : decode cX7_append 31 = .ok (.ifCond .eq 13, 3) := by decide +kernel
theorem dX7_append_34 : decode cX7_append 34 = .ok (.new 63, 3) := by decide +kernel
theorem dX7_append_37 : decode cX7_append 37 = .ok (.dup, 1) := by decide +kernel
theorem dX7_append_38 : decode cX7_append 38 = .ok (.ldc 65, 2) := by decide +kernel
theorem dX7_append_40 : decode cX7_append 40 = .ok (.invokespecial 67, 3) := by decide +kernel
theorem dX7_append_43 : decode cX7_append 43 = .ok (.athrow, 1) := by decide +kernel
theorem dX7_append_44 : decode cX7_append 44 = .ok (.aload_n 0, 1) := by decide +kernel
theorem dX7_append_45 : decode cX7_append 45 = .ok (.getfield 10, 3) := by decide +kernel
theorem dX7_append_48 : decode cX7_append 48 = .ok (.getfield 53, 3) := by decide +kernel
theorem dX7_append_51 : decode cX7_append 51 = .ok (.iload_n 1, 1) := by decide +kernel
theorem dX7_append_52 : decode cX7_append 52 = .ok (.invokevirtual 68, 3) := by decide +kernel
theorem dX7_append_55 : decode cX7_append 55 = .ok (.ireturn, 1) := by decide +kernel
theorem dX7_load_0 : decode cX7_load 0 = .ok (.aload_n 0, 1) := by decide +kernel
theorem dX7_load_1 : decode cX7_load 1 = .ok (.getfield 10, 3) := by decide +kernel
theorem dX7_load_4 : decode cX7_load 4 = .ok (.invokevirtual 76, 3) := by decide +kernel
theorem dX7_load_7 : decode cX7_load 7 = .ok (.iconst (-1), 1) := by decide +kernel
theorem dX7_load_8 : decode cX7_load 8 = .ok (.if_icmp .eq 13, 3) := by decide +kernel
theorem dX7_load_11 : decode cX7_load 11 = .ok (.new 63, 3) := by decide +kernel
theorem dX7_load_14 : decode cX7_load 14 = .ok (.dup, 1) := by decide +kernel
theorem dX7_load_15 : decode cX7_load 15 = .ok (.ldc 79, 2) := by decide +kernel
theorem dX7_load_17 : decode cX7_load 17 = .ok (.invokespecial 67, 3) := by decide +kernel
theorem dX7_load_20 : decode cX7_load 20 = .ok (.athrow, 1) := by decide +kernel
theorem dX7_load_21 : decode cX7_load 21 = .ok (.aload_n 0, 1) := by decide +kernel
theorem dX7_load_22 : decode cX7_load 22 = .ok (.getfield 23, 3) := by decide +kernel
theorem dX7_load_25 : decode cX7_load 25 = .ok (.aload_n 0, 1) := by decide +kernel
theorem dX7_load_26 : decode cX7_load 26 = .ok (.getfield 19, 3) := by decide +kernel
theorem dX7_load_29 : decode cX7_load 29 = .ok (.invokevirtual 81, 3) := by decide +kernel
theorem dX7_load_32 : decode cX7_load 32 = .ok (.aload_n 0, 1) := by decide +kernel
theorem dX7_load_33 : decode cX7_load 33 = .ok (.getfield 32, 3) := by decide +kernel
theorem dX7_load_36 : decode cX7_load 36 = .ok (.invokevirtual 85, 3) := by decide +kernel
theorem dX7_load_39 : decode cX7_load 39 = .ok (.aload_n 0, 1) := by decide +kernel
theorem dX7_load_40 : decode cX7_load 40 = .ok (.getfield 39, 3) := by decide +kernel
theorem dX7_load_43 : decode cX7_load 43 = .ok (.invokevirtual 88, 3) := by decide +kernel
theorem dX7_load_46 : decode cX7_load 46 = .ok (.aload_n 0, 1) := by decide +kernel
theorem dX7_load_47 : decode cX7_load 47 = .ok (.getfield 43, 3) := by decide +kernel
theorem dX7_load_50 : decode cX7_load 50 = .ok (.invokevirtual 88, 3) := by decide +kernel
theorem dX7_load_53 : decode cX7_load 53 = .ok (.iconst 0, 1) := by decide +kernel
theorem dX7_load_54 : decode cX7_load 54 = .ok (.istore_n 1, 1) := by decide +kernel
theorem dX7_load_55 : decode cX7_load 55 = .ok (.aload_n 0, 1) := by decide +kernel
theorem dX7_load_56 : decode cX7_load 56 = .ok (.getfield 10, 3) := by decide +kernel
theorem dX7_load_59 : decode cX7_load 59 = .ok (.invokevirtual 90, 3) := by decide +kernel
theorem dX7_load_62 : decode cX7_load 62 = .ok (.iconst 0, 1) := by decide +kernel
theorem dX7_load_63 : decode cX7_load 63 = .ok (.istore_n 2, 1) := by decide +kernel
theorem dX7_load_64 : decode cX7_load 64 = .ok (.iload_n 2, 1) := by decide +kernel
theorem dX7_load_65 : decode cX7_load 65 = .ok (.bipush 120, 2) := by decide +kernel
theorem dX7_load_67 : decode cX7_load 67 = .ok (.if_icmp .ge 29, 3) := by decide +kernel
theorem dX7_load_70 : decode cX7_load 70 = .ok (.aload_n 0, 1) := by decide +kernel
theorem dX7_load_71 : decode cX7_load 71 = .ok (.getfield 10, 3) := by decide +kernel
theorem dX7_load_74 : decode cX7_load 74 = .ok (.invokevirtual 93, 3) := by decide +kernel
theorem dX7_load_77 : decode cX7_load 77 = .ok (.ifCond .eq 19, 3) := by decide +kernel
theorem dX7_load_80 : decode cX7_load 80 = .ok (.aload_n 0, 1) := by decide +kernel
theorem dX7_load_81 : decode cX7_load 81 = .ok (.invokevirtual 96, 3) := by decide +kernel
theorem dX7_load_84 : decode cX7_load 84 = .ok (.ifCond .ne 6, 3) := by decide +kernel
theorem dX7_load_87 : decode cX7_load 87 = .ok (.iinc 1 1, 3) := by decide +kernel
theorem dX7_load_90 : decode cX7_load 90 = .ok (.iinc 2 1, 3) := by decide +kernel
theorem dX7_load_93 : decode cX7_load 93 = .ok (.goto (-29), 3) := by decide +kernel
theorem dX7_load_96 : decode cX7_load 96 = .ok (.iload_n 1, 1) := by decide +kernel
theorem dX7_load_97 : decode cX7_load 97 = .ok (.ireturn, 1) := by decide +kernel
theorem dX7_doCommand_0 : decode cX7_doCommand 0 = .ok (.aload_n 0, 1) := by decide +kernel
theorem dX7_doCommand_1 : decode cX7_doCommand 1 = .ok (.getfield 10, 3) := by decide +kernel
theorem dX7_doCommand_4 : decode cX7_doCommand 4 = .ok (.getfield 99, 3) := by decide +kernel
theorem dX7_doCommand_7 : decode cX7_doCommand 7 = .ok (.lookupswitch 126 #[(109, 111), (111, 79), (114, 41), (122, 95)], 41) := by decide +kernel
theorem dX7_doCommand_48 : decode cX7_doCommand 48 = .ok (.aload_n 0, 1) := by decide +kernel
theorem dX7_doCommand_49 : decode cX7_doCommand 49 = .ok (.getfield 23, 3) := by decide +kernel
theorem dX7_doCommand_52 : decode cX7_doCommand 52 = .ok (.aload_n 0, 1) := by decide +kernel
theorem dX7_doCommand_53 : decode cX7_doCommand 53 = .ok (.getfield 10, 3) := by decide +kernel
theorem dX7_doCommand_56 : decode cX7_doCommand 56 = .ok (.getfield 103, 3) := by decide +kernel
theorem dX7_doCommand_59 : decode cX7_doCommand 59 = .ok (.aload_n 0, 1) := by decide +kernel
theorem dX7_doCommand_60 : decode cX7_doCommand 60 = .ok (.getfield 10, 3) := by decide +kernel
theorem dX7_doCommand_63 : decode cX7_doCommand 63 = .ok (.getfield 106, 3) := by decide +kernel
theorem dX7_doCommand_66 : decode cX7_doCommand 66 = .ok (.aload_n 0, 1) := by decide +kernel
theorem dX7_doCommand_67 : decode cX7_doCommand 67 = .ok (.getfield 10, 3) := by decide +kernel
theorem dX7_doCommand_70 : decode cX7_doCommand 70 = .ok (.getfield 109, 3) := by decide +kernel
theorem dX7_doCommand_73 : decode cX7_doCommand 73 = .ok (.invokevirtual 112, 3) := by decide +kernel
theorem dX7_doCommand_76 : decode cX7_doCommand 76 = .ok (.iconst (-1), 1) := by decide +kernel
theorem dX7_doCommand_77 : decode cX7_doCommand 77 = .ok (.if_icmp .eq 7, 3) := by decide +kernel
theorem dX7_doCommand_80 : decode cX7_doCommand 80 = .ok (.iconst 1, 1) := by decide +kernel
theorem dX7_doCommand_81 : decode cX7_doCommand 81 = .ok (.goto 4, 3) := by decide +kernel
theorem dX7_doCommand_84 : decode cX7_doCommand 84 = .ok (.iconst 0, 1) := by decide +kernel
theorem dX7_doCommand_85 : decode cX7_doCommand 85 = .ok (.ireturn, 1) := by decide +kernel
theorem dX7_doCommand_86 : decode cX7_doCommand 86 = .ok (.aload_n 0, 1) := by decide +kernel
theorem dX7_doCommand_87 : decode cX7_doCommand 87 = .ok (.getfield 23, 3) := by decide +kernel
theorem dX7_doCommand_90 : decode cX7_doCommand 90 = .ok (.aload_n 0, 1) := by decide +kernel
theorem dX7_doCommand_91 : decode cX7_doCommand 91 = .ok (.getfield 10, 3) := by decide +kernel
theorem dX7_doCommand_94 : decode cX7_doCommand 94 = .ok (.getfield 103, 3) := by decide +kernel
theorem dX7_doCommand_97 : decode cX7_doCommand 97 = .ok (.iconst 1, 1) := by decide +kernel
theorem dX7_doCommand_98 : decode cX7_doCommand 98 = .ok (.invokevirtual 116, 3) := by decide +kernel
theorem dX7_doCommand_101 : decode cX7_doCommand 101 = .ok (.ireturn, 1) := by decide +kernel
theorem dX7_doCommand_102 : decode cX7_doCommand 102 = .ok (.aload_n 0, 1) := by decide +kernel
theorem dX7_doCommand_103 : decode cX7_doCommand 103 = .ok (.getfield 23, 3) := by decide +kernel
theorem dX7_doCommand_106 : decode cX7_doCommand 106 = .ok (.aload_n 0, 1) := by decide +kernel
theorem dX7_doCommand_107 : decode cX7_doCommand 107 = .ok (.getfield 10, 3) := by decide +kernel
theorem dX7_doCommand_110 : decode cX7_doCommand 110 = .ok (.getfield 103, 3) := by decide +kernel
theorem dX7_doCommand_113 : decode cX7_doCommand 113 = .ok (.iconst 0, 1) := by decide +kernel
theorem dX7_doCommand_114 : decode cX7_doCommand 114 = .ok (.invokevirtual 116, 3) := by decide +kernel
theorem dX7_doCommand_117 : decode cX7_doCommand 117 = .ok (.ireturn, 1) := by decide +kernel
theorem dX7_doCommand_118 : decode cX7_doCommand 118 = .ok (.aload_n 0, 1) := by decide +kernel
theorem dX7_doCommand_119 : decode cX7_doCommand 119 = .ok (.getfield 23, 3) := by decide +kernel
theorem dX7_doCommand_122 : decode cX7_doCommand 122 = .ok (.aload_n 0, 1) := by decide +kernel
theorem dX7_doCommand_123 : decode cX7_doCommand 123 = .ok (.getfield 10, 3) := by decide +kernel
theorem dX7_doCommand_126 : decode cX7_doCommand 126 = .ok (.getfield 103, 3) := by decide +kernel
theorem dX7_doCommand_129 : decode cX7_doCommand 129 = .ok (.invokevirtual 120, 3) := by decide +kernel
theorem dX7_doCommand_132 : decode cX7_doCommand 132 = .ok (.ireturn, 1) := by decide +kernel
theorem dX7_doCommand_133 : decode cX7_doCommand 133 = .ok (.aload_n 0, 1) := by decide +kernel
theorem dX7_doCommand_134 : decode cX7_doCommand 134 = .ok (.getfield 23, 3) := by decide +kernel
theorem dX7_doCommand_137 : decode cX7_doCommand 137 = .ok (.iconst 0, 1) := by decide +kernel
theorem dX7_doCommand_138 : decode cX7_doCommand 138 = .ok (.aload_n 0, 1) := by decide +kernel
theorem dX7_doCommand_139 : decode cX7_doCommand 139 = .ok (.getfield 10, 3) := by decide +kernel
theorem dX7_doCommand_142 : decode cX7_doCommand 142 = .ok (.getfield 103, 3) := by decide +kernel
theorem dX7_doCommand_145 : decode cX7_doCommand 145 = .ok (.invokevirtual 124, 3) := by decide +kernel
theorem dX7_doCommand_148 : decode cX7_doCommand 148 = .ok (.ireturn, 1) := by decide +kernel
theorem dX7_about_0 : decode cX7_about 0 = .ok (.iload_n 1, 1) := by decide +kernel
theorem dX7_about_1 : decode cX7_about 1 = .ok (.ifCond .lt 9, 3) := by decide +kernel
theorem dX7_about_4 : decode cX7_about 4 = .ok (.iload_n 1, 1) := by decide +kernel
theorem dX7_about_5 : decode cX7_about 5 = .ok (.bipush 10, 2) := by decide +kernel
theorem dX7_about_7 : decode cX7_about 7 = .ok (.if_icmp .le 13, 3) := by decide +kernel
theorem dX7_about_10 : decode cX7_about 10 = .ok (.new 46, 3) := by decide +kernel
theorem dX7_about_13 : decode cX7_about 13 = .ok (.dup, 1) := by decide +kernel
theorem dX7_about_14 : decode cX7_about 14 = .ok (.ldc 128, 2) := by decide +kernel
theorem dX7_about_16 : decode cX7_about 16 = .ok (.invokespecial 50, 3) := by decide +kernel
theorem dX7_about_19 : decode cX7_about 19 = .ok (.athrow, 1) := by decide +kernel
theorem dX7_about_20 : decode cX7_about 20 = .ok (.aload_n 0, 1) := by decide +kernel
theorem dX7_about_21 : decode cX7_about 21 = .ok (.getfield 23, 3) := by decide +kernel
theorem dX7_about_24 : decode cX7_about 24 = .ok (.iload_n 1, 1) := by decide +kernel
theorem dX7_about_25 : decode cX7_about 25 = .ok (.invokevirtual 130, 3) := by decide +kernel
theorem dX7_about_28 : decode cX7_about 28 = .ok (.ireturn, 1) := by decide +kernel
theorem dX7_room_0 : decode cX7_room 0 = .ok (.aload_n 0, 1) := by decide +kernel
theorem dX7_room_1 : decode cX7_room 1 = .ok (.getfield 23, 3) := by decide +kernel
theorem dX7_room_4 : decode cX7_room 4 = .ok (.iload_n 1, 1) := by decide +kernel
theorem dX7_room_5 : decode cX7_room 5 = .ok (.invokevirtual 133, 3) := by decide +kernel
theorem dX7_room_8 : decode cX7_room 8 = .ok (.astore_n 3, 1) := by decide +kernel
theorem dX7_room_9 : decode cX7_room 9 = .ok (.aload_n 3, 1) := by decide +kernel
theorem dX7_room_10 : decode cX7_room 10 = .ok (.ifnonnull 13, 3) := by decide +kernel
theorem dX7_room_13 : decode cX7_room 13 = .ok (.new 137, 3) := by decide +kernel
theorem dX7_room_16 : decode cX7_room 16 = .ok (.dup, 1) := by decide +kernel
theorem dX7_room_17 : decode cX7_room 17 = .ok (.ldc 139, 2) := by decide +kernel
theorem dX7_room_19 : decode cX7_room 19 = .ok (.invokespecial 141, 3) := by decide +kernel
theorem dX7_room_22 : decode cX7_room 22 = .ok (.athrow, 1) := by decide +kernel
theorem dX7_room_23 : decode cX7_room 23 = .ok (.iload_n 2, 1) := by decide +kernel
theorem dX7_room_24 : decode cX7_room 24 = .ok (.ifCond .lt 9, 3) := by decide +kernel
theorem dX7_room_27 : decode cX7_room 27 = .ok (.iload_n 2, 1) := by decide +kernel
theorem dX7_room_28 : decode cX7_room 28 = .ok (.bipush 7, 2) := by decide +kernel
theorem dX7_room_30 : decode cX7_room 30 = .ok (.if_icmp .le 13, 3) := by decide +kernel
theorem dX7_room_33 : decode cX7_room 33 = .ok (.new 46, 3) := by decide +kernel
theorem dX7_room_36 : decode cX7_room 36 = .ok (.dup, 1) := by decide +kernel
theorem dX7_room_37 : decode cX7_room 37 = .ok (.ldc 142, 2) := by decide +kernel
theorem dX7_room_39 : decode cX7_room 39 = .ok (.invokespecial 50, 3) := by decide +kernel
theorem dX7_room_42 : decode cX7_room 42 = .ok (.athrow, 1) := by decide +kernel
theorem dX7_room_43 : decode cX7_room 43 = .ok (.aload_n 3, 1) := by decide +kernel
theorem dX7_room_44 : decode cX7_room 44 = .ok (.iload_n 2, 1) := by decide +kernel
theorem dX7_room_45 : decode cX7_room 45 = .ok (.invokevirtual 144, 3) := by decide +kernel
theorem dX7_room_48 : decode cX7_room 48 = .ok (.ireturn, 1) := by decide +kernel
theorem dX7_does_0 : decode cX7_does 0 = .ok (.aload_n 0, 1) := by decide +kernel
theorem dX7_does_1 : decode cX7_does 1 = .ok (.getfield 23, 3) := by decide +kernel
theorem dX7_does_4 : decode cX7_does 4 = .ok (.iload_n 1, 1) := by decide +kernel
theorem dX7_does_5 : decode cX7_does 5 = .ok (.invokevirtual 133, 3) := by decide +kernel
theorem dX7_does_8 : decode cX7_does 8 = .ok (.astore_n 2, 1) := by decide +kernel
theorem dX7_does_9 : decode cX7_does 9 = .ok (.aload_n 2, 1) := by decide +kernel
theorem dX7_does_10 : decode cX7_does 10 = .ok (.ifnonnull 13, 3) := by decide +kernel
theorem dX7_does_13 : decode cX7_does 13 = .ok (.new 137, 3) := by decide +kernel
theorem dX7_does_16 : decode cX7_does 16 = .ok (.dup, 1) := by decide +kernel
theorem dX7_does_17 : decode cX7_does 17 = .ok (.ldc 139, 2) := by decide +kernel
theorem dX7_does_19 : decode cX7_does 19 = .ok (.invokespecial 141, 3) := by decide +kernel
theorem dX7_does_22 : decode cX7_does 22 = .ok (.athrow, 1) := by decide +kernel
theorem dX7_does_23 : decode cX7_does 23 = .ok (.aload_n 0, 1) := by decide +kernel
theorem dX7_does_24 : decode cX7_does 24 = .ok (.getfield 23, 3) := by decide +kernel
theorem dX7_does_27 : decode cX7_does 27 = .ok (.invokevirtual 149, 3) := by decide +kernel
theorem dX7_does_30 : decode cX7_does 30 = .ok (.pop, 1) := by decide +kernel
theorem dX7_does_31 : decode cX7_does 31 = .ok (.aload_n 2, 1) := by decide +kernel
theorem dX7_does_32 : decode cX7_does 32 = .ok (.getfield 152, 3) := by decide +kernel
theorem dX7_does_35 : decode cX7_does 35 = .ok (.ireturn, 1) := by decide +kernel
theorem dX7_setting_0 : decode cX7_setting 0 = .ok (.iload_n 1, 1) := by decide +kernel
theorem dX7_setting_1 : decode cX7_setting 1 = .ok (.invokestatic 155, 3) := by decide +kernel
theorem dX7_setting_4 : decode cX7_setting 4 = .ok (.ifCond .ne 13, 3) := by decide +kernel
theorem dX7_setting_7 : decode cX7_setting 7 = .ok (.new 46, 3) := by decide +kernel
theorem dX7_setting_10 : decode cX7_setting 10 = .ok (.dup, 1) := by decide +kernel
theorem dX7_setting_11 : decode cX7_setting 11 = .ok (.ldc 160, 2) := by decide +kernel
theorem dX7_setting_13 : decode cX7_setting 13 = .ok (.invokespecial 50, 3) := by decide +kernel
theorem dX7_setting_16 : decode cX7_setting 16 = .ok (.athrow, 1) := by decide +kernel
theorem dX7_setting_17 : decode cX7_setting 17 = .ok (.aload_n 0, 1) := by decide +kernel
theorem dX7_setting_18 : decode cX7_setting 18 = .ok (.getfield 23, 3) := by decide +kernel
theorem dX7_setting_21 : decode cX7_setting 21 = .ok (.getfield 162, 3) := by decide +kernel
theorem dX7_setting_24 : decode cX7_setting 24 = .ok (.iload_n 1, 1) := by decide +kernel
theorem dX7_setting_25 : decode cX7_setting 25 = .ok (.invokevirtual 166, 3) := by decide +kernel
theorem dX7_setting_28 : decode cX7_setting 28 = .ok (.ireturn, 1) := by decide +kernel
theorem dX7_add_0 : decode cX7_add 0 = .ok (.iload_n 1, 1) := by decide +kernel
theorem dX7_add_1 : decode cX7_add 1 = .ok (.iload_n 2, 1) := by decide +kernel
theorem dX7_add_2 : decode cX7_add 2 = .ok (.iload_n 3, 1) := by decide +kernel
theorem dX7_add_3 : decode cX7_add 3 = .ok (.invokestatic 169, 3) := by decide +kernel
theorem dX7_add_6 : decode cX7_add 6 = .ok (.ifCond .ne 13, 3) := by decide +kernel
theorem dX7_add_9 : decode cX7_add 9 = .ok (.new 46, 3) := by decide +kernel
theorem dX7_add_12 : decode cX7_add 12 = .ok (.dup, 1) := by decide +kernel
theorem dX7_add_13 : decode cX7_add 13 = .ok (.ldc 173, 2) := by decide +kernel
theorem dX7_add_15 : decode cX7_add 15 = .ok (.invokespecial 50, 3) := by decide +kernel
theorem dX7_add_18 : decode cX7_add 18 = .ok (.athrow, 1) := by decide +kernel
theorem dX7_add_19 : decode cX7_add 19 = .ok (.aload_n 0, 1) := by decide +kernel
theorem dX7_add_20 : decode cX7_add 20 = .ok (.getfield 23, 3) := by decide +kernel
theorem dX7_add_23 : decode cX7_add 23 = .ok (.invokevirtual 175, 3) := by decide +kernel
theorem dX7_add_26 : decode cX7_add 26 = .ok (.ifnonnull 13, 3) := by decide +kernel
theorem dX7_add_29 : decode cX7_add 29 = .ok (.new 63, 3) := by decide +kernel
theorem dX7_add_32 : decode cX7_add 32 = .ok (.dup, 1) := by decide +kernel
theorem dX7_add_33 : decode cX7_add 33 = .ok (.ldc 179, 2) := by decide +kernel
theorem dX7_add_35 : decode cX7_add 35 = .ok (.invokespecial 67, 3) := by decide +kernel
theorem dX7_add_38 : decode cX7_add 38 = .ok (.athrow, 1) := by decide +kernel
theorem dX7_add_39 : decode cX7_add 39 = .ok (.aload_n 0, 1) := by decide +kernel
theorem dX7_add_40 : decode cX7_add 40 = .ok (.getfield 32, 3) := by decide +kernel
theorem dX7_add_43 : decode cX7_add 43 = .ok (.aload_n 0, 1) := by decide +kernel
theorem dX7_add_44 : decode cX7_add 44 = .ok (.getfield 23, 3) := by decide +kernel
theorem dX7_add_47 : decode cX7_add 47 = .ok (.invokevirtual 181, 3) := by decide +kernel
theorem dX7_add_50 : decode cX7_add 50 = .ok (.aload_n 0, 1) := by decide +kernel
theorem dX7_add_51 : decode cX7_add 51 = .ok (.getfield 23, 3) := by decide +kernel
theorem dX7_add_54 : decode cX7_add 54 = .ok (.iload_n 1, 1) := by decide +kernel
theorem dX7_add_55 : decode cX7_add 55 = .ok (.iload_n 2, 1) := by decide +kernel
theorem dX7_add_56 : decode cX7_add 56 = .ok (.iload_n 3, 1) := by decide +kernel
theorem dX7_add_57 : decode cX7_add 57 = .ok (.invokevirtual 112, 3) := by decide +kernel
theorem dX7_add_60 : decode cX7_add 60 = .ok (.ireturn, 1) := by decide +kernel
theorem dX7_door_0 : decode cX7_door 0 = .ok (.aload_n 0, 1) := by decide +kernel
theorem dX7_door_1 : decode cX7_door 1 = .ok (.getfield 23, 3) := by decide +kernel
theorem dX7_door_4 : decode cX7_door 4 = .ok (.iload_n 1, 1) := by decide +kernel
theorem dX7_door_5 : decode cX7_door 5 = .ok (.invokevirtual 133, 3) := by decide +kernel
theorem dX7_door_8 : decode cX7_door 8 = .ok (.ifnonnull 13, 3) := by decide +kernel
theorem dX7_door_11 : decode cX7_door 11 = .ok (.new 137, 3) := by decide +kernel
theorem dX7_door_14 : decode cX7_door 14 = .ok (.dup, 1) := by decide +kernel
theorem dX7_door_15 : decode cX7_door 15 = .ok (.ldc 139, 2) := by decide +kernel
theorem dX7_door_17 : decode cX7_door 17 = .ok (.invokespecial 141, 3) := by decide +kernel
theorem dX7_door_20 : decode cX7_door 20 = .ok (.athrow, 1) := by decide +kernel
theorem dX7_door_21 : decode cX7_door 21 = .ok (.aload_n 0, 1) := by decide +kernel
theorem dX7_door_22 : decode cX7_door 22 = .ok (.getfield 32, 3) := by decide +kernel
theorem dX7_door_25 : decode cX7_door 25 = .ok (.aload_n 0, 1) := by decide +kernel
theorem dX7_door_26 : decode cX7_door 26 = .ok (.getfield 23, 3) := by decide +kernel
theorem dX7_door_29 : decode cX7_door 29 = .ok (.invokevirtual 181, 3) := by decide +kernel
theorem dX7_door_32 : decode cX7_door 32 = .ok (.aload_n 0, 1) := by decide +kernel
theorem dX7_door_33 : decode cX7_door 33 = .ok (.getfield 23, 3) := by decide +kernel
theorem dX7_door_36 : decode cX7_door 36 = .ok (.iload_n 1, 1) := by decide +kernel
theorem dX7_door_37 : decode cX7_door 37 = .ok (.iload_n 2, 1) := by decide +kernel
theorem dX7_door_38 : decode cX7_door 38 = .ok (.invokevirtual 116, 3) := by decide +kernel
theorem dX7_door_41 : decode cX7_door 41 = .ok (.pop, 1) := by decide +kernel
theorem dX7_door_42 : decode cX7_door 42 = .ok (.aload_n 0, 1) := by decide +kernel
theorem dX7_door_43 : decode cX7_door 43 = .ok (.getfield 23, 3) := by decide +kernel
theorem dX7_door_46 : decode cX7_door 46 = .ok (.invokevirtual 184, 3) := by decide +kernel
theorem dX7_door_49 : decode cX7_door 49 = .ok (.ireturn, 1) := by decide +kernel
theorem dX7_goods_0 : decode cX7_goods 0 = .ok (.aload_n 0, 1) := by decide +kernel
theorem dX7_goods_1 : decode cX7_goods 1 = .ok (.getfield 23, 3) := by decide +kernel
theorem dX7_goods_4 : decode cX7_goods 4 = .ok (.iload_n 1, 1) := by decide +kernel
theorem dX7_goods_5 : decode cX7_goods 5 = .ok (.invokevirtual 133, 3) := by decide +kernel
theorem dX7_goods_8 : decode cX7_goods 8 = .ok (.astore_n 3, 1) := by decide +kernel
theorem dX7_goods_9 : decode cX7_goods 9 = .ok (.aload_n 3, 1) := by decide +kernel
theorem dX7_goods_10 : decode cX7_goods 10 = .ok (.ifnonnull 13, 3) := by decide +kernel
theorem dX7_goods_13 : decode cX7_goods 13 = .ok (.new 137, 3) := by decide +kernel
theorem dX7_goods_16 : decode cX7_goods 16 = .ok (.dup, 1) := by decide +kernel
theorem dX7_goods_17 : decode cX7_goods 17 = .ok (.ldc 139, 2) := by decide +kernel
theorem dX7_goods_19 : decode cX7_goods 19 = .ok (.invokespecial 141, 3) := by decide +kernel
theorem dX7_goods_22 : decode cX7_goods 22 = .ok (.athrow, 1) := by decide +kernel
theorem dX7_goods_23 : decode cX7_goods 23 = .ok (.iload_n 2, 1) := by decide +kernel
theorem dX7_goods_24 : decode cX7_goods 24 = .ok (.invokestatic 187, 3) := by decide +kernel
theorem dX7_goods_27 : decode cX7_goods 27 = .ok (.ifCond .ne 13, 3) := by decide +kernel
theorem dX7_goods_30 : decode cX7_goods 30 = .ok (.new 46, 3) := by decide +kernel
theorem dX7_goods_33 : decode cX7_goods 33 = .ok (.dup, 1) := by decide +kernel
theorem dX7_goods_34 : decode cX7_goods 34 = .ok (.ldc 190, 2) := by decide +kernel
theorem dX7_goods_36 : decode cX7_goods 36 = .ok (.invokespecial 50, 3) := by decide +kernel
theorem dX7_goods_39 : decode cX7_goods 39 = .ok (.athrow, 1) := by decide +kernel
theorem dX7_goods_40 : decode cX7_goods 40 = .ok (.aload_n 0, 1) := by decide +kernel
theorem dX7_goods_41 : decode cX7_goods 41 = .ok (.getfield 32, 3) := by decide +kernel
theorem dX7_goods_44 : decode cX7_goods 44 = .ok (.aload_n 0, 1) := by decide +kernel
theorem dX7_goods_45 : decode cX7_goods 45 = .ok (.getfield 23, 3) := by decide +kernel
theorem dX7_goods_48 : decode cX7_goods 48 = .ok (.invokevirtual 181, 3) := by decide +kernel
theorem dX7_goods_51 : decode cX7_goods 51 = .ok (.aload_n 3, 1) := by decide +kernel
theorem dX7_goods_52 : decode cX7_goods 52 = .ok (.getfield 192, 3) := by decide +kernel
theorem dX7_goods_55 : decode cX7_goods 55 = .ok (.istore 4, 2) := by decide +kernel
theorem dX7_goods_57 : decode cX7_goods 57 = .ok (.aload_n 0, 1) := by decide +kernel
theorem dX7_goods_58 : decode cX7_goods 58 = .ok (.getfield 23, 3) := by decide +kernel
theorem dX7_goods_61 : decode cX7_goods 61 = .ok (.iload_n 1, 1) := by decide +kernel
theorem dX7_goods_62 : decode cX7_goods 62 = .ok (.iload_n 2, 1) := by decide +kernel
theorem dX7_goods_63 : decode cX7_goods 63 = .ok (.invokevirtual 195, 3) := by decide +kernel
theorem dX7_goods_66 : decode cX7_goods 66 = .ok (.pop, 1) := by decide +kernel
theorem dX7_goods_67 : decode cX7_goods 67 = .ok (.iload 4, 2) := by decide +kernel
theorem dX7_goods_69 : decode cX7_goods 69 = .ok (.ireturn, 1) := by decide +kernel
theorem dX7_run_0 : decode cX7_run 0 = .ok (.iload_n 1, 1) := by decide +kernel
theorem dX7_run_1 : decode cX7_run 1 = .ok (.invokestatic 198, 3) := by decide +kernel
theorem dX7_run_4 : decode cX7_run 4 = .ok (.ifCond .ne 13, 3) := by decide +kernel
theorem dX7_run_7 : decode cX7_run 7 = .ok (.new 46, 3) := by decide +kernel
theorem dX7_run_10 : decode cX7_run 10 = .ok (.dup, 1) := by decide +kernel
theorem dX7_run_11 : decode cX7_run 11 = .ok (.ldc 201, 2) := by decide +kernel
theorem dX7_run_13 : decode cX7_run 13 = .ok (.invokespecial 50, 3) := by decide +kernel
theorem dX7_run_16 : decode cX7_run 16 = .ok (.athrow, 1) := by decide +kernel
theorem dX7_run_17 : decode cX7_run 17 = .ok (.aload_n 0, 1) := by decide +kernel
theorem dX7_run_18 : decode cX7_run 18 = .ok (.getfield 32, 3) := by decide +kernel
theorem dX7_run_21 : decode cX7_run 21 = .ok (.aload_n 0, 1) := by decide +kernel
theorem dX7_run_22 : decode cX7_run 22 = .ok (.getfield 23, 3) := by decide +kernel
theorem dX7_run_25 : decode cX7_run 25 = .ok (.invokevirtual 181, 3) := by decide +kernel
theorem dX7_run_28 : decode cX7_run 28 = .ok (.aload_n 0, 1) := by decide +kernel
theorem dX7_run_29 : decode cX7_run 29 = .ok (.getfield 23, 3) := by decide +kernel
theorem dX7_run_32 : decode cX7_run 32 = .ok (.getfield 203, 3) := by decide +kernel
theorem dX7_run_35 : decode cX7_run 35 = .ok (.istore_n 2, 1) := by decide +kernel
theorem dX7_run_36 : decode cX7_run 36 = .ok (.aload_n 0, 1) := by decide +kernel
theorem dX7_run_37 : decode cX7_run 37 = .ok (.getfield 23, 3) := by decide +kernel
theorem dX7_run_40 : decode cX7_run 40 = .ok (.iload_n 1, 1) := by decide +kernel
theorem dX7_run_41 : decode cX7_run 41 = .ok (.invokevirtual 120, 3) := by decide +kernel
theorem dX7_run_44 : decode cX7_run 44 = .ok (.pop, 1) := by decide +kernel
theorem dX7_run_45 : decode cX7_run 45 = .ok (.aload_n 0, 1) := by decide +kernel
theorem dX7_run_46 : decode cX7_run 46 = .ok (.getfield 23, 3) := by decide +kernel
theorem dX7_run_49 : decode cX7_run 49 = .ok (.getfield 203, 3) := by decide +kernel
theorem dX7_run_52 : decode cX7_run 52 = .ok (.iload_n 2, 1) := by decide +kernel
theorem dX7_run_53 : decode cX7_run 53 = .ok (.isub, 1) := by decide +kernel
theorem dX7_run_54 : decode cX7_run 54 = .ok (.ireturn, 1) := by decide +kernel
theorem dX7_set_0 : decode cX7_set 0 = .ok (.iload_n 1, 1) := by decide +kernel
theorem dX7_set_1 : decode cX7_set 1 = .ok (.iload_n 2, 1) := by decide +kernel
theorem dX7_set_2 : decode cX7_set 2 = .ok (.invokestatic 206, 3) := by decide +kernel
theorem dX7_set_5 : decode cX7_set 5 = .ok (.ifCond .ne 13, 3) := by decide +kernel
theorem dX7_set_8 : decode cX7_set 8 = .ok (.new 46, 3) := by decide +kernel
theorem dX7_set_11 : decode cX7_set 11 = .ok (.dup, 1) := by decide +kernel
theorem dX7_set_12 : decode cX7_set 12 = .ok (.ldc 209, 2) := by decide +kernel
theorem dX7_set_14 : decode cX7_set 14 = .ok (.invokespecial 50, 3) := by decide +kernel
theorem dX7_set_17 : decode cX7_set 17 = .ok (.athrow, 1) := by decide +kernel
theorem dX7_set_18 : decode cX7_set 18 = .ok (.aload_n 0, 1) := by decide +kernel
theorem dX7_set_19 : decode cX7_set 19 = .ok (.getfield 32, 3) := by decide +kernel
theorem dX7_set_22 : decode cX7_set 22 = .ok (.aload_n 0, 1) := by decide +kernel
theorem dX7_set_23 : decode cX7_set 23 = .ok (.getfield 23, 3) := by decide +kernel
theorem dX7_set_26 : decode cX7_set 26 = .ok (.invokevirtual 181, 3) := by decide +kernel
theorem dX7_set_29 : decode cX7_set 29 = .ok (.aload_n 0, 1) := by decide +kernel
theorem dX7_set_30 : decode cX7_set 30 = .ok (.getfield 23, 3) := by decide +kernel
theorem dX7_set_33 : decode cX7_set 33 = .ok (.getfield 162, 3) := by decide +kernel
theorem dX7_set_36 : decode cX7_set 36 = .ok (.iload_n 1, 1) := by decide +kernel
theorem dX7_set_37 : decode cX7_set 37 = .ok (.invokevirtual 166, 3) := by decide +kernel
theorem dX7_set_40 : decode cX7_set 40 = .ok (.istore_n 3, 1) := by decide +kernel
theorem dX7_set_41 : decode cX7_set 41 = .ok (.aload_n 0, 1) := by decide +kernel
theorem dX7_set_42 : decode cX7_set 42 = .ok (.getfield 23, 3) := by decide +kernel
theorem dX7_set_45 : decode cX7_set 45 = .ok (.iload_n 1, 1) := by decide +kernel
theorem dX7_set_46 : decode cX7_set 46 = .ok (.iload_n 2, 1) := by decide +kernel
theorem dX7_set_47 : decode cX7_set 47 = .ok (.invokevirtual 124, 3) := by decide +kernel
theorem dX7_set_50 : decode cX7_set 50 = .ok (.pop, 1) := by decide +kernel
theorem dX7_set_51 : decode cX7_set 51 = .ok (.iload_n 3, 1) := by decide +kernel
theorem dX7_set_52 : decode cX7_set 52 = .ok (.ireturn, 1) := by decide +kernel
theorem dX7_undo_0 : decode cX7_undo 0 = .ok (.aload_n 0, 1) := by decide +kernel
theorem dX7_undo_1 : decode cX7_undo 1 = .ok (.getfield 32, 3) := by decide +kernel
theorem dX7_undo_4 : decode cX7_undo 4 = .ok (.invokevirtual 211, 3) := by decide +kernel
theorem dX7_undo_7 : decode cX7_undo 7 = .ok (.ifCond .eq 13, 3) := by decide +kernel
theorem dX7_undo_10 : decode cX7_undo 10 = .ok (.new 63, 3) := by decide +kernel
theorem dX7_undo_13 : decode cX7_undo 13 = .ok (.dup, 1) := by decide +kernel
theorem dX7_undo_14 : decode cX7_undo 14 = .ok (.ldc 214, 2) := by decide +kernel
theorem dX7_undo_16 : decode cX7_undo 16 = .ok (.invokespecial 67, 3) := by decide +kernel
theorem dX7_undo_19 : decode cX7_undo 19 = .ok (.athrow, 1) := by decide +kernel
theorem dX7_undo_20 : decode cX7_undo 20 = .ok (.aload_n 0, 1) := by decide +kernel
theorem dX7_undo_21 : decode cX7_undo 21 = .ok (.getfield 32, 3) := by decide +kernel
theorem dX7_undo_24 : decode cX7_undo 24 = .ok (.aload_n 0, 1) := by decide +kernel
theorem dX7_undo_25 : decode cX7_undo 25 = .ok (.getfield 23, 3) := by decide +kernel
theorem dX7_undo_28 : decode cX7_undo 28 = .ok (.invokevirtual 216, 3) := by decide +kernel
theorem dX7_undo_31 : decode cX7_undo 31 = .ok (.aload_n 0, 1) := by decide +kernel
theorem dX7_undo_32 : decode cX7_undo 32 = .ok (.getfield 32, 3) := by decide +kernel
theorem dX7_undo_35 : decode cX7_undo 35 = .ok (.getfield 219, 3) := by decide +kernel
theorem dX7_undo_38 : decode cX7_undo 38 = .ok (.ireturn, 1) := by decide +kernel
theorem dX7_spare_0 : decode cX7_spare 0 = .ok (.aload_n 0, 1) := by decide +kernel
theorem dX7_spare_1 : decode cX7_spare 1 = .ok (.getfield 23, 3) := by decide +kernel
theorem dX7_spare_4 : decode cX7_spare 4 = .ok (.invokevirtual 222, 3) := by decide +kernel
theorem dX7_spare_7 : decode cX7_spare 7 = .ok (.ireturn, 1) := by decide +kernel
theorem dX7_warmIn_0 : decode cX7_warmIn 0 = .ok (.aload_n 0, 1) := by decide +kernel
theorem dX7_warmIn_1 : decode cX7_warmIn 1 = .ok (.getfield 26, 3) := by decide +kernel
theorem dX7_warmIn_4 : decode cX7_warmIn 4 = .ok (.aload_n 0, 1) := by decide +kernel
theorem dX7_warmIn_5 : decode cX7_warmIn 5 = .ok (.getfield 23, 3) := by decide +kernel
theorem dX7_warmIn_8 : decode cX7_warmIn 8 = .ok (.invokevirtual 81, 3) := by decide +kernel
theorem dX7_warmIn_11 : decode cX7_warmIn 11 = .ok (.aload_n 0, 1) := by decide +kernel
theorem dX7_warmIn_12 : decode cX7_warmIn 12 = .ok (.getfield 26, 3) := by decide +kernel
theorem dX7_warmIn_15 : decode cX7_warmIn 15 = .ok (.iload_n 1, 1) := by decide +kernel
theorem dX7_warmIn_16 : decode cX7_warmIn 16 = .ok (.invokevirtual 133, 3) := by decide +kernel
theorem dX7_warmIn_19 : decode cX7_warmIn 19 = .ok (.astore_n 2, 1) := by decide +kernel
theorem dX7_warmIn_20 : decode cX7_warmIn 20 = .ok (.aload_n 2, 1) := by decide +kernel
theorem dX7_warmIn_21 : decode cX7_warmIn 21 = .ok (.ifnonnull 13, 3) := by decide +kernel
theorem dX7_warmIn_24 : decode cX7_warmIn 24 = .ok (.new 137, 3) := by decide +kernel
theorem dX7_warmIn_27 : decode cX7_warmIn 27 = .ok (.dup, 1) := by decide +kernel
theorem dX7_warmIn_28 : decode cX7_warmIn 28 = .ok (.ldc 139, 2) := by decide +kernel
theorem dX7_warmIn_30 : decode cX7_warmIn 30 = .ok (.invokespecial 141, 3) := by decide +kernel
theorem dX7_warmIn_33 : decode cX7_warmIn 33 = .ok (.athrow, 1) := by decide +kernel
theorem dX7_warmIn_34 : decode cX7_warmIn 34 = .ok (.iconst 0, 1) := by decide +kernel
theorem dX7_warmIn_35 : decode cX7_warmIn 35 = .ok (.istore_n 3, 1) := by decide +kernel
theorem dX7_warmIn_36 : decode cX7_warmIn 36 = .ok (.iload_n 3, 1) := by decide +kernel
theorem dX7_warmIn_37 : decode cX7_warmIn 37 = .ok (.sipush 240, 3) := by decide +kernel
theorem dX7_warmIn_40 : decode cX7_warmIn 40 = .ok (.if_icmp .ge 23, 3) := by decide +kernel
theorem dX7_warmIn_43 : decode cX7_warmIn 43 = .ok (.aload_n 2, 1) := by decide +kernel
theorem dX7_warmIn_44 : decode cX7_warmIn 44 = .ok (.invokevirtual 225, 3) := by decide +kernel
theorem dX7_warmIn_47 : decode cX7_warmIn 47 = .ok (.ifCond .ne 16, 3) := by decide +kernel
theorem dX7_warmIn_50 : decode cX7_warmIn 50 = .ok (.aload_n 0, 1) := by decide +kernel
theorem dX7_warmIn_51 : decode cX7_warmIn 51 = .ok (.getfield 26, 3) := by decide +kernel
theorem dX7_warmIn_54 : decode cX7_warmIn 54 = .ok (.invokevirtual 228, 3) := by decide +kernel
theorem dX7_warmIn_57 : decode cX7_warmIn 57 = .ok (.iinc 3 1, 3) := by decide +kernel
theorem dX7_warmIn_60 : decode cX7_warmIn 60 = .ok (.goto (-24), 3) := by decide +kernel
theorem dX7_warmIn_63 : decode cX7_warmIn 63 = .ok (.aload_n 2, 1) := by decide +kernel
theorem dX7_warmIn_64 : decode cX7_warmIn 64 = .ok (.invokevirtual 225, 3) := by decide +kernel
theorem dX7_warmIn_67 : decode cX7_warmIn 67 = .ok (.ifCond .eq 7, 3) := by decide +kernel
theorem dX7_warmIn_70 : decode cX7_warmIn 70 = .ok (.iload_n 3, 1) := by decide +kernel
theorem dX7_warmIn_71 : decode cX7_warmIn 71 = .ok (.goto 4, 3) := by decide +kernel
theorem dX7_warmIn_74 : decode cX7_warmIn 74 = .ok (.iconst (-1), 1) := by decide +kernel
theorem dX7_warmIn_75 : decode cX7_warmIn 75 = .ok (.ireturn, 1) := by decide +kernel
theorem dX7_coming_0 : decode cX7_coming 0 = .ok (.iload_n 1, 1) := by decide +kernel
theorem dX7_coming_1 : decode cX7_coming 1 = .ok (.iconst 1, 1) := by decide +kernel
theorem dX7_coming_2 : decode cX7_coming 2 = .ok (.if_icmp .lt 19, 3) := by decide +kernel
theorem dX7_coming_5 : decode cX7_coming 5 = .ok (.iload_n 1, 1) := by decide +kernel
theorem dX7_coming_6 : decode cX7_coming 6 = .ok (.sipush 240, 3) := by decide +kernel
theorem dX7_coming_9 : decode cX7_coming 9 = .ok (.if_icmp .gt 12, 3) := by decide +kernel
theorem dX7_coming_12 : decode cX7_coming 12 = .ok (.iload_n 2, 1) := by decide +kernel
theorem dX7_coming_13 : decode cX7_coming 13 = .ok (.ifCond .lt 8, 3) := by decide +kernel
theorem dX7_coming_16 : decode cX7_coming 16 = .ok (.iload_n 2, 1) := by decide +kernel
theorem dX7_coming_17 : decode cX7_coming 17 = .ok (.iconst 4, 1) := by decide +kernel
theorem dX7_coming_18 : decode cX7_coming 18 = .ok (.if_icmp .le 13, 3) := by decide +kernel
theorem dX7_coming_21 : decode cX7_coming 21 = .ok (.new 46, 3) := by decide +kernel
theorem dX7_coming_24 : decode cX7_coming 24 = .ok (.dup, 1) := by decide +kernel
theorem dX7_coming_25 : decode cX7_coming 25 = .ok (.ldc 231, 2) := by decide +kernel
theorem dX7_coming_27 : decode cX7_coming 27 = .ok (.invokespecial 50, 3) := by decide +kernel
theorem dX7_coming_30 : decode cX7_coming 30 = .ok (.athrow, 1) := by decide +kernel
theorem dX7_coming_31 : decode cX7_coming 31 = .ok (.aload_n 0, 1) := by decide +kernel
theorem dX7_coming_32 : decode cX7_coming 32 = .ok (.getfield 26, 3) := by decide +kernel
theorem dX7_coming_35 : decode cX7_coming 35 = .ok (.aload_n 0, 1) := by decide +kernel
theorem dX7_coming_36 : decode cX7_coming 36 = .ok (.getfield 23, 3) := by decide +kernel
theorem dX7_coming_39 : decode cX7_coming 39 = .ok (.invokevirtual 81, 3) := by decide +kernel
theorem dX7_coming_42 : decode cX7_coming 42 = .ok (.iconst 0, 1) := by decide +kernel
theorem dX7_coming_43 : decode cX7_coming 43 = .ok (.istore_n 3, 1) := by decide +kernel
theorem dX7_coming_44 : decode cX7_coming 44 = .ok (.iload_n 3, 1) := by decide +kernel
theorem dX7_coming_45 : decode cX7_coming 45 = .ok (.iload_n 1, 1) := by decide +kernel
theorem dX7_coming_46 : decode cX7_coming 46 = .ok (.if_icmp .ge 16, 3) := by decide +kernel
theorem dX7_coming_49 : decode cX7_coming 49 = .ok (.aload_n 0, 1) := by decide +kernel
theorem dX7_coming_50 : decode cX7_coming 50 = .ok (.getfield 26, 3) := by decide +kernel
theorem dX7_coming_53 : decode cX7_coming 53 = .ok (.invokevirtual 228, 3) := by decide +kernel
theorem dX7_coming_56 : decode cX7_coming 56 = .ok (.iinc 3 1, 3) := by decide +kernel
theorem dX7_coming_59 : decode cX7_coming 59 = .ok (.goto (-15), 3) := by decide +kernel
theorem dX7_coming_62 : decode cX7_coming 62 = .ok (.iload_n 2, 1) := by decide +kernel
theorem dX7_coming_63 : decode cX7_coming 63 = .ok (.tableswitch 93 0 3 #[29, 45, 61, 77], 29) := by decide +kernel
theorem dX7_coming_92 : decode cX7_coming 92 = .ok (.aload_n 0, 1) := by decide +kernel
theorem dX7_coming_93 : decode cX7_coming 93 = .ok (.getfield 26, 3) := by decide +kernel
theorem dX7_coming_96 : decode cX7_coming 96 = .ok (.getfield 203, 3) := by decide +kernel
theorem dX7_coming_99 : decode cX7_coming 99 = .ok (.aload_n 0, 1) := by decide +kernel
theorem dX7_coming_100 : decode cX7_coming 100 = .ok (.getfield 23, 3) := by decide +kernel
theorem dX7_coming_103 : decode cX7_coming 103 = .ok (.getfield 203, 3) := by decide +kernel
theorem dX7_coming_106 : decode cX7_coming 106 = .ok (.isub, 1) := by decide +kernel
theorem dX7_coming_107 : decode cX7_coming 107 = .ok (.ireturn, 1) := by decide +kernel
theorem dX7_coming_108 : decode cX7_coming 108 = .ok (.aload_n 0, 1) := by decide +kernel
theorem dX7_coming_109 : decode cX7_coming 109 = .ok (.getfield 26, 3) := by decide +kernel
theorem dX7_coming_112 : decode cX7_coming 112 = .ok (.getfield 233, 3) := by decide +kernel
theorem dX7_coming_115 : decode cX7_coming 115 = .ok (.aload_n 0, 1) := by decide +kernel
theorem dX7_coming_116 : decode cX7_coming 116 = .ok (.getfield 23, 3) := by decide +kernel
theorem dX7_coming_119 : decode cX7_coming 119 = .ok (.getfield 233, 3) := by decide +kernel
theorem dX7_coming_122 : decode cX7_coming 122 = .ok (.isub, 1) := by decide +kernel
theorem dX7_coming_123 : decode cX7_coming 123 = .ok (.ireturn, 1) := by decide +kernel
theorem dX7_coming_124 : decode cX7_coming 124 = .ok (.aload_n 0, 1) := by decide +kernel
theorem dX7_coming_125 : decode cX7_coming 125 = .ok (.getfield 26, 3) := by decide +kernel
theorem dX7_coming_128 : decode cX7_coming 128 = .ok (.getfield 236, 3) := by decide +kernel
theorem dX7_coming_131 : decode cX7_coming 131 = .ok (.aload_n 0, 1) := by decide +kernel
theorem dX7_coming_132 : decode cX7_coming 132 = .ok (.getfield 23, 3) := by decide +kernel
theorem dX7_coming_135 : decode cX7_coming 135 = .ok (.getfield 236, 3) := by decide +kernel
theorem dX7_coming_138 : decode cX7_coming 138 = .ok (.isub, 1) := by decide +kernel
theorem dX7_coming_139 : decode cX7_coming 139 = .ok (.ireturn, 1) := by decide +kernel
theorem dX7_coming_140 : decode cX7_coming 140 = .ok (.aload_n 0, 1) := by decide +kernel
theorem dX7_coming_141 : decode cX7_coming 141 = .ok (.getfield 26, 3) := by decide +kernel
theorem dX7_coming_144 : decode cX7_coming 144 = .ok (.getfield 239, 3) := by decide +kernel
theorem dX7_coming_147 : decode cX7_coming 147 = .ok (.aload_n 0, 1) := by decide +kernel
theorem dX7_coming_148 : decode cX7_coming 148 = .ok (.getfield 23, 3) := by decide +kernel
theorem dX7_coming_151 : decode cX7_coming 151 = .ok (.getfield 239, 3) := by decide +kernel
theorem dX7_coming_154 : decode cX7_coming 154 = .ok (.isub, 1) := by decide +kernel
theorem dX7_coming_155 : decode cX7_coming 155 = .ok (.ireturn, 1) := by decide +kernel
theorem dX7_coming_156 : decode cX7_coming 156 = .ok (.aload_n 0, 1) := by decide +kernel
theorem dX7_coming_157 : decode cX7_coming 157 = .ok (.getfield 26, 3) := by decide +kernel
theorem dX7_coming_160 : decode cX7_coming 160 = .ok (.invokevirtual 242, 3) := by decide +kernel
theorem dX7_coming_163 : decode cX7_coming 163 = .ok (.ireturn, 1) := by decide +kernel
theorem dX7_leastLimit_0 : decode cX7_leastLimit 0 = .ok (.iload_n 1, 1) := by decide +kernel
theorem dX7_leastLimit_1 : decode cX7_leastLimit 1 = .ok (.invokestatic 198, 3) := by decide +kernel
theorem dX7_leastLimit_4 : decode cX7_leastLimit 4 = .ok (.ifCond .ne 13, 3) := by decide +kernel
theorem dX7_leastLimit_7 : decode cX7_leastLimit 7 = .ok (.new 46, 3) := by decide +kernel
theorem dX7_leastLimit_10 : decode cX7_leastLimit 10 = .ok (.dup, 1) := by decide +kernel
theorem dX7_leastLimit_11 : decode cX7_leastLimit 11 = .ok (.ldc 201, 2) := by decide +kernel
theorem dX7_leastLimit_13 : decode cX7_leastLimit 13 = .ok (.invokespecial 50, 3) := by decide +kernel
theorem dX7_leastLimit_16 : decode cX7_leastLimit 16 = .ok (.athrow, 1) := by decide +kernel
theorem dX7_leastLimit_17 : decode cX7_leastLimit 17 = .ok (.iconst 0, 1) := by decide +kernel
theorem dX7_leastLimit_18 : decode cX7_leastLimit 18 = .ok (.istore_n 2, 1) := by decide +kernel
theorem dX7_leastLimit_19 : decode cX7_leastLimit 19 = .ok (.iload_n 2, 1) := by decide +kernel
theorem dX7_leastLimit_20 : decode cX7_leastLimit 20 = .ok (.sipush 9900, 3) := by decide +kernel
theorem dX7_leastLimit_23 : decode cX7_leastLimit 23 = .ok (.if_icmp .gt 20, 3) := by decide +kernel
theorem dX7_leastLimit_26 : decode cX7_leastLimit 26 = .ok (.aload_n 0, 1) := by decide +kernel
theorem dX7_leastLimit_27 : decode cX7_leastLimit 27 = .ok (.iload_n 2, 1) := by decide +kernel
theorem dX7_leastLimit_28 : decode cX7_leastLimit 28 = .ok (.iload_n 1, 1) := by decide +kernel
theorem dX7_leastLimit_29 : decode cX7_leastLimit 29 = .ok (.invokevirtual 245, 3) := by decide +kernel
theorem dX7_leastLimit_32 : decode cX7_leastLimit 32 = .ok (.ifCond .eq 5, 3) := by decide +kernel
theorem dX7_leastLimit_35 : decode cX7_leastLimit 35 = .ok (.iload_n 2, 1) := by decide +kernel
theorem dX7_leastLimit_36 : decode cX7_leastLimit 36 = .ok (.ireturn, 1) := by decide +kernel
theorem dX7_leastLimit_37 : decode cX7_leastLimit 37 = .ok (.iinc 2 100, 3) := by decide +kernel
theorem dX7_leastLimit_40 : decode cX7_leastLimit 40 = .ok (.goto (-21), 3) := by decide +kernel
theorem dX7_leastLimit_43 : decode cX7_leastLimit 43 = .ok (.iconst (-1), 1) := by decide +kernel
theorem dX7_leastLimit_44 : decode cX7_leastLimit 44 = .ok (.ireturn, 1) := by decide +kernel
theorem dX7_isKept_0 : decode cX7_isKept 0 = .ok (.aload_n 0, 1) := by decide +kernel
theorem dX7_isKept_1 : decode cX7_isKept 1 = .ok (.getfield 26, 3) := by decide +kernel
theorem dX7_isKept_4 : decode cX7_isKept 4 = .ok (.aload_n 0, 1) := by decide +kernel
theorem dX7_isKept_5 : decode cX7_isKept 5 = .ok (.getfield 23, 3) := by decide +kernel
theorem dX7_isKept_8 : decode cX7_isKept 8 = .ok (.invokevirtual 81, 3) := by decide +kernel
theorem dX7_isKept_11 : decode cX7_isKept 11 = .ok (.aload_n 0, 1) := by decide +kernel
theorem dX7_isKept_12 : decode cX7_isKept 12 = .ok (.getfield 26, 3) := by decide +kernel
theorem dX7_isKept_15 : decode cX7_isKept 15 = .ok (.iconst 0, 1) := by decide +kernel
theorem dX7_isKept_16 : decode cX7_isKept 16 = .ok (.iload_n 1, 1) := by decide +kernel
theorem dX7_isKept_17 : decode cX7_isKept 17 = .ok (.invokevirtual 124, 3) := by decide +kernel
theorem dX7_isKept_20 : decode cX7_isKept 20 = .ok (.pop, 1) := by decide +kernel
theorem dX7_isKept_21 : decode cX7_isKept 21 = .ok (.iconst 0, 1) := by decide +kernel
theorem dX7_isKept_22 : decode cX7_isKept 22 = .ok (.istore_n 3, 1) := by decide +kernel
theorem dX7_isKept_23 : decode cX7_isKept 23 = .ok (.iload_n 3, 1) := by decide +kernel
theorem dX7_isKept_24 : decode cX7_isKept 24 = .ok (.iload_n 2, 1) := by decide +kernel
theorem dX7_isKept_25 : decode cX7_isKept 25 = .ok (.if_icmp .ge 33, 3) := by decide +kernel
theorem dX7_isKept_28 : decode cX7_isKept 28 = .ok (.aload_n 0, 1) := by decide +kernel
theorem dX7_isKept_29 : decode cX7_isKept 29 = .ok (.getfield 26, 3) := by decide +kernel
theorem dX7_isKept_32 : decode cX7_isKept 32 = .ok (.getfield 233, 3) := by decide +kernel
theorem dX7_isKept_35 : decode cX7_isKept 35 = .ok (.aload_n 0, 1) := by decide +kernel
theorem dX7_isKept_36 : decode cX7_isKept 36 = .ok (.getfield 23, 3) := by decide +kernel
theorem dX7_isKept_39 : decode cX7_isKept 39 = .ok (.getfield 233, 3) := by decide +kernel
theorem dX7_isKept_42 : decode cX7_isKept 42 = .ok (.if_icmp .ne 16, 3) := by decide +kernel
theorem dX7_isKept_45 : decode cX7_isKept 45 = .ok (.aload_n 0, 1) := by decide +kernel
theorem dX7_isKept_46 : decode cX7_isKept 46 = .ok (.getfield 26, 3) := by decide +kernel
theorem dX7_isKept_49 : decode cX7_isKept 49 = .ok (.invokevirtual 228, 3) := by decide +kernel
theorem dX7_isKept_52 : decode cX7_isKept 52 = .ok (.iinc 3 1, 3) := by decide +kernel
theorem dX7_isKept_55 : decode cX7_isKept 55 = .ok (.goto (-32), 3) := by decide +kernel
theorem dX7_isKept_58 : decode cX7_isKept 58 = .ok (.aload_n 0, 1) := by decide +kernel
theorem dX7_isKept_59 : decode cX7_isKept 59 = .ok (.getfield 26, 3) := by decide +kernel
theorem dX7_isKept_62 : decode cX7_isKept 62 = .ok (.getfield 233, 3) := by decide +kernel
theorem dX7_isKept_65 : decode cX7_isKept 65 = .ok (.aload_n 0, 1) := by decide +kernel
theorem dX7_isKept_66 : decode cX7_isKept 66 = .ok (.getfield 23, 3) := by decide +kernel
theorem dX7_isKept_69 : decode cX7_isKept 69 = .ok (.getfield 233, 3) := by decide +kernel
theorem dX7_isKept_72 : decode cX7_isKept 72 = .ok (.if_icmp .ne 7, 3) := by decide +kernel
theorem dX7_isKept_75 : decode cX7_isKept 75 = .ok (.iconst 1, 1) := by decide +kernel
theorem dX7_isKept_76 : decode cX7_isKept 76 = .ok (.goto 4, 3) := by decide +kernel
theorem dX7_isKept_79 : decode cX7_isKept 79 = .ok (.iconst 0, 1) := by decide +kernel
theorem dX7_isKept_80 : decode cX7_isKept 80 = .ok (.ireturn, 1) := by decide +kernel
theorem dX7_bestShut_0 : decode cX7_bestShut 0 = .ok (.iconst (-1), 1) := by decide +kernel
theorem dX7_bestShut_1 : decode cX7_bestShut 1 = .ok (.istore_n 1, 1) := by decide +kernel
theorem dX7_bestShut_2 : decode cX7_bestShut 2 = .ok (.iconst 0, 1) := by decide +kernel
theorem dX7_bestShut_3 : decode cX7_bestShut 3 = .ok (.istore_n 2, 1) := by decide +kernel
theorem dX7_bestShut_4 : decode cX7_bestShut 4 = .ok (.iconst 0, 1) := by decide +kernel
theorem dX7_bestShut_5 : decode cX7_bestShut 5 = .ok (.istore_n 3, 1) := by decide +kernel
theorem dX7_bestShut_6 : decode cX7_bestShut 6 = .ok (.iload_n 3, 1) := by decide +kernel
theorem dX7_bestShut_7 : decode cX7_bestShut 7 = .ok (.bipush 6, 2) := by decide +kernel
theorem dX7_bestShut_9 : decode cX7_bestShut 9 = .ok (.if_icmp .ge 58, 3) := by decide +kernel
theorem dX7_bestShut_12 : decode cX7_bestShut 12 = .ok (.aload_n 0, 1) := by decide +kernel
theorem dX7_bestShut_13 : decode cX7_bestShut 13 = .ok (.getfield 23, 3) := by decide +kernel
theorem dX7_bestShut_16 : decode cX7_bestShut 16 = .ok (.iload_n 3, 1) := by decide +kernel
theorem dX7_bestShut_17 : decode cX7_bestShut 17 = .ok (.invokevirtual 133, 3) := by decide +kernel
theorem dX7_bestShut_20 : decode cX7_bestShut 20 = .ok (.astore 4, 2) := by decide +kernel
theorem dX7_bestShut_22 : decode cX7_bestShut 22 = .ok (.aload 4, 2) := by decide +kernel
theorem dX7_bestShut_24 : decode cX7_bestShut 24 = .ok (.ifnull 37, 3) := by decide +kernel
theorem dX7_bestShut_27 : decode cX7_bestShut 27 = .ok (.aload 4, 2) := by decide +kernel
theorem dX7_bestShut_29 : decode cX7_bestShut 29 = .ok (.getfield 248, 3) := by decide +kernel
theorem dX7_bestShut_32 : decode cX7_bestShut 32 = .ok (.ifCond .ne 6, 3) := by decide +kernel
theorem dX7_bestShut_35 : decode cX7_bestShut 35 = .ok (.goto 26, 3) := by decide +kernel
theorem dX7_bestShut_38 : decode cX7_bestShut 38 = .ok (.aload_n 0, 1) := by decide +kernel
theorem dX7_bestShut_39 : decode cX7_bestShut 39 = .ok (.iload_n 3, 1) := by decide +kernel
theorem dX7_bestShut_40 : decode cX7_bestShut 40 = .ok (.invokevirtual 252, 3) := by decide +kernel
theorem dX7_bestShut_43 : decode cX7_bestShut 43 = .ok (.istore 5, 2) := by decide +kernel
theorem dX7_bestShut_45 : decode cX7_bestShut 45 = .ok (.iload_n 1, 1) := by decide +kernel
theorem dX7_bestShut_46 : decode cX7_bestShut 46 = .ok (.iconst (-1), 1) := by decide +kernel
theorem dX7_bestShut_47 : decode cX7_bestShut 47 = .ok (.if_icmp .eq 9, 3) := by decide +kernel
theorem dX7_bestShut_50 : decode cX7_bestShut 50 = .ok (.iload 5, 2) := by decide +kernel
theorem dX7_bestShut_52 : decode cX7_bestShut 52 = .ok (.iload_n 2, 1) := by decide +kernel
theorem dX7_bestShut_53 : decode cX7_bestShut 53 = .ok (.if_icmp .ge 8, 3) := by decide +kernel
theorem dX7_bestShut_56 : decode cX7_bestShut 56 = .ok (.iload_n 3, 1) := by decide +kernel
theorem dX7_bestShut_57 : decode cX7_bestShut 57 = .ok (.istore_n 1, 1) := by decide +kernel
theorem dX7_bestShut_58 : decode cX7_bestShut 58 = .ok (.iload 5, 2) := by decide +kernel
theorem dX7_bestShut_60 : decode cX7_bestShut 60 = .ok (.istore_n 2, 1) := by decide +kernel
theorem dX7_bestShut_61 : decode cX7_bestShut 61 = .ok (.iinc 3 1, 3) := by decide +kernel
theorem dX7_bestShut_64 : decode cX7_bestShut 64 = .ok (.goto (-58), 3) := by decide +kernel
theorem dX7_bestShut_67 : decode cX7_bestShut 67 = .ok (.iload_n 1, 1) := by decide +kernel
theorem dX7_bestShut_68 : decode cX7_bestShut 68 = .ok (.ireturn, 1) := by decide +kernel
theorem dX7_warmthIfShut_0 : decode cX7_warmthIfShut 0 = .ok (.aload_n 0, 1) := by decide +kernel
theorem dX7_warmthIfShut_1 : decode cX7_warmthIfShut 1 = .ok (.getfield 26, 3) := by decide +kernel
theorem dX7_warmthIfShut_4 : decode cX7_warmthIfShut 4 = .ok (.aload_n 0, 1) := by decide +kernel
theorem dX7_warmthIfShut_5 : decode cX7_warmthIfShut 5 = .ok (.getfield 23, 3) := by decide +kernel
theorem dX7_warmthIfShut_8 : decode cX7_warmthIfShut 8 = .ok (.invokevirtual 81, 3) := by decide +kernel
theorem dX7_warmthIfShut_11 : decode cX7_warmthIfShut 11 = .ok (.aload_n 0, 1) := by decide +kernel
theorem dX7_warmthIfShut_12 : decode cX7_warmthIfShut 12 = .ok (.getfield 26, 3) := by decide +kernel
theorem dX7_warmthIfShut_15 : decode cX7_warmthIfShut 15 = .ok (.iload_n 1, 1) := by decide +kernel
theorem dX7_warmthIfShut_16 : decode cX7_warmthIfShut 16 = .ok (.iconst 0, 1) := by decide +kernel
theorem dX7_warmthIfShut_17 : decode cX7_warmthIfShut 17 = .ok (.invokevirtual 116, 3) := by decide +kernel
theorem dX7_warmthIfShut_20 : decode cX7_warmthIfShut 20 = .ok (.pop, 1) := by decide +kernel
theorem dX7_warmthIfShut_21 : decode cX7_warmthIfShut 21 = .ok (.aload_n 0, 1) := by decide +kernel
theorem dX7_warmthIfShut_22 : decode cX7_warmthIfShut 22 = .ok (.getfield 26, 3) := by decide +kernel
theorem dX7_warmthIfShut_25 : decode cX7_warmthIfShut 25 = .ok (.bipush 15, 2) := by decide +kernel
theorem dX7_warmthIfShut_27 : decode cX7_warmthIfShut 27 = .ok (.invokevirtual 120, 3) := by decide +kernel
theorem dX7_warmthIfShut_30 : decode cX7_warmthIfShut 30 = .ok (.pop, 1) := by decide +kernel
theorem dX7_warmthIfShut_31 : decode cX7_warmthIfShut 31 = .ok (.aload_n 0, 1) := by decide +kernel
theorem dX7_warmthIfShut_32 : decode cX7_warmthIfShut 32 = .ok (.getfield 26, 3) := by decide +kernel
theorem dX7_warmthIfShut_35 : decode cX7_warmthIfShut 35 = .ok (.iload_n 1, 1) := by decide +kernel
theorem dX7_warmthIfShut_36 : decode cX7_warmthIfShut 36 = .ok (.invokevirtual 133, 3) := by decide +kernel
theorem dX7_warmthIfShut_39 : decode cX7_warmthIfShut 39 = .ok (.astore_n 2, 1) := by decide +kernel
theorem dX7_warmthIfShut_40 : decode cX7_warmthIfShut 40 = .ok (.aload_n 2, 1) := by decide +kernel
theorem dX7_warmthIfShut_41 : decode cX7_warmthIfShut 41 = .ok (.ifnonnull 7, 3) := by decide +kernel
theorem dX7_warmthIfShut_44 : decode cX7_warmthIfShut 44 = .ok (.iconst 0, 1) := by decide +kernel
theorem dX7_warmthIfShut_45 : decode cX7_warmthIfShut 45 = .ok (.goto 7, 3) := by decide +kernel
theorem dX7_warmthIfShut_48 : decode cX7_warmthIfShut 48 = .ok (.aload_n 2, 1) := by decide +kernel
theorem dX7_warmthIfShut_49 : decode cX7_warmthIfShut 49 = .ok (.invokevirtual 255, 3) := by decide +kernel
theorem dX7_warmthIfShut_52 : decode cX7_warmthIfShut 52 = .ok (.ireturn, 1) := by decide +kernel
theorem dX7_runScript_0 : decode cX7_runScript 0 = .ok (.iload_n 1, 1) := by decide +kernel
theorem dX7_runScript_1 : decode cX7_runScript 1 = .ok (.iconst 1, 1) := by decide +kernel
theorem dX7_runScript_2 : decode cX7_runScript 2 = .ok (.if_icmp .lt 24, 3) := by decide +kernel
theorem dX7_runScript_5 : decode cX7_runScript 5 = .ok (.iload_n 1, 1) := by decide +kernel
theorem dX7_runScript_6 : decode cX7_runScript 6 = .ok (.iconst 3, 1) := by decide +kernel
theorem dX7_runScript_7 : decode cX7_runScript 7 = .ok (.if_icmp .gt 19, 3) := by decide +kernel
theorem dX7_runScript_10 : decode cX7_runScript 10 = .ok (.lload_n 2, 1) := by decide +kernel
theorem dX7_runScript_11 : decode cX7_runScript 11 = .ok (.lconst 0, 1) := by decide +kernel
theorem dX7_runScript_12 : decode cX7_runScript 12 = .ok (.lcmp, 1) := by decide +kernel
theorem dX7_runScript_13 : decode cX7_runScript 13 = .ok (.ifCond .lt 13, 3) := by decide +kernel
theorem dX7_runScript_16 : decode cX7_runScript 16 = .ok (.lload_n 2, 1) := by decide +kernel
theorem dX7_runScript_17 : decode cX7_runScript 17 = .ok (.iload_n 1, 1) := by decide +kernel
theorem dX7_runScript_18 : decode cX7_runScript 18 = .ok (.invokestatic 258, 3) := by decide +kernel
theorem dX7_runScript_21 : decode cX7_runScript 21 = .ok (.lconst 0, 1) := by decide +kernel
theorem dX7_runScript_22 : decode cX7_runScript 22 = .ok (.lcmp, 1) := by decide +kernel
theorem dX7_runScript_23 : decode cX7_runScript 23 = .ok (.ifCond .eq 14, 3) := by decide +kernel
theorem dX7_runScript_26 : decode cX7_runScript 26 = .ok (.new 46, 3) := by decide +kernel
theorem dX7_runScript_29 : decode cX7_runScript 29 = .ok (.dup, 1) := by decide +kernel
theorem dX7_runScript_30 : decode cX7_runScript 30 = .ok (.ldc_w 262, 3) := by decide +kernel
theorem dX7_runScript_33 : decode cX7_runScript 33 = .ok (.invokespecial 50, 3) := by decide +kernel
theorem dX7_runScript_36 : decode cX7_runScript 36 = .ok (.athrow, 1) := by decide +kernel
theorem dX7_runScript_37 : decode cX7_runScript 37 = .ok (.aload_n 0, 1) := by decide +kernel
theorem dX7_runScript_38 : decode cX7_runScript 38 = .ok (.getfield 26, 3) := by decide +kernel
theorem dX7_runScript_41 : decode cX7_runScript 41 = .ok (.aload_n 0, 1) := by decide +kernel
theorem dX7_runScript_42 : decode cX7_runScript 42 = .ok (.getfield 23, 3) := by decide +kernel
theorem dX7_runScript_45 : decode cX7_runScript 45 = .ok (.invokevirtual 81, 3) := by decide +kernel
theorem dX7_runScript_48 : decode cX7_runScript 48 = .ok (.iconst 0, 1) := by decide +kernel
theorem dX7_runScript_49 : decode cX7_runScript 49 = .ok (.istore 4, 2) := by decide +kernel
theorem dX7_runScript_51 : decode cX7_runScript 51 = .ok (.iload 4, 2) := by decide +kernel
theorem dX7_runScript_53 : decode cX7_runScript 53 = .ok (.iload_n 1, 1) := by decide +kernel
theorem dX7_runScript_54 : decode cX7_runScript 54 = .ok (.if_icmp .ge 34, 3) := by decide +kernel
theorem dX7_runScript_57 : decode cX7_runScript 57 = .ok (.aload_n 0, 1) := by decide +kernel
theorem dX7_runScript_58 : decode cX7_runScript 58 = .ok (.lload_n 2, 1) := by decide +kernel
theorem dX7_runScript_59 : decode cX7_runScript 59 = .ok (.iload_n 1, 1) := by decide +kernel
theorem dX7_runScript_60 : decode cX7_runScript 60 = .ok (.iconst 1, 1) := by decide +kernel
theorem dX7_runScript_61 : decode cX7_runScript 61 = .ok (.isub, 1) := by decide +kernel
theorem dX7_runScript_62 : decode cX7_runScript 62 = .ok (.iload 4, 2) := by decide +kernel
theorem dX7_runScript_64 : decode cX7_runScript 64 = .ok (.isub, 1) := by decide +kernel
theorem dX7_runScript_65 : decode cX7_runScript 65 = .ok (.invokestatic 258, 3) := by decide +kernel
theorem dX7_runScript_68 : decode cX7_runScript 68 = .ok (.ldc2_w 264, 3) := by decide +kernel
theorem dX7_runScript_71 : decode cX7_runScript 71 = .ok (.lrem, 1) := by decide +kernel
theorem dX7_runScript_72 : decode cX7_runScript 72 = .ok (.l2i, 1) := by decide +kernel
theorem dX7_runScript_73 : decode cX7_runScript 73 = .ok (.invokevirtual 266, 3) := by decide +kernel
theorem dX7_runScript_76 : decode cX7_runScript 76 = .ok (.ifCond .ne 6, 3) := by decide +kernel
theorem dX7_runScript_79 : decode cX7_runScript 79 = .ok (.iload 4, 2) := by decide +kernel
theorem dX7_runScript_81 : decode cX7_runScript 81 = .ok (.ireturn, 1) := by decide +kernel
theorem dX7_runScript_82 : decode cX7_runScript 82 = .ok (.iinc 4 1, 3) := by decide +kernel
theorem dX7_runScript_85 : decode cX7_runScript 85 = .ok (.goto (-34), 3) := by decide +kernel
theorem dX7_runScript_88 : decode cX7_runScript 88 = .ok (.iconst (-1), 1) := by decide +kernel
theorem dX7_runScript_89 : decode cX7_runScript 89 = .ok (.ireturn, 1) := by decide +kernel
theorem dX7_withoutGroups_0 : decode cX7_withoutGroups 0 = .ok (.lload_n 0, 1) := by decide +kernel
theorem dX7_withoutGroups_1 : decode cX7_withoutGroups 1 = .ok (.lstore_n 3, 1) := by decide +kernel
theorem dX7_withoutGroups_2 : decode cX7_withoutGroups 2 = .ok (.iconst 0, 1) := by decide +kernel
theorem dX7_withoutGroups_3 : decode cX7_withoutGroups 3 = .ok (.istore 5, 2) := by decide +kernel
theorem dX7_withoutGroups_5 : decode cX7_withoutGroups 5 = .ok (.iload 5, 2) := by decide +kernel
theorem dX7_withoutGroups_7 : decode cX7_withoutGroups 7 = .ok (.iload_n 2, 1) := by decide +kernel
theorem dX7_withoutGroups_8 : decode cX7_withoutGroups 8 = .ok (.if_icmp .ge 15, 3) := by decide +kernel
theorem dX7_withoutGroups_11 : decode cX7_withoutGroups 11 = .ok (.lload_n 3, 1) := by decide +kernel
theorem dX7_withoutGroups_12 : decode cX7_withoutGroups 12 = .ok (.ldc2_w 264, 3) := by decide +kernel
theorem dX7_withoutGroups_15 : decode cX7_withoutGroups 15 = .ok (.ldiv, 1) := by decide +kernel
theorem dX7_withoutGroups_16 : decode cX7_withoutGroups 16 = .ok (.lstore_n 3, 1) := by decide +kernel
theorem dX7_withoutGroups_17 : decode cX7_withoutGroups 17 = .ok (.iinc 5 1, 3) := by decide +kernel
theorem dX7_withoutGroups_20 : decode cX7_withoutGroups 20 = .ok (.goto (-15), 3) := by decide +kernel
theorem dX7_withoutGroups_23 : decode cX7_withoutGroups 23 = .ok (.lload_n 3, 1) := by decide +kernel
theorem dX7_withoutGroups_24 : decode cX7_withoutGroups 24 = .ok (.lreturn, 1) := by decide +kernel
theorem dX7_doGroup_0 : decode cX7_doGroup 0 = .ok (.iload_n 1, 1) := by decide +kernel
theorem dX7_doGroup_1 : decode cX7_doGroup 1 = .ok (.sipush 1000, 3) := by decide +kernel
theorem dX7_doGroup_4 : decode cX7_doGroup 4 = .ok (.idiv, 1) := by decide +kernel
theorem dX7_doGroup_5 : decode cX7_doGroup 5 = .ok (.bipush 10, 2) := by decide +kernel
theorem dX7_doGroup_7 : decode cX7_doGroup 7 = .ok (.irem, 1) := by decide +kernel
theorem dX7_doGroup_8 : decode cX7_doGroup 8 = .ok (.istore_n 2, 1) := by decide +kernel
theorem dX7_doGroup_9 : decode cX7_doGroup 9 = .ok (.iload_n 1, 1) := by decide +kernel
theorem dX7_doGroup_10 : decode cX7_doGroup 10 = .ok (.sipush 1000, 3) := by decide +kernel
theorem dX7_doGroup_13 : decode cX7_doGroup 13 = .ok (.irem, 1) := by decide +kernel
theorem dX7_doGroup_14 : decode cX7_doGroup 14 = .ok (.istore_n 3, 1) := by decide +kernel
theorem dX7_doGroup_15 : decode cX7_doGroup 15 = .ok (.iload_n 1, 1) := by decide +kernel
theorem dX7_doGroup_16 : decode cX7_doGroup 16 = .ok (.sipush 10000, 3) := by decide +kernel
theorem dX7_doGroup_19 : decode cX7_doGroup 19 = .ok (.idiv, 1) := by decide +kernel
theorem dX7_doGroup_20 : decode cX7_doGroup 20 = .ok (.tableswitch 216 1 8 #[48, 86, 107, 133, 161, 216, 216, 189], 48) := by decide +kernel
theorem dX7_doGroup_68 : decode cX7_doGroup 68 = .ok (.iload_n 3, 1) := by decide +kernel
theorem dX7_doGroup_69 : decode cX7_doGroup 69 = .ok (.ifCond .eq 9, 3) := by decide +kernel
theorem dX7_doGroup_72 : decode cX7_doGroup 72 = .ok (.iload_n 3, 1) := by decide +kernel
theorem dX7_doGroup_73 : decode cX7_doGroup 73 = .ok (.bipush 100, 2) := by decide +kernel
theorem dX7_doGroup_75 : decode cX7_doGroup 75 = .ok (.if_icmp .ne 29, 3) := by decide +kernel
theorem dX7_doGroup_78 : decode cX7_doGroup 78 = .ok (.aload_n 0, 1) := by decide +kernel
theorem dX7_doGroup_79 : decode cX7_doGroup 79 = .ok (.getfield 26, 3) := by decide +kernel
theorem dX7_doGroup_82 : decode cX7_doGroup 82 = .ok (.iload_n 2, 1) := by decide +kernel
theorem dX7_doGroup_83 : decode cX7_doGroup 83 = .ok (.iload_n 3, 1) := by decide +kernel
theorem dX7_doGroup_84 : decode cX7_doGroup 84 = .ok (.bipush 100, 2) := by decide +kernel
theorem dX7_doGroup_86 : decode cX7_doGroup 86 = .ok (.if_icmp .ne 7, 3) := by decide +kernel
theorem dX7_doGroup_89 : decode cX7_doGroup 89 = .ok (.iconst 1, 1) := by decide +kernel
theorem dX7_doGroup_90 : decode cX7_doGroup 90 = .ok (.goto 4, 3) := by decide +kernel
theorem dX7_doGroup_93 : decode cX7_doGroup 93 = .ok (.iconst 0, 1) := by decide +kernel
theorem dX7_doGroup_94 : decode cX7_doGroup 94 = .ok (.invokevirtual 116, 3) := by decide +kernel
theorem dX7_doGroup_97 : decode cX7_doGroup 97 = .ok (.ifCond .eq 7, 3) := by decide +kernel
theorem dX7_doGroup_100 : decode cX7_doGroup 100 = .ok (.iconst 1, 1) := by decide +kernel
theorem dX7_doGroup_101 : decode cX7_doGroup 101 = .ok (.goto 4, 3) := by decide +kernel
theorem dX7_doGroup_104 : decode cX7_doGroup 104 = .ok (.iconst 0, 1) := by decide +kernel
theorem dX7_doGroup_105 : decode cX7_doGroup 105 = .ok (.ireturn, 1) := by decide +kernel
theorem dX7_doGroup_106 : decode cX7_doGroup 106 = .ok (.iload_n 2, 1) := by decide +kernel
theorem dX7_doGroup_107 : decode cX7_doGroup 107 = .ok (.ifCond .ne 18, 3) := by decide +kernel
theorem dX7_doGroup_110 : decode cX7_doGroup 110 = .ok (.aload_n 0, 1) := by decide +kernel
theorem dX7_doGroup_111 : decode cX7_doGroup 111 = .ok (.getfield 26, 3) := by decide +kernel
theorem dX7_doGroup_114 : decode cX7_doGroup 114 = .ok (.iload_n 3, 1) := by decide +kernel
theorem dX7_doGroup_115 : decode cX7_doGroup 115 = .ok (.invokevirtual 120, 3) := by decide +kernel
theorem dX7_doGroup_118 : decode cX7_doGroup 118 = .ok (.ifCond .eq 7, 3) := by decide +kernel
theorem dX7_doGroup_121 : decode cX7_doGroup 121 = .ok (.iconst 1, 1) := by decide +kernel
theorem dX7_doGroup_122 : decode cX7_doGroup 122 = .ok (.goto 4, 3) := by decide +kernel
theorem dX7_doGroup_125 : decode cX7_doGroup 125 = .ok (.iconst 0, 1) := by decide +kernel
theorem dX7_doGroup_126 : decode cX7_doGroup 126 = .ok (.ireturn, 1) := by decide +kernel
theorem dX7_doGroup_127 : decode cX7_doGroup 127 = .ok (.iload_n 2, 1) := by decide +kernel
theorem dX7_doGroup_128 : decode cX7_doGroup 128 = .ok (.ifCond .ne 23, 3) := by decide +kernel
theorem dX7_doGroup_131 : decode cX7_doGroup 131 = .ok (.iload_n 3, 1) := by decide +kernel
theorem dX7_doGroup_132 : decode cX7_doGroup 132 = .ok (.ifCond .ne 19, 3) := by decide +kernel
theorem dX7_doGroup_135 : decode cX7_doGroup 135 = .ok (.aload_n 0, 1) := by decide +kernel
theorem dX7_doGroup_136 : decode cX7_doGroup 136 = .ok (.getfield 26, 3) := by decide +kernel
theorem dX7_doGroup_139 : decode cX7_doGroup 139 = .ok (.bipush 15, 2) := by decide +kernel
theorem dX7_doGroup_141 : decode cX7_doGroup 141 = .ok (.invokevirtual 120, 3) := by decide +kernel
theorem dX7_doGroup_144 : decode cX7_doGroup 144 = .ok (.ifCond .eq 7, 3) := by decide +kernel
theorem dX7_doGroup_147 : decode cX7_doGroup 147 = .ok (.iconst 1, 1) := by decide +kernel
theorem dX7_doGroup_148 : decode cX7_doGroup 148 = .ok (.goto 4, 3) := by decide +kernel
theorem dX7_doGroup_151 : decode cX7_doGroup 151 = .ok (.iconst 0, 1) := by decide +kernel
theorem dX7_doGroup_152 : decode cX7_doGroup 152 = .ok (.ireturn, 1) := by decide +kernel
theorem dX7_doGroup_153 : decode cX7_doGroup 153 = .ok (.iload_n 3, 1) := by decide +kernel
theorem dX7_doGroup_154 : decode cX7_doGroup 154 = .ok (.bipush 10, 2) := by decide +kernel
theorem dX7_doGroup_156 : decode cX7_doGroup 156 = .ok (.irem, 1) := by decide +kernel
theorem dX7_doGroup_157 : decode cX7_doGroup 157 = .ok (.ifCond .ne 22, 3) := by decide +kernel
theorem dX7_doGroup_160 : decode cX7_doGroup 160 = .ok (.aload_n 0, 1) := by decide +kernel
theorem dX7_doGroup_161 : decode cX7_doGroup 161 = .ok (.getfield 26, 3) := by decide +kernel
theorem dX7_doGroup_164 : decode cX7_doGroup 164 = .ok (.iload_n 2, 1) := by decide +kernel
theorem dX7_doGroup_165 : decode cX7_doGroup 165 = .ok (.iload_n 3, 1) := by decide +kernel
theorem dX7_doGroup_166 : decode cX7_doGroup 166 = .ok (.bipush 10, 2) := by decide +kernel
theorem dX7_doGroup_168 : decode cX7_doGroup 168 = .ok (.idiv, 1) := by decide +kernel
theorem dX7_doGroup_169 : decode cX7_doGroup 169 = .ok (.invokevirtual 124, 3) := by decide +kernel
theorem dX7_doGroup_172 : decode cX7_doGroup 172 = .ok (.ifCond .eq 7, 3) := by decide +kernel
theorem dX7_doGroup_175 : decode cX7_doGroup 175 = .ok (.iconst 1, 1) := by decide +kernel
theorem dX7_doGroup_176 : decode cX7_doGroup 176 = .ok (.goto 4, 3) := by decide +kernel
theorem dX7_doGroup_179 : decode cX7_doGroup 179 = .ok (.iconst 0, 1) := by decide +kernel
theorem dX7_doGroup_180 : decode cX7_doGroup 180 = .ok (.ireturn, 1) := by decide +kernel
theorem dX7_doGroup_181 : decode cX7_doGroup 181 = .ok (.iload_n 3, 1) := by decide +kernel
theorem dX7_doGroup_182 : decode cX7_doGroup 182 = .ok (.bipush 10, 2) := by decide +kernel
theorem dX7_doGroup_184 : decode cX7_doGroup 184 = .ok (.irem, 1) := by decide +kernel
theorem dX7_doGroup_185 : decode cX7_doGroup 185 = .ok (.ifCond .ne 22, 3) := by decide +kernel
theorem dX7_doGroup_188 : decode cX7_doGroup 188 = .ok (.aload_n 0, 1) := by decide +kernel
theorem dX7_doGroup_189 : decode cX7_doGroup 189 = .ok (.getfield 26, 3) := by decide +kernel
theorem dX7_doGroup_192 : decode cX7_doGroup 192 = .ok (.iload_n 2, 1) := by decide +kernel
theorem dX7_doGroup_193 : decode cX7_doGroup 193 = .ok (.iload_n 3, 1) := by decide +kernel
theorem dX7_doGroup_194 : decode cX7_doGroup 194 = .ok (.bipush 10, 2) := by decide +kernel
theorem dX7_doGroup_196 : decode cX7_doGroup 196 = .ok (.idiv, 1) := by decide +kernel
theorem dX7_doGroup_197 : decode cX7_doGroup 197 = .ok (.invokevirtual 195, 3) := by decide +kernel
theorem dX7_doGroup_200 : decode cX7_doGroup 200 = .ok (.ifCond .eq 7, 3) := by decide +kernel
theorem dX7_doGroup_203 : decode cX7_doGroup 203 = .ok (.iconst 1, 1) := by decide +kernel
theorem dX7_doGroup_204 : decode cX7_doGroup 204 = .ok (.goto 4, 3) := by decide +kernel
theorem dX7_doGroup_207 : decode cX7_doGroup 207 = .ok (.iconst 0, 1) := by decide +kernel
theorem dX7_doGroup_208 : decode cX7_doGroup 208 = .ok (.ireturn, 1) := by decide +kernel
theorem dX7_doGroup_209 : decode cX7_doGroup 209 = .ok (.iload_n 2, 1) := by decide +kernel
theorem dX7_doGroup_210 : decode cX7_doGroup 210 = .ok (.ifCond .ne 24, 3) := by decide +kernel
theorem dX7_doGroup_213 : decode cX7_doGroup 213 = .ok (.iload_n 3, 1) := by decide +kernel
theorem dX7_doGroup_214 : decode cX7_doGroup 214 = .ok (.bipush 100, 2) := by decide +kernel
theorem dX7_doGroup_216 : decode cX7_doGroup 216 = .ok (.if_icmp .ge 18, 3) := by decide +kernel
theorem dX7_doGroup_219 : decode cX7_doGroup 219 = .ok (.aload_n 0, 1) := by decide +kernel
theorem dX7_doGroup_220 : decode cX7_doGroup 220 = .ok (.getfield 26, 3) := by decide +kernel
theorem dX7_doGroup_223 : decode cX7_doGroup 223 = .ok (.getfield 233, 3) := by decide +kernel
theorem dX7_doGroup_226 : decode cX7_doGroup 226 = .ok (.iload_n 3, 1) := by decide +kernel
theorem dX7_doGroup_227 : decode cX7_doGroup 227 = .ok (.if_icmp .gt 7, 3) := by decide +kernel
theorem dX7_doGroup_230 : decode cX7_doGroup 230 = .ok (.iconst 1, 1) := by decide +kernel
theorem dX7_doGroup_231 : decode cX7_doGroup 231 = .ok (.goto 4, 3) := by decide +kernel
theorem dX7_doGroup_234 : decode cX7_doGroup 234 = .ok (.iconst 0, 1) := by decide +kernel
theorem dX7_doGroup_235 : decode cX7_doGroup 235 = .ok (.ireturn, 1) := by decide +kernel
theorem dX7_doGroup_236 : decode cX7_doGroup 236 = .ok (.aload_n 0, 1) := by decide +kernel
theorem dX7_doGroup_237 : decode cX7_doGroup 237 = .ok (.iload_n 1, 1) := by decide +kernel
theorem dX7_doGroup_238 : decode cX7_doGroup 238 = .ok (.sipush 10000, 3) := by decide +kernel
theorem dX7_doGroup_241 : decode cX7_doGroup 241 = .ok (.idiv, 1) := by decide +kernel
theorem dX7_doGroup_242 : decode cX7_doGroup 242 = .ok (.aload_n 0, 1) := by decide +kernel
theorem dX7_doGroup_243 : decode cX7_doGroup 243 = .ok (.getfield 26, 3) := by decide +kernel
theorem dX7_doGroup_246 : decode cX7_doGroup 246 = .ok (.iload_n 2, 1) := by decide +kernel
theorem dX7_doGroup_247 : decode cX7_doGroup 247 = .ok (.invokevirtual 133, 3) := by decide +kernel
theorem dX7_doGroup_250 : decode cX7_doGroup 250 = .ok (.iload_n 3, 1) := by decide +kernel
theorem dX7_doGroup_251 : decode cX7_doGroup 251 = .ok (.invokevirtual 269, 3) := by decide +kernel
theorem dX7_doGroup_254 : decode cX7_doGroup 254 = .ok (.ireturn, 1) := by decide +kernel
theorem dX7_isSo_0 : decode cX7_isSo 0 = .ok (.aload_n 2, 1) := by decide +kernel
theorem dX7_isSo_1 : decode cX7_isSo 1 = .ok (.ifnonnull 5, 3) := by decide +kernel
theorem dX7_isSo_4 : decode cX7_isSo 4 = .ok (.iconst 0, 1) := by decide +kernel
theorem dX7_isSo_5 : decode cX7_isSo 5 = .ok (.ireturn, 1) := by decide +kernel
theorem dX7_isSo_6 : decode cX7_isSo 6 = .ok (.iload_n 1, 1) := by decide +kernel
theorem dX7_isSo_7 : decode cX7_isSo 7 = .ok (.tableswitch 97 6 9 #[29, 53, 97, 75], 29) := by decide +kernel
theorem dX7_isSo_36 : decode cX7_isSo 36 = .ok (.iload_n 3, 1) := by decide +kernel
theorem dX7_isSo_37 : decode cX7_isSo 37 = .ok (.bipush 10, 2) := by decide +kernel
theorem dX7_isSo_39 : decode cX7_isSo 39 = .ok (.irem, 1) := by decide +kernel
theorem dX7_isSo_40 : decode cX7_isSo 40 = .ok (.ifCond .ne 18, 3) := by decide +kernel
theorem dX7_isSo_43 : decode cX7_isSo 43 = .ok (.aload_n 2, 1) := by decide +kernel
theorem dX7_isSo_44 : decode cX7_isSo 44 = .ok (.getfield 273, 3) := by decide +kernel
theorem dX7_isSo_47 : decode cX7_isSo 47 = .ok (.iload_n 3, 1) := by decide +kernel
theorem dX7_isSo_48 : decode cX7_isSo 48 = .ok (.bipush 10, 2) := by decide +kernel
theorem dX7_isSo_50 : decode cX7_isSo 50 = .ok (.idiv, 1) := by decide +kernel
theorem dX7_isSo_51 : decode cX7_isSo 51 = .ok (.if_icmp .gt 7, 3) := by decide +kernel
theorem dX7_isSo_54 : decode cX7_isSo 54 = .ok (.iconst 1, 1) := by decide +kernel
theorem dX7_isSo_55 : decode cX7_isSo 55 = .ok (.goto 4, 3) := by decide +kernel
theorem dX7_isSo_58 : decode cX7_isSo 58 = .ok (.iconst 0, 1) := by decide +kernel
theorem dX7_isSo_59 : decode cX7_isSo 59 = .ok (.ireturn, 1) := by decide +kernel
theorem dX7_isSo_60 : decode cX7_isSo 60 = .ok (.aload_n 0, 1) := by decide +kernel
theorem dX7_isSo_61 : decode cX7_isSo 61 = .ok (.getfield 26, 3) := by decide +kernel
theorem dX7_isSo_64 : decode cX7_isSo 64 = .ok (.invokevirtual 149, 3) := by decide +kernel
theorem dX7_isSo_67 : decode cX7_isSo 67 = .ok (.pop, 1) := by decide +kernel
theorem dX7_isSo_68 : decode cX7_isSo 68 = .ok (.aload_n 2, 1) := by decide +kernel
theorem dX7_isSo_69 : decode cX7_isSo 69 = .ok (.getfield 152, 3) := by decide +kernel
theorem dX7_isSo_72 : decode cX7_isSo 72 = .ok (.iload_n 3, 1) := by decide +kernel
theorem dX7_isSo_73 : decode cX7_isSo 73 = .ok (.if_icmp .ne 7, 3) := by decide +kernel
theorem dX7_isSo_76 : decode cX7_isSo 76 = .ok (.iconst 1, 1) := by decide +kernel
theorem dX7_isSo_77 : decode cX7_isSo 77 = .ok (.goto 4, 3) := by decide +kernel
theorem dX7_isSo_80 : decode cX7_isSo 80 = .ok (.iconst 0, 1) := by decide +kernel
theorem dX7_isSo_81 : decode cX7_isSo 81 = .ok (.ireturn, 1) := by decide +kernel
theorem dX7_isSo_82 : decode cX7_isSo 82 = .ok (.iload_n 3, 1) := by decide +kernel
theorem dX7_isSo_83 : decode cX7_isSo 83 = .ok (.aload_n 2, 1) := by decide +kernel
theorem dX7_isSo_84 : decode cX7_isSo 84 = .ok (.invokevirtual 225, 3) := by decide +kernel
theorem dX7_isSo_87 : decode cX7_isSo 87 = .ok (.ifCond .eq 7, 3) := by decide +kernel
theorem dX7_isSo_90 : decode cX7_isSo 90 = .ok (.iconst 1, 1) := by decide +kernel
theorem dX7_isSo_91 : decode cX7_isSo 91 = .ok (.goto 4, 3) := by decide +kernel
theorem dX7_isSo_94 : decode cX7_isSo 94 = .ok (.iconst 0, 1) := by decide +kernel
theorem dX7_isSo_95 : decode cX7_isSo 95 = .ok (.if_icmp .ne 7, 3) := by decide +kernel
theorem dX7_isSo_98 : decode cX7_isSo 98 = .ok (.iconst 1, 1) := by decide +kernel
theorem dX7_isSo_99 : decode cX7_isSo 99 = .ok (.goto 4, 3) := by decide +kernel
theorem dX7_isSo_102 : decode cX7_isSo 102 = .ok (.iconst 0, 1) := by decide +kernel
theorem dX7_isSo_103 : decode cX7_isSo 103 = .ok (.ireturn, 1) := by decide +kernel
theorem dX7_isSo_104 : decode cX7_isSo 104 = .ok (.iconst 0, 1) := by decide +kernel
theorem dX7_isSo_105 : decode cX7_isSo 105 = .ok (.ireturn, 1) := by decide +kernel
theorem dX7_simulate_0 : decode cX7_simulate 0 = .ok (.iload_n 3, 1) := by decide +kernel
theorem dX7_simulate_1 : decode cX7_simulate 1 = .ok (.iconst 1, 1) := by decide +kernel
theorem dX7_simulate_2 : decode cX7_simulate 2 = .ok (.if_icmp .lt 9, 3) := by decide +kernel
theorem dX7_simulate_5 : decode cX7_simulate 5 = .ok (.iload_n 3, 1) := by decide +kernel
theorem dX7_simulate_6 : decode cX7_simulate 6 = .ok (.bipush 60, 2) := by decide +kernel
theorem dX7_simulate_8 : decode cX7_simulate 8 = .ok (.if_icmp .le 14, 3) := by decide +kernel
theorem dX7_simulate_11 : decode cX7_simulate 11 = .ok (.new 46, 3) := by decide +kernel
theorem dX7_simulate_14 : decode cX7_simulate 14 = .ok (.dup, 1) := by decide +kernel
theorem dX7_simulate_15 : decode cX7_simulate 15 = .ok (.ldc_w 276, 3) := by decide +kernel
theorem dX7_simulate_18 : decode cX7_simulate 18 = .ok (.invokespecial 50, 3) := by decide +kernel
theorem dX7_simulate_21 : decode cX7_simulate 21 = .ok (.athrow, 1) := by decide +kernel
theorem dX7_simulate_22 : decode cX7_simulate 22 = .ok (.aload_n 0, 1) := by decide +kernel
theorem dX7_simulate_23 : decode cX7_simulate 23 = .ok (.getfield 26, 3) := by decide +kernel
theorem dX7_simulate_26 : decode cX7_simulate 26 = .ok (.aload_n 0, 1) := by decide +kernel
theorem dX7_simulate_27 : decode cX7_simulate 27 = .ok (.getfield 23, 3) := by decide +kernel
theorem dX7_simulate_30 : decode cX7_simulate 30 = .ok (.invokevirtual 81, 3) := by decide +kernel
theorem dX7_simulate_33 : decode cX7_simulate 33 = .ok (.lload_n 1, 1) := by decide +kernel
theorem dX7_simulate_34 : decode cX7_simulate 34 = .ok (.lstore 4, 2) := by decide +kernel
theorem dX7_simulate_36 : decode cX7_simulate 36 = .ok (.iconst 0, 1) := by decide +kernel
theorem dX7_simulate_37 : decode cX7_simulate 37 = .ok (.istore 6, 2) := by decide +kernel
theorem dX7_simulate_39 : decode cX7_simulate 39 = .ok (.iload 6, 2) := by decide +kernel
theorem dX7_simulate_41 : decode cX7_simulate 41 = .ok (.iload_n 3, 1) := by decide +kernel
theorem dX7_simulate_42 : decode cX7_simulate 42 = .ok (.if_icmp .ge 31, 3) := by decide +kernel
theorem dX7_simulate_45 : decode cX7_simulate 45 = .ok (.lload 4, 2) := by decide +kernel
theorem dX7_simulate_47 : decode cX7_simulate 47 = .ok (.ldc2_w 278, 3) := by decide +kernel
theorem dX7_simulate_50 : decode cX7_simulate 50 = .ok (.lmul, 1) := by decide +kernel
theorem dX7_simulate_51 : decode cX7_simulate 51 = .ok (.ldc2_w 280, 3) := by decide +kernel
theorem dX7_simulate_54 : decode cX7_simulate 54 = .ok (.ladd, 1) := by decide +kernel
theorem dX7_simulate_55 : decode cX7_simulate 55 = .ok (.lstore 4, 2) := by decide +kernel
theorem dX7_simulate_57 : decode cX7_simulate 57 = .ok (.aload_n 0, 1) := by decide +kernel
theorem dX7_simulate_58 : decode cX7_simulate 58 = .ok (.lload 4, 2) := by decide +kernel
theorem dX7_simulate_60 : decode cX7_simulate 60 = .ok (.bipush 33, 2) := by decide +kernel
theorem dX7_simulate_62 : decode cX7_simulate 62 = .ok (.lushr, 1) := by decide +kernel
theorem dX7_simulate_63 : decode cX7_simulate 63 = .ok (.l2i, 1) := by decide +kernel
theorem dX7_simulate_64 : decode cX7_simulate 64 = .ok (.invokevirtual 282, 3) := by decide +kernel
theorem dX7_simulate_67 : decode cX7_simulate 67 = .ok (.iinc 6 1, 3) := by decide +kernel
theorem dX7_simulate_70 : decode cX7_simulate 70 = .ok (.goto (-31), 3) := by decide +kernel
theorem dX7_simulate_73 : decode cX7_simulate 73 = .ok (.sipush 1000, 3) := by decide +kernel
theorem dX7_simulate_76 : decode cX7_simulate 76 = .ok (.aload_n 0, 1) := by decide +kernel
theorem dX7_simulate_77 : decode cX7_simulate 77 = .ok (.getfield 26, 3) := by decide +kernel
theorem dX7_simulate_80 : decode cX7_simulate 80 = .ok (.getfield 233, 3) := by decide +kernel
theorem dX7_simulate_83 : decode cX7_simulate 83 = .ok (.aload_n 0, 1) := by decide +kernel
theorem dX7_simulate_84 : decode cX7_simulate 84 = .ok (.getfield 23, 3) := by decide +kernel
theorem dX7_simulate_87 : decode cX7_simulate 87 = .ok (.getfield 233, 3) := by decide +kernel
theorem dX7_simulate_90 : decode cX7_simulate 90 = .ok (.isub, 1) := by decide +kernel
theorem dX7_simulate_91 : decode cX7_simulate 91 = .ok (.imul, 1) := by decide +kernel
theorem dX7_simulate_92 : decode cX7_simulate 92 = .ok (.aload_n 0, 1) := by decide +kernel
theorem dX7_simulate_93 : decode cX7_simulate 93 = .ok (.getfield 26, 3) := by decide +kernel
theorem dX7_simulate_96 : decode cX7_simulate 96 = .ok (.getfield 236, 3) := by decide +kernel
theorem dX7_simulate_99 : decode cX7_simulate 99 = .ok (.aload_n 0, 1) := by decide +kernel
theorem dX7_simulate_100 : decode cX7_simulate 100 = .ok (.getfield 23, 3) := by decide +kernel
theorem dX7_simulate_103 : decode cX7_simulate 103 = .ok (.getfield 236, 3) := by decide +kernel
theorem dX7_simulate_106 : decode cX7_simulate 106 = .ok (.isub, 1) := by decide +kernel
theorem dX7_simulate_107 : decode cX7_simulate 107 = .ok (.iadd, 1) := by decide +kernel
theorem dX7_simulate_108 : decode cX7_simulate 108 = .ok (.ireturn, 1) := by decide +kernel
theorem dX7_doTurn_0 : decode cX7_doTurn 0 = .ok (.iload_n 1, 1) := by decide +kernel
theorem dX7_doTurn_1 : decode cX7_doTurn 1 = .ok (.bipush 8, 2) := by decide +kernel
theorem dX7_doTurn_3 : decode cX7_doTurn 3 = .ok (.idiv, 1) := by decide +kernel
theorem dX7_doTurn_4 : decode cX7_doTurn 4 = .ok (.istore_n 2, 1) := by decide +kernel
theorem dX7_doTurn_5 : decode cX7_doTurn 5 = .ok (.iload_n 1, 1) := by decide +kernel
theorem dX7_doTurn_6 : decode cX7_doTurn 6 = .ok (.bipush 8, 2) := by decide +kernel
theorem dX7_doTurn_8 : decode cX7_doTurn 8 = .ok (.irem, 1) := by decide +kernel
theorem dX7_doTurn_9 : decode cX7_doTurn 9 = .ok (.tableswitch 126 0 4 #[35, 35, 64, 91, 108], 35) := by decide +kernel
theorem dX7_doTurn_44 : decode cX7_doTurn 44 = .ok (.aload_n 0, 1) := by decide +kernel
theorem dX7_doTurn_45 : decode cX7_doTurn 45 = .ok (.getfield 26, 3) := by decide +kernel
theorem dX7_doTurn_48 : decode cX7_doTurn 48 = .ok (.iload_n 2, 1) := by decide +kernel
theorem dX7_doTurn_49 : decode cX7_doTurn 49 = .ok (.bipush 6, 2) := by decide +kernel
theorem dX7_doTurn_51 : decode cX7_doTurn 51 = .ok (.irem, 1) := by decide +kernel
theorem dX7_doTurn_52 : decode cX7_doTurn 52 = .ok (.iload_n 2, 1) := by decide +kernel
theorem dX7_doTurn_53 : decode cX7_doTurn 53 = .ok (.bipush 8, 2) := by decide +kernel
theorem dX7_doTurn_55 : decode cX7_doTurn 55 = .ok (.idiv, 1) := by decide +kernel
theorem dX7_doTurn_56 : decode cX7_doTurn 56 = .ok (.iconst 3, 1) := by decide +kernel
theorem dX7_doTurn_57 : decode cX7_doTurn 57 = .ok (.irem, 1) := by decide +kernel
theorem dX7_doTurn_58 : decode cX7_doTurn 58 = .ok (.ifCond .ne 7, 3) := by decide +kernel
theorem dX7_doTurn_61 : decode cX7_doTurn 61 = .ok (.iconst 1, 1) := by decide +kernel
theorem dX7_doTurn_62 : decode cX7_doTurn 62 = .ok (.goto 4, 3) := by decide +kernel
theorem dX7_doTurn_65 : decode cX7_doTurn 65 = .ok (.iconst 0, 1) := by decide +kernel
theorem dX7_doTurn_66 : decode cX7_doTurn 66 = .ok (.invokevirtual 116, 3) := by decide +kernel
theorem dX7_doTurn_69 : decode cX7_doTurn 69 = .ok (.pop, 1) := by decide +kernel
theorem dX7_doTurn_70 : decode cX7_doTurn 70 = .ok (.goto 79, 3) := by decide +kernel
theorem dX7_doTurn_73 : decode cX7_doTurn 73 = .ok (.aload_n 0, 1) := by decide +kernel
theorem dX7_doTurn_74 : decode cX7_doTurn 74 = .ok (.getfield 26, 3) := by decide +kernel
theorem dX7_doTurn_77 : decode cX7_doTurn 77 = .ok (.iload_n 2, 1) := by decide +kernel
theorem dX7_doTurn_78 : decode cX7_doTurn 78 = .ok (.bipush 6, 2) := by decide +kernel
theorem dX7_doTurn_80 : decode cX7_doTurn 80 = .ok (.irem, 1) := by decide +kernel
theorem dX7_doTurn_81 : decode cX7_doTurn 81 = .ok (.iload_n 2, 1) := by decide +kernel
theorem dX7_doTurn_82 : decode cX7_doTurn 82 = .ok (.bipush 8, 2) := by decide +kernel
theorem dX7_doTurn_84 : decode cX7_doTurn 84 = .ok (.idiv, 1) := by decide +kernel
theorem dX7_doTurn_85 : decode cX7_doTurn 85 = .ok (.sipush 401, 3) := by decide +kernel
theorem dX7_doTurn_88 : decode cX7_doTurn 88 = .ok (.irem, 1) := by decide +kernel
theorem dX7_doTurn_89 : decode cX7_doTurn 89 = .ok (.sipush 200, 3) := by decide +kernel
theorem dX7_doTurn_92 : decode cX7_doTurn 92 = .ok (.isub, 1) := by decide +kernel
theorem dX7_doTurn_93 : decode cX7_doTurn 93 = .ok (.invokevirtual 195, 3) := by decide +kernel
theorem dX7_doTurn_96 : decode cX7_doTurn 96 = .ok (.pop, 1) := by decide +kernel
theorem dX7_doTurn_97 : decode cX7_doTurn 97 = .ok (.goto 52, 3) := by decide +kernel
theorem dX7_doTurn_100 : decode cX7_doTurn 100 = .ok (.aload_n 0, 1) := by decide +kernel
theorem dX7_doTurn_101 : decode cX7_doTurn 101 = .ok (.getfield 26, 3) := by decide +kernel
theorem dX7_doTurn_104 : decode cX7_doTurn 104 = .ok (.iconst 0, 1) := by decide +kernel
theorem dX7_doTurn_105 : decode cX7_doTurn 105 = .ok (.iload_n 2, 1) := by decide +kernel
theorem dX7_doTurn_106 : decode cX7_doTurn 106 = .ok (.sipush 1000, 3) := by decide +kernel
theorem dX7_doTurn_109 : decode cX7_doTurn 109 = .ok (.irem, 1) := by decide +kernel
theorem dX7_doTurn_110 : decode cX7_doTurn 110 = .ok (.invokevirtual 124, 3) := by decide +kernel
theorem dX7_doTurn_113 : decode cX7_doTurn 113 = .ok (.pop, 1) := by decide +kernel
theorem dX7_doTurn_114 : decode cX7_doTurn 114 = .ok (.goto 35, 3) := by decide +kernel
theorem dX7_doTurn_117 : decode cX7_doTurn 117 = .ok (.aload_n 0, 1) := by decide +kernel
theorem dX7_doTurn_118 : decode cX7_doTurn 118 = .ok (.getfield 26, 3) := by decide +kernel
theorem dX7_doTurn_121 : decode cX7_doTurn 121 = .ok (.iconst 4, 1) := by decide +kernel
theorem dX7_doTurn_122 : decode cX7_doTurn 122 = .ok (.iconst 1, 1) := by decide +kernel
theorem dX7_doTurn_123 : decode cX7_doTurn 123 = .ok (.iload_n 2, 1) := by decide +kernel
theorem dX7_doTurn_124 : decode cX7_doTurn 124 = .ok (.bipush 100, 2) := by decide +kernel
theorem dX7_doTurn_126 : decode cX7_doTurn 126 = .ok (.irem, 1) := by decide +kernel
theorem dX7_doTurn_127 : decode cX7_doTurn 127 = .ok (.iadd, 1) := by decide +kernel
theorem dX7_doTurn_128 : decode cX7_doTurn 128 = .ok (.invokevirtual 124, 3) := by decide +kernel
theorem dX7_doTurn_131 : decode cX7_doTurn 131 = .ok (.pop, 1) := by decide +kernel
theorem dX7_doTurn_132 : decode cX7_doTurn 132 = .ok (.goto 17, 3) := by decide +kernel
theorem dX7_doTurn_135 : decode cX7_doTurn 135 = .ok (.aload_n 0, 1) := by decide +kernel
theorem dX7_doTurn_136 : decode cX7_doTurn 136 = .ok (.getfield 26, 3) := by decide +kernel
theorem dX7_doTurn_139 : decode cX7_doTurn 139 = .ok (.iconst 1, 1) := by decide +kernel
theorem dX7_doTurn_140 : decode cX7_doTurn 140 = .ok (.iload_n 2, 1) := by decide +kernel
theorem dX7_doTurn_141 : decode cX7_doTurn 141 = .ok (.bipush 15, 2) := by decide +kernel
theorem dX7_doTurn_143 : decode cX7_doTurn 143 = .ok (.irem, 1) := by decide +kernel
theorem dX7_doTurn_144 : decode cX7_doTurn 144 = .ok (.iadd, 1) := by decide +kernel
theorem dX7_doTurn_145 : decode cX7_doTurn 145 = .ok (.invokevirtual 120, 3) := by decide +kernel
theorem dX7_doTurn_148 : decode cX7_doTurn 148 = .ok (.pop, 1) := by decide +kernel
theorem dX7_doTurn_149 : decode cX7_doTurn 149 = .ok (.return_, 1) := by decide +kernel
theorem dX7_save_0 : decode cX7_save 0 = .ok (.aload_n 0, 1) := by decide +kernel
theorem dX7_save_1 : decode cX7_save 1 = .ok (.iload_n 1, 1) := by decide +kernel
theorem dX7_save_2 : decode cX7_save 2 = .ok (.invokevirtual 286, 3) := by decide +kernel
theorem dX7_save_5 : decode cX7_save 5 = .ok (.astore_n 2, 1) := by decide +kernel
theorem dX7_save_6 : decode cX7_save 6 = .ok (.aload_n 2, 1) := by decide +kernel
theorem dX7_save_7 : decode cX7_save 7 = .ok (.ifnonnull 14, 3) := by decide +kernel
theorem dX7_save_10 : decode cX7_save 10 = .ok (.new 137, 3) := by decide +kernel
theorem dX7_save_13 : decode cX7_save 13 = .ok (.dup, 1) := by decide +kernel
theorem dX7_save_14 : decode cX7_save 14 = .ok (.ldc_w 290, 3) := by decide +kernel
theorem dX7_save_17 : decode cX7_save 17 = .ok (.invokespecial 141, 3) := by decide +kernel
theorem dX7_save_20 : decode cX7_save 20 = .ok (.athrow, 1) := by decide +kernel
theorem dX7_save_21 : decode cX7_save 21 = .ok (.aload_n 2, 1) := by decide +kernel
theorem dX7_save_22 : decode cX7_save 22 = .ok (.aload_n 0, 1) := by decide +kernel
theorem dX7_save_23 : decode cX7_save 23 = .ok (.getfield 23, 3) := by decide +kernel
theorem dX7_save_26 : decode cX7_save 26 = .ok (.invokevirtual 292, 3) := by decide +kernel
theorem dX7_save_29 : decode cX7_save 29 = .ok (.aload_n 0, 1) := by decide +kernel
theorem dX7_save_30 : decode cX7_save 30 = .ok (.getfield 23, 3) := by decide +kernel
theorem dX7_save_33 : decode cX7_save 33 = .ok (.getfield 295, 3) := by decide +kernel
theorem dX7_save_36 : decode cX7_save 36 = .ok (.ireturn, 1) := by decide +kernel
theorem dX7_restore_0 : decode cX7_restore 0 = .ok (.aload_n 0, 1) := by decide +kernel
theorem dX7_restore_1 : decode cX7_restore 1 = .ok (.iload_n 1, 1) := by decide +kernel
theorem dX7_restore_2 : decode cX7_restore 2 = .ok (.invokevirtual 286, 3) := by decide +kernel
theorem dX7_restore_5 : decode cX7_restore 5 = .ok (.astore_n 2, 1) := by decide +kernel
theorem dX7_restore_6 : decode cX7_restore 6 = .ok (.aload_n 2, 1) := by decide +kernel
theorem dX7_restore_7 : decode cX7_restore 7 = .ok (.ifnonnull 14, 3) := by decide +kernel
theorem dX7_restore_10 : decode cX7_restore 10 = .ok (.new 137, 3) := by decide +kernel
theorem dX7_restore_13 : decode cX7_restore 13 = .ok (.dup, 1) := by decide +kernel
theorem dX7_restore_14 : decode cX7_restore 14 = .ok (.ldc_w 290, 3) := by decide +kernel
theorem dX7_restore_17 : decode cX7_restore 17 = .ok (.invokespecial 141, 3) := by decide +kernel
theorem dX7_restore_20 : decode cX7_restore 20 = .ok (.athrow, 1) := by decide +kernel
theorem dX7_restore_21 : decode cX7_restore 21 = .ok (.aload_n 2, 1) := by decide +kernel
theorem dX7_restore_22 : decode cX7_restore 22 = .ok (.getfield 298, 3) := by decide +kernel
theorem dX7_restore_25 : decode cX7_restore 25 = .ok (.ifCond .ne 14, 3) := by decide +kernel
theorem dX7_restore_28 : decode cX7_restore 28 = .ok (.new 63, 3) := by decide +kernel
theorem dX7_restore_31 : decode cX7_restore 31 = .ok (.dup, 1) := by decide +kernel
theorem dX7_restore_32 : decode cX7_restore 32 = .ok (.ldc_w 301, 3) := by decide +kernel
theorem dX7_restore_35 : decode cX7_restore 35 = .ok (.invokespecial 67, 3) := by decide +kernel
theorem dX7_restore_38 : decode cX7_restore 38 = .ok (.athrow, 1) := by decide +kernel
theorem dX7_restore_39 : decode cX7_restore 39 = .ok (.aload_n 0, 1) := by decide +kernel
theorem dX7_restore_40 : decode cX7_restore 40 = .ok (.getfield 23, 3) := by decide +kernel
theorem dX7_restore_43 : decode cX7_restore 43 = .ok (.aload_n 2, 1) := by decide +kernel
theorem dX7_restore_44 : decode cX7_restore 44 = .ok (.getfield 303, 3) := by decide +kernel
theorem dX7_restore_47 : decode cX7_restore 47 = .ok (.invokevirtual 81, 3) := by decide +kernel
theorem dX7_restore_50 : decode cX7_restore 50 = .ok (.aload_n 0, 1) := by decide +kernel
theorem dX7_restore_51 : decode cX7_restore 51 = .ok (.getfield 32, 3) := by decide +kernel
theorem dX7_restore_54 : decode cX7_restore 54 = .ok (.invokevirtual 85, 3) := by decide +kernel
theorem dX7_restore_57 : decode cX7_restore 57 = .ok (.aload_n 0, 1) := by decide +kernel
theorem dX7_restore_58 : decode cX7_restore 58 = .ok (.getfield 23, 3) := by decide +kernel
theorem dX7_restore_61 : decode cX7_restore 61 = .ok (.getfield 295, 3) := by decide +kernel
theorem dX7_restore_64 : decode cX7_restore 64 = .ok (.ireturn, 1) := by decide +kernel
theorem dX7_slotAt_0 : decode cX7_slotAt 0 = .ok (.iload_n 1, 1) := by decide +kernel
theorem dX7_slotAt_1 : decode cX7_slotAt 1 = .ok (.ifCond .ne 8, 3) := by decide +kernel
theorem dX7_slotAt_4 : decode cX7_slotAt 4 = .ok (.aload_n 0, 1) := by decide +kernel
theorem dX7_slotAt_5 : decode cX7_slotAt 5 = .ok (.getfield 39, 3) := by decide +kernel
theorem dX7_slotAt_8 : decode cX7_slotAt 8 = .ok (.areturn, 1) := by decide +kernel
theorem dX7_slotAt_9 : decode cX7_slotAt 9 = .ok (.iload_n 1, 1) := by decide +kernel
theorem dX7_slotAt_10 : decode cX7_slotAt 10 = .ok (.iconst 1, 1) := by decide +kernel
theorem dX7_slotAt_11 : decode cX7_slotAt 11 = .ok (.if_icmp .ne 10, 3) := by decide +kernel
theorem dX7_slotAt_14 : decode cX7_slotAt 14 = .ok (.aload_n 0, 1) := by decide +kernel
theorem dX7_slotAt_15 : decode cX7_slotAt 15 = .ok (.getfield 43, 3) := by decide +kernel
theorem dX7_slotAt_18 : decode cX7_slotAt 18 = .ok (.goto 4, 3) := by decide +kernel
theorem dX7_slotAt_21 : decode cX7_slotAt 21 = .ok (.aconst_null, 1) := by decide +kernel
theorem dX7_slotAt_22 : decode cX7_slotAt 22 = .ok (.areturn, 1) := by decide +kernel
theorem dJ9_max_7cf53_0 : decode cJ9_max_7cf53 0 = .ok (.iload_n 0, 1) := by decide +kernel
theorem dJ9_max_7cf53_1 : decode cJ9_max_7cf53 1 = .ok (.iload_n 1, 1) := by decide +kernel
theorem dJ9_max_7cf53_2 : decode cJ9_max_7cf53 2 = .ok (.if_icmp .lt 7, 3) := by decide +kernel
theorem dJ9_max_7cf53_5 : decode cJ9_max_7cf53 5 = .ok (.iload_n 0, 1) := by decide +kernel
theorem dJ9_max_7cf53_6 : decode cJ9_max_7cf53 6 = .ok (.goto 4, 3) := by decide +kernel
theorem dJ9_max_7cf53_9 : decode cJ9_max_7cf53 9 = .ok (.iload_n 1, 1) := by decide +kernel
theorem dJ9_max_7cf53_10 : decode cJ9_max_7cf53 10 = .ok (.ireturn, 1) := by decide +kernel
theorem dJ9_min_7cf53_0 : decode cJ9_min_7cf53 0 = .ok (.iload_n 0, 1) := by decide +kernel
theorem dJ9_min_7cf53_1 : decode cJ9_min_7cf53 1 = .ok (.iload_n 1, 1) := by decide +kernel
theorem dJ9_min_7cf53_2 : decode cJ9_min_7cf53 2 = .ok (.if_icmp .gt 7, 3) := by decide +kernel
theorem dJ9_min_7cf53_5 : decode cJ9_min_7cf53 5 = .ok (.iload_n 0, 1) := by decide +kernel
theorem dJ9_min_7cf53_6 : decode cJ9_min_7cf53 6 = .ok (.goto 4, 3) := by decide +kernel
theorem dJ9_min_7cf53_9 : decode cJ9_min_7cf53 9 = .ok (.iload_n 1, 1) := by decide +kernel
theorem dJ9_min_7cf53_10 : decode cJ9_min_7cf53 10 = .ok (.ireturn, 1) := by decide +kernel
