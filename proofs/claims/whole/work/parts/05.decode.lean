theorem dX0_init_0 : decode cX0_init 0 = .ok (.aload_n 0, 1) := by decide +kernel
theorem dX0_init_1 : decode cX0_init 1 = .ok (.invokespecial 3, 3) := by decide +kernel
theorem dX0_init_4 : decode cX0_init 4 = .ok (.aload_n 0, 1) := by decide +kernel
theorem dX0_init_5 : decode cX0_init 5 = .ok (.bipush 14, 2) := by decide +kernel
theorem dX0_init_7 : decode cX0_init 7 = .ok (.anewarray 9, 3) := by decide +kernel
theorem dX0_init_10 : decode cX0_init 10 = .ok (.putfield 11, 3) := by decide +kernel
theorem dX0_init_13 : decode cX0_init 13 = .ok (.iconst 0, 1) := by decide +kernel
theorem dX0_init_14 : decode cX0_init 14 = .ok (.istore_n 1, 1) := by decide +kernel
theorem dX0_init_15 : decode cX0_init 15 = .ok (.iload_n 1, 1) := by decide +kernel
theorem dX0_init_16 : decode cX0_init 16 = .ok (.aload_n 0, 1) := by decide +kernel
theorem dX0_init_17 : decode cX0_init 17 = .ok (.getfield 11, 3) := by decide +kernel
theorem dX0_init_20 : decode cX0_init 20 = .ok (.arraylength, 1) := by decide +kernel
theorem dX0_init_21 : decode cX0_init 21 = .ok (.if_icmp .ge 22, 3) := by decide +kernel
theorem dX0_init_24 : decode cX0_init 24 = .ok (.aload_n 0, 1) := by decide +kernel
theorem dX0_init_25 : decode cX0_init 25 = .ok (.getfield 11, 3) := by decide +kernel
theorem dX0_init_28 : decode cX0_init 28 = .ok (.iload_n 1, 1) := by decide +kernel
theorem dX0_init_29 : decode cX0_init 29 = .ok (.new 9, 3) := by decide +kernel
theorem dX0_init_32 : decode cX0_init 32 = .ok (.dup, 1) := by decide +kernel
theorem dX0_init_33 : decode cX0_init 33 = .ok (.invokespecial 17, 3) := by decide +kernel
theorem dX0_init_36 : decode cX0_init 36 = .ok (.aastore, 1) := by decide +kernel
theorem dX0_init_37 : decode cX0_init 37 = .ok (.iinc 1 1, 3) := by decide +kernel
theorem dX0_init_40 : decode cX0_init 40 = .ok (.goto (-25), 3) := by decide +kernel
theorem dX0_init_43 : decode cX0_init 43 = .ok (.return_, 1) := by decide +kernel
theorem dX0_isEmpty_0 : decode cX0_isEmpty 0 = .ok (.aload_n 0, 1) := by decide +kernel
theorem dX0_isEmpty_1 : decode cX0_isEmpty 1 = .ok (.getfield 18, 3) := by decide +kernel
theorem dX0_isEmpty_4 : decode cX0_isEmpty 4 = .ok (.ifCond .ne 7, 3) := by decide +kernel
theorem dX0_isEmpty_7 : decode cX0_isEmpty 7 = .ok (.iconst 1, 1) := by decide +kernel
theorem dX0_isEmpty_8 : decode cX0_isEmpty 8 = .ok (.goto 4, 3) := by decide +kernel
theorem dX0_isEmpty_11 : decode cX0_isEmpty 11 = .ok (.iconst 0, 1) := by decide +kernel
theorem dX0_isEmpty_12 : decode cX0_isEmpty 12 = .ok (.ireturn, 1) := by decide +kernel
theorem dX0_forgetAll_0 : decode cX0_forgetAll 0 = .ok (.aload_n 0, 1) := by decide +kernel
theorem dX0_forgetAll_1 : decode cX0_forgetAll 1 = .ok (.iconst 0, 1) := by decide +kernel
theorem dX0_forgetAll_2 : decode cX0_forgetAll 2 = .ok (.putfield 18, 3) := by decide +kernel
theorem dX0_forgetAll_5 : decode cX0_forgetAll 5 = .ok (.return_, 1) := by decide +kernel
theorem dX0_remember_0 : decode cX0_remember 0 = .ok (.aload_n 0, 1) := by decide +kernel
theorem dX0_remember_1 : decode cX0_remember 1 = .ok (.getfield 18, 3) := by decide +kernel
theorem dX0_remember_4 : decode cX0_remember 4 = .ok (.aload_n 0, 1) := by decide +kernel
theorem dX0_remember_5 : decode cX0_remember 5 = .ok (.getfield 11, 3) := by decide +kernel
theorem dX0_remember_8 : decode cX0_remember 8 = .ok (.arraylength, 1) := by decide +kernel
theorem dX0_remember_9 : decode cX0_remember 9 = .ok (.if_icmp .lt 7, 3) := by decide +kernel
theorem dX0_remember_12 : decode cX0_remember 12 = .ok (.aload_n 0, 1) := by decide +kernel
theorem dX0_remember_13 : decode cX0_remember 13 = .ok (.invokevirtual 22, 3) := by decide +kernel
theorem dX0_remember_16 : decode cX0_remember 16 = .ok (.aload_n 0, 1) := by decide +kernel
theorem dX0_remember_17 : decode cX0_remember 17 = .ok (.getfield 18, 3) := by decide +kernel
theorem dX0_remember_20 : decode cX0_remember 20 = .ok (.ifCond .lt 38, 3) := by decide +kernel
theorem dX0_remember_23 : decode cX0_remember 23 = .ok (.aload_n 0, 1) := by decide +kernel
theorem dX0_remember_24 : decode cX0_remember 24 = .ok (.getfield 18, 3) := by decide +kernel
theorem dX0_remember_27 : decode cX0_remember 27 = .ok (.aload_n 0, 1) := by decide +kernel
theorem dX0_remember_28 : decode cX0_remember 28 = .ok (.getfield 11, 3) := by decide +kernel
theorem dX0_remember_31 : decode cX0_remember 31 = .ok (.arraylength, 1) := by decide +kernel
theorem dX0_remember_32 : decode cX0_remember 32 = .ok (.if_icmp .ge 26, 3) := by decide +kernel
theorem dX0_remember_35 : decode cX0_remember 35 = .ok (.aload_n 0, 1) := by decide +kernel
theorem dX0_remember_36 : decode cX0_remember 36 = .ok (.getfield 11, 3) := by decide +kernel
theorem dX0_remember_39 : decode cX0_remember 39 = .ok (.aload_n 0, 1) := by decide +kernel
theorem dX0_remember_40 : decode cX0_remember 40 = .ok (.getfield 18, 3) := by decide +kernel
theorem dX0_remember_43 : decode cX0_remember 43 = .ok (.aaload, 1) := by decide +kernel
theorem dX0_remember_44 : decode cX0_remember 44 = .ok (.aload_n 1, 1) := by decide +kernel
theorem dX0_remember_45 : decode cX0_remember 45 = .ok (.invokevirtual 25, 3) := by decide +kernel
theorem dX0_remember_48 : decode cX0_remember 48 = .ok (.aload_n 0, 1) := by decide +kernel
theorem dX0_remember_49 : decode cX0_remember 49 = .ok (.dup, 1) := by decide +kernel
theorem dX0_remember_50 : decode cX0_remember 50 = .ok (.getfield 18, 3) := by decide +kernel
theorem dX0_remember_53 : decode cX0_remember 53 = .ok (.iconst 1, 1) := by decide +kernel
theorem dX0_remember_54 : decode cX0_remember 54 = .ok (.iadd, 1) := by decide +kernel
theorem dX0_remember_55 : decode cX0_remember 55 = .ok (.putfield 18, 3) := by decide +kernel
theorem dX0_remember_58 : decode cX0_remember 58 = .ok (.return_, 1) := by decide +kernel
theorem dX0_forgetOldest_0 : decode cX0_forgetOldest 0 = .ok (.iconst 1, 1) := by decide +kernel
theorem dX0_forgetOldest_1 : decode cX0_forgetOldest 1 = .ok (.istore_n 1, 1) := by decide +kernel
theorem dX0_forgetOldest_2 : decode cX0_forgetOldest 2 = .ok (.iload_n 1, 1) := by decide +kernel
theorem dX0_forgetOldest_3 : decode cX0_forgetOldest 3 = .ok (.aload_n 0, 1) := by decide +kernel
theorem dX0_forgetOldest_4 : decode cX0_forgetOldest 4 = .ok (.getfield 11, 3) := by decide +kernel
theorem dX0_forgetOldest_7 : decode cX0_forgetOldest 7 = .ok (.arraylength, 1) := by decide +kernel
theorem dX0_forgetOldest_8 : decode cX0_forgetOldest 8 = .ok (.if_icmp .ge 39, 3) := by decide +kernel
theorem dX0_forgetOldest_11 : decode cX0_forgetOldest 11 = .ok (.aload_n 0, 1) := by decide +kernel
theorem dX0_forgetOldest_12 : decode cX0_forgetOldest 12 = .ok (.getfield 11, 3) := by decide +kernel
theorem dX0_forgetOldest_15 : decode cX0_forgetOldest 15 = .ok (.iload_n 1, 1) := by decide +kernel
theorem dX0_forgetOldest_16 : decode cX0_forgetOldest 16 = .ok (.iconst 1, 1) := by decide +kernel
theorem dX0_forgetOldest_17 : decode cX0_forgetOldest 17 = .ok (.isub, 1) := by decide +kernel
theorem dX0_forgetOldest_18 : decode cX0_forgetOldest 18 = .ok (.aaload, 1) := by decide +kernel
theorem dX0_forgetOldest_19 : decode cX0_forgetOldest 19 = .ok (.astore_n 2, 1) := by decide +kernel
theorem dX0_forgetOldest_20 : decode cX0_forgetOldest 20 = .ok (.aload_n 0, 1) := by decide +kernel
theorem dX0_forgetOldest_21 : decode cX0_forgetOldest 21 = .ok (.getfield 11, 3) := by decide +kernel
theorem dX0_forgetOldest_24 : decode cX0_forgetOldest 24 = .ok (.iload_n 1, 1) := by decide +kernel
theorem dX0_forgetOldest_25 : decode cX0_forgetOldest 25 = .ok (.iconst 1, 1) := by decide +kernel
theorem dX0_forgetOldest_26 : decode cX0_forgetOldest 26 = .ok (.isub, 1) := by decide +kernel
theorem dX0_forgetOldest_27 : decode cX0_forgetOldest 27 = .ok (.aload_n 0, 1) := by decide +kernel
theorem dX0_forgetOldest_28 : decode cX0_forgetOldest 28 = .ok (.getfield 11, 3) := by decide +kernel
theorem dX0_forgetOldest_31 : decode cX0_forgetOldest 31 = .ok (.iload_n 1, 1) := by decide +kernel
theorem dX0_forgetOldest_32 : decode cX0_forgetOldest 32 = .ok (.aaload, 1) := by decide +kernel
theorem dX0_forgetOldest_33 : decode cX0_forgetOldest 33 = .ok (.aastore, 1) := by decide +kernel
theorem dX0_forgetOldest_34 : decode cX0_forgetOldest 34 = .ok (.aload_n 0, 1) := by decide +kernel
theorem dX0_forgetOldest_35 : decode cX0_forgetOldest 35 = .ok (.getfield 11, 3) := by decide +kernel
theorem dX0_forgetOldest_38 : decode cX0_forgetOldest 38 = .ok (.iload_n 1, 1) := by decide +kernel
theorem dX0_forgetOldest_39 : decode cX0_forgetOldest 39 = .ok (.aload_n 2, 1) := by decide +kernel
theorem dX0_forgetOldest_40 : decode cX0_forgetOldest 40 = .ok (.aastore, 1) := by decide +kernel
theorem dX0_forgetOldest_41 : decode cX0_forgetOldest 41 = .ok (.iinc 1 1, 3) := by decide +kernel
theorem dX0_forgetOldest_44 : decode cX0_forgetOldest 44 = .ok (.goto (-42), 3) := by decide +kernel
theorem dX0_forgetOldest_47 : decode cX0_forgetOldest 47 = .ok (.aload_n 0, 1) := by decide +kernel
theorem dX0_forgetOldest_48 : decode cX0_forgetOldest 48 = .ok (.dup, 1) := by decide +kernel
theorem dX0_forgetOldest_49 : decode cX0_forgetOldest 49 = .ok (.getfield 18, 3) := by decide +kernel
theorem dX0_forgetOldest_52 : decode cX0_forgetOldest 52 = .ok (.iconst 1, 1) := by decide +kernel
theorem dX0_forgetOldest_53 : decode cX0_forgetOldest 53 = .ok (.isub, 1) := by decide +kernel
theorem dX0_forgetOldest_54 : decode cX0_forgetOldest 54 = .ok (.putfield 18, 3) := by decide +kernel
theorem dX0_forgetOldest_57 : decode cX0_forgetOldest 57 = .ok (.return_, 1) := by decide +kernel
theorem dX0_takeBack_0 : decode cX0_takeBack 0 = .ok (.aload_n 0, 1) := by decide +kernel
theorem dX0_takeBack_1 : decode cX0_takeBack 1 = .ok (.getfield 18, 3) := by decide +kernel
theorem dX0_takeBack_4 : decode cX0_takeBack 4 = .ok (.ifCond .le 38, 3) := by decide +kernel
theorem dX0_takeBack_7 : decode cX0_takeBack 7 = .ok (.aload_n 0, 1) := by decide +kernel
theorem dX0_takeBack_8 : decode cX0_takeBack 8 = .ok (.getfield 18, 3) := by decide +kernel
theorem dX0_takeBack_11 : decode cX0_takeBack 11 = .ok (.aload_n 0, 1) := by decide +kernel
theorem dX0_takeBack_12 : decode cX0_takeBack 12 = .ok (.getfield 11, 3) := by decide +kernel
theorem dX0_takeBack_15 : decode cX0_takeBack 15 = .ok (.arraylength, 1) := by decide +kernel
theorem dX0_takeBack_16 : decode cX0_takeBack 16 = .ok (.if_icmp .gt 26, 3) := by decide +kernel
theorem dX0_takeBack_19 : decode cX0_takeBack 19 = .ok (.aload_n 0, 1) := by decide +kernel
theorem dX0_takeBack_20 : decode cX0_takeBack 20 = .ok (.dup, 1) := by decide +kernel
theorem dX0_takeBack_21 : decode cX0_takeBack 21 = .ok (.getfield 18, 3) := by decide +kernel
theorem dX0_takeBack_24 : decode cX0_takeBack 24 = .ok (.iconst 1, 1) := by decide +kernel
theorem dX0_takeBack_25 : decode cX0_takeBack 25 = .ok (.isub, 1) := by decide +kernel
theorem dX0_takeBack_26 : decode cX0_takeBack 26 = .ok (.putfield 18, 3) := by decide +kernel
theorem dX0_takeBack_29 : decode cX0_takeBack 29 = .ok (.aload_n 1, 1) := by decide +kernel
theorem dX0_takeBack_30 : decode cX0_takeBack 30 = .ok (.aload_n 0, 1) := by decide +kernel
theorem dX0_takeBack_31 : decode cX0_takeBack 31 = .ok (.getfield 11, 3) := by decide +kernel
theorem dX0_takeBack_34 : decode cX0_takeBack 34 = .ok (.aload_n 0, 1) := by decide +kernel
theorem dX0_takeBack_35 : decode cX0_takeBack 35 = .ok (.getfield 18, 3) := by decide +kernel
theorem dX0_takeBack_38 : decode cX0_takeBack 38 = .ok (.aaload, 1) := by decide +kernel
theorem dX0_takeBack_39 : decode cX0_takeBack 39 = .ok (.invokevirtual 25, 3) := by decide +kernel
theorem dX0_takeBack_42 : decode cX0_takeBack 42 = .ok (.return_, 1) := by decide +kernel
theorem dX1_init_0 : decode cX1_init 0 = .ok (.aload_n 0, 1) := by decide +kernel
theorem dX1_init_1 : decode cX1_init 1 = .ok (.invokespecial 3, 3) := by decide +kernel
theorem dX1_init_4 : decode cX1_init 4 = .ok (.aload_n 0, 1) := by decide +kernel
theorem dX1_init_5 : decode cX1_init 5 = .ok (.new 9, 3) := by decide +kernel
theorem dX1_init_8 : decode cX1_init 8 = .ok (.dup, 1) := by decide +kernel
theorem dX1_init_9 : decode cX1_init 9 = .ok (.invokespecial 11, 3) := by decide +kernel
theorem dX1_init_12 : decode cX1_init 12 = .ok (.putfield 12, 3) := by decide +kernel
theorem dX1_init_15 : decode cX1_init 15 = .ok (.return_, 1) := by decide +kernel
theorem dX1_firstError_0 : decode cX1_firstError 0 = .ok (.aload_n 0, 1) := by decide +kernel
theorem dX1_firstError_1 : decode cX1_firstError 1 = .ok (.invokevirtual 18, 3) := by decide +kernel
theorem dX1_firstError_4 : decode cX1_firstError 4 = .ok (.iconst 1, 1) := by decide +kernel
theorem dX1_firstError_5 : decode cX1_firstError 5 = .ok (.istore_n 1, 1) := by decide +kernel
theorem dX1_firstError_6 : decode cX1_firstError 6 = .ok (.iconst 0, 1) := by decide +kernel
theorem dX1_firstError_7 : decode cX1_firstError 7 = .ok (.istore_n 2, 1) := by decide +kernel
theorem dX1_firstError_8 : decode cX1_firstError 8 = .ok (.iload_n 2, 1) := by decide +kernel
theorem dX1_firstError_9 : decode cX1_firstError 9 = .ok (.bipush 120, 2) := by decide +kernel
theorem dX1_firstError_11 : decode cX1_firstError 11 = .ok (.if_icmp .ge 18, 3) := by decide +kernel
theorem dX1_firstError_14 : decode cX1_firstError 14 = .ok (.iload_n 1, 1) := by decide +kernel
theorem dX1_firstError_15 : decode cX1_firstError 15 = .ok (.ifCond .eq 14, 3) := by decide +kernel
theorem dX1_firstError_18 : decode cX1_firstError 18 = .ok (.aload_n 0, 1) := by decide +kernel
theorem dX1_firstError_19 : decode cX1_firstError 19 = .ok (.invokevirtual 21, 3) := by decide +kernel
theorem dX1_firstError_22 : decode cX1_firstError 22 = .ok (.istore_n 1, 1) := by decide +kernel
theorem dX1_firstError_23 : decode cX1_firstError 23 = .ok (.iinc 2 1, 3) := by decide +kernel
theorem dX1_firstError_26 : decode cX1_firstError 26 = .ok (.goto (-18), 3) := by decide +kernel
theorem dX1_firstError_29 : decode cX1_firstError 29 = .ok (.aload_n 0, 1) := by decide +kernel
theorem dX1_firstError_30 : decode cX1_firstError 30 = .ok (.getfield 25, 3) := by decide +kernel
theorem dX1_firstError_33 : decode cX1_firstError 33 = .ok (.ifCond .eq 10, 3) := by decide +kernel
theorem dX1_firstError_36 : decode cX1_firstError 36 = .ok (.aload_n 0, 1) := by decide +kernel
theorem dX1_firstError_37 : decode cX1_firstError 37 = .ok (.getfield 29, 3) := by decide +kernel
theorem dX1_firstError_40 : decode cX1_firstError 40 = .ok (.goto 4, 3) := by decide +kernel
theorem dX1_firstError_43 : decode cX1_firstError 43 = .ok (.iconst (-1), 1) := by decide +kernel
theorem dX1_firstError_44 : decode cX1_firstError 44 = .ok (.ireturn, 1) := by decide +kernel
theorem dX1_start_0 : decode cX1_start 0 = .ok (.aload_n 0, 1) := by decide +kernel
theorem dX1_start_1 : decode cX1_start 1 = .ok (.iconst 0, 1) := by decide +kernel
theorem dX1_start_2 : decode cX1_start 2 = .ok (.putfield 29, 3) := by decide +kernel
theorem dX1_start_5 : decode cX1_start 5 = .ok (.aload_n 0, 1) := by decide +kernel
theorem dX1_start_6 : decode cX1_start 6 = .ok (.iconst 0, 1) := by decide +kernel
theorem dX1_start_7 : decode cX1_start 7 = .ok (.putfield 25, 3) := by decide +kernel
theorem dX1_start_10 : decode cX1_start 10 = .ok (.aload_n 0, 1) := by decide +kernel
theorem dX1_start_11 : decode cX1_start 11 = .ok (.aload_n 0, 1) := by decide +kernel
theorem dX1_start_12 : decode cX1_start 12 = .ok (.getfield 12, 3) := by decide +kernel
theorem dX1_start_15 : decode cX1_start 15 = .ok (.iconst 0, 1) := by decide +kernel
theorem dX1_start_16 : decode cX1_start 16 = .ok (.invokevirtual 33, 3) := by decide +kernel
theorem dX1_start_19 : decode cX1_start 19 = .ok (.bipush 77, 2) := by decide +kernel
theorem dX1_start_21 : decode cX1_start 21 = .ok (.if_icmp .ne 7, 3) := by decide +kernel
theorem dX1_start_24 : decode cX1_start 24 = .ok (.iconst 1, 1) := by decide +kernel
theorem dX1_start_25 : decode cX1_start 25 = .ok (.goto 4, 3) := by decide +kernel
theorem dX1_start_28 : decode cX1_start 28 = .ok (.iconst 0, 1) := by decide +kernel
theorem dX1_start_29 : decode cX1_start 29 = .ok (.invokevirtual 37, 3) := by decide +kernel
theorem dX1_start_32 : decode cX1_start 32 = .ok (.return_, 1) := by decide +kernel
theorem dX1_readsCommand_0 : decode cX1_readsCommand 0 = .ok (.aload_n 0, 1) := by decide +kernel
theorem dX1_readsCommand_1 : decode cX1_readsCommand 1 = .ok (.getfield 25, 3) := by decide +kernel
theorem dX1_readsCommand_4 : decode cX1_readsCommand 4 = .ok (.ifCond .ne 18, 3) := by decide +kernel
theorem dX1_readsCommand_7 : decode cX1_readsCommand 7 = .ok (.aload_n 0, 1) := by decide +kernel
theorem dX1_readsCommand_8 : decode cX1_readsCommand 8 = .ok (.getfield 12, 3) := by decide +kernel
theorem dX1_readsCommand_11 : decode cX1_readsCommand 11 = .ok (.aload_n 0, 1) := by decide +kernel
theorem dX1_readsCommand_12 : decode cX1_readsCommand 12 = .ok (.getfield 29, 3) := by decide +kernel
theorem dX1_readsCommand_15 : decode cX1_readsCommand 15 = .ok (.invokevirtual 33, 3) := by decide +kernel
theorem dX1_readsCommand_18 : decode cX1_readsCommand 18 = .ok (.iconst (-1), 1) := by decide +kernel
theorem dX1_readsCommand_19 : decode cX1_readsCommand 19 = .ok (.if_icmp .ne 5, 3) := by decide +kernel
theorem dX1_readsCommand_22 : decode cX1_readsCommand 22 = .ok (.iconst 0, 1) := by decide +kernel
theorem dX1_readsCommand_23 : decode cX1_readsCommand 23 = .ok (.ireturn, 1) := by decide +kernel
theorem dX1_readsCommand_24 : decode cX1_readsCommand 24 = .ok (.aload_n 0, 1) := by decide +kernel
theorem dX1_readsCommand_25 : decode cX1_readsCommand 25 = .ok (.aload_n 0, 1) := by decide +kernel
theorem dX1_readsCommand_26 : decode cX1_readsCommand 26 = .ok (.getfield 12, 3) := by decide +kernel
theorem dX1_readsCommand_29 : decode cX1_readsCommand 29 = .ok (.aload_n 0, 1) := by decide +kernel
theorem dX1_readsCommand_30 : decode cX1_readsCommand 30 = .ok (.getfield 29, 3) := by decide +kernel
theorem dX1_readsCommand_33 : decode cX1_readsCommand 33 = .ok (.invokevirtual 33, 3) := by decide +kernel
theorem dX1_readsCommand_36 : decode cX1_readsCommand 36 = .ok (.putfield 41, 3) := by decide +kernel
theorem dX1_readsCommand_39 : decode cX1_readsCommand 39 = .ok (.aload_n 0, 1) := by decide +kernel
theorem dX1_readsCommand_40 : decode cX1_readsCommand 40 = .ok (.aload_n 0, 1) := by decide +kernel
theorem dX1_readsCommand_41 : decode cX1_readsCommand 41 = .ok (.getfield 41, 3) := by decide +kernel
theorem dX1_readsCommand_44 : decode cX1_readsCommand 44 = .ok (.invokestatic 44, 3) := by decide +kernel
theorem dX1_readsCommand_47 : decode cX1_readsCommand 47 = .ok (.invokevirtual 37, 3) := by decide +kernel
theorem dX1_readsCommand_50 : decode cX1_readsCommand 50 = .ok (.aload_n 0, 1) := by decide +kernel
theorem dX1_readsCommand_51 : decode cX1_readsCommand 51 = .ok (.getfield 25, 3) := by decide +kernel
theorem dX1_readsCommand_54 : decode cX1_readsCommand 54 = .ok (.ifCond .eq 5, 3) := by decide +kernel
theorem dX1_readsCommand_57 : decode cX1_readsCommand 57 = .ok (.iconst 0, 1) := by decide +kernel
theorem dX1_readsCommand_58 : decode cX1_readsCommand 58 = .ok (.ireturn, 1) := by decide +kernel
theorem dX1_readsCommand_59 : decode cX1_readsCommand 59 = .ok (.aload_n 0, 1) := by decide +kernel
theorem dX1_readsCommand_60 : decode cX1_readsCommand 60 = .ok (.getfield 41, 3) := by decide +kernel
theorem dX1_readsCommand_63 : decode cX1_readsCommand 63 = .ok (.lookupswitch 95 #[(108, 79), (109, 64), (114, 33)], 33) := by decide +kernel
theorem dX1_readsCommand_96 : decode cX1_readsCommand 96 = .ok (.aload_n 0, 1) := by decide +kernel
theorem dX1_readsCommand_97 : decode cX1_readsCommand 97 = .ok (.aload_n 0, 1) := by decide +kernel
theorem dX1_readsCommand_98 : decode cX1_readsCommand 98 = .ok (.iconst 2, 1) := by decide +kernel
theorem dX1_readsCommand_99 : decode cX1_readsCommand 99 = .ok (.iconst 1, 1) := by decide +kernel
theorem dX1_readsCommand_100 : decode cX1_readsCommand 100 = .ok (.bipush 50, 2) := by decide +kernel
theorem dX1_readsCommand_102 : decode cX1_readsCommand 102 = .ok (.invokevirtual 48, 3) := by decide +kernel
theorem dX1_readsCommand_105 : decode cX1_readsCommand 105 = .ok (.putfield 52, 3) := by decide +kernel
theorem dX1_readsCommand_108 : decode cX1_readsCommand 108 = .ok (.aload_n 0, 1) := by decide +kernel
theorem dX1_readsCommand_109 : decode cX1_readsCommand 109 = .ok (.aload_n 0, 1) := by decide +kernel
theorem dX1_readsCommand_110 : decode cX1_readsCommand 110 = .ok (.invokevirtual 55, 3) := by decide +kernel
theorem dX1_readsCommand_113 : decode cX1_readsCommand 113 = .ok (.putfield 59, 3) := by decide +kernel
theorem dX1_readsCommand_116 : decode cX1_readsCommand 116 = .ok (.aload_n 0, 1) := by decide +kernel
theorem dX1_readsCommand_117 : decode cX1_readsCommand 117 = .ok (.aload_n 0, 1) := by decide +kernel
theorem dX1_readsCommand_118 : decode cX1_readsCommand 118 = .ok (.invokevirtual 55, 3) := by decide +kernel
theorem dX1_readsCommand_121 : decode cX1_readsCommand 121 = .ok (.putfield 62, 3) := by decide +kernel
theorem dX1_readsCommand_124 : decode cX1_readsCommand 124 = .ok (.goto 45, 3) := by decide +kernel
theorem dX1_readsCommand_127 : decode cX1_readsCommand 127 = .ok (.aload_n 0, 1) := by decide +kernel
theorem dX1_readsCommand_128 : decode cX1_readsCommand 128 = .ok (.aload_n 0, 1) := by decide +kernel
theorem dX1_readsCommand_129 : decode cX1_readsCommand 129 = .ok (.iconst 2, 1) := by decide +kernel
theorem dX1_readsCommand_130 : decode cX1_readsCommand 130 = .ok (.iconst 1, 1) := by decide +kernel
theorem dX1_readsCommand_131 : decode cX1_readsCommand 131 = .ok (.bipush 60, 2) := by decide +kernel
theorem dX1_readsCommand_133 : decode cX1_readsCommand 133 = .ok (.invokevirtual 48, 3) := by decide +kernel
theorem dX1_readsCommand_136 : decode cX1_readsCommand 136 = .ok (.putfield 52, 3) := by decide +kernel
theorem dX1_readsCommand_139 : decode cX1_readsCommand 139 = .ok (.goto 30, 3) := by decide +kernel
theorem dX1_readsCommand_142 : decode cX1_readsCommand 142 = .ok (.aload_n 0, 1) := by decide +kernel
theorem dX1_readsCommand_143 : decode cX1_readsCommand 143 = .ok (.aload_n 0, 1) := by decide +kernel
theorem dX1_readsCommand_144 : decode cX1_readsCommand 144 = .ok (.iconst 4, 1) := by decide +kernel
theorem dX1_readsCommand_145 : decode cX1_readsCommand 145 = .ok (.iconst 0, 1) := by decide +kernel
theorem dX1_readsCommand_146 : decode cX1_readsCommand 146 = .ok (.sipush 9999, 3) := by decide +kernel
theorem dX1_readsCommand_149 : decode cX1_readsCommand 149 = .ok (.invokevirtual 48, 3) := by decide +kernel
theorem dX1_readsCommand_152 : decode cX1_readsCommand 152 = .ok (.putfield 52, 3) := by decide +kernel
theorem dX1_readsCommand_155 : decode cX1_readsCommand 155 = .ok (.goto 14, 3) := by decide +kernel
theorem dX1_readsCommand_158 : decode cX1_readsCommand 158 = .ok (.aload_n 0, 1) := by decide +kernel
theorem dX1_readsCommand_159 : decode cX1_readsCommand 159 = .ok (.aload_n 0, 1) := by decide +kernel
theorem dX1_readsCommand_160 : decode cX1_readsCommand 160 = .ok (.iconst 1, 1) := by decide +kernel
theorem dX1_readsCommand_161 : decode cX1_readsCommand 161 = .ok (.iconst 0, 1) := by decide +kernel
theorem dX1_readsCommand_162 : decode cX1_readsCommand 162 = .ok (.iconst 5, 1) := by decide +kernel
theorem dX1_readsCommand_163 : decode cX1_readsCommand 163 = .ok (.invokevirtual 48, 3) := by decide +kernel
theorem dX1_readsCommand_166 : decode cX1_readsCommand 166 = .ok (.putfield 52, 3) := by decide +kernel
theorem dX1_readsCommand_169 : decode cX1_readsCommand 169 = .ok (.aload_n 0, 1) := by decide +kernel
theorem dX1_readsCommand_170 : decode cX1_readsCommand 170 = .ok (.getfield 25, 3) := by decide +kernel
theorem dX1_readsCommand_173 : decode cX1_readsCommand 173 = .ok (.ifCond .ne 7, 3) := by decide +kernel
theorem dX1_readsCommand_176 : decode cX1_readsCommand 176 = .ok (.iconst 1, 1) := by decide +kernel
theorem dX1_readsCommand_177 : decode cX1_readsCommand 177 = .ok (.goto 4, 3) := by decide +kernel
theorem dX1_readsCommand_180 : decode cX1_readsCommand 180 = .ok (.iconst 0, 1) := by decide +kernel
theorem dX1_readsCommand_181 : decode cX1_readsCommand 181 = .ok (.ireturn, 1) := by decide +kernel
theorem dX1_isCommand_0 : decode cX1_isCommand 0 = .ok (.iload_n 0, 1) := by decide +kernel
theorem dX1_isCommand_1 : decode cX1_isCommand 1 = .ok (.bipush 114, 2) := by decide +kernel
theorem dX1_isCommand_3 : decode cX1_isCommand 3 = .ok (.if_icmp .eq 27, 3) := by decide +kernel
theorem dX1_isCommand_6 : decode cX1_isCommand 6 = .ok (.iload_n 0, 1) := by decide +kernel
theorem dX1_isCommand_7 : decode cX1_isCommand 7 = .ok (.bipush 111, 2) := by decide +kernel
theorem dX1_isCommand_9 : decode cX1_isCommand 9 = .ok (.if_icmp .eq 21, 3) := by decide +kernel
theorem dX1_isCommand_12 : decode cX1_isCommand 12 = .ok (.iload_n 0, 1) := by decide +kernel
theorem dX1_isCommand_13 : decode cX1_isCommand 13 = .ok (.bipush 122, 2) := by decide +kernel
theorem dX1_isCommand_15 : decode cX1_isCommand 15 = .ok (.if_icmp .eq 15, 3) := by decide +kernel
theorem dX1_isCommand_18 : decode cX1_isCommand 18 = .ok (.iload_n 0, 1) := by decide +kernel
theorem dX1_isCommand_19 : decode cX1_isCommand 19 = .ok (.bipush 109, 2) := by decide +kernel
theorem dX1_isCommand_21 : decode cX1_isCommand 21 = .ok (.if_icmp .eq 9, 3) := by decide +kernel
theorem dX1_isCommand_24 : decode cX1_isCommand 24 = .ok (.iload_n 0, 1) := by decide +kernel
theorem dX1_isCommand_25 : decode cX1_isCommand 25 = .ok (.bipush 108, 2) := by decide +kernel
theorem dX1_isCommand_27 : decode cX1_isCommand 27 = .ok (.if_icmp .ne 7, 3) := by decide +kernel
theorem dX1_isCommand_30 : decode cX1_isCommand 30 = .ok (.iconst 1, 1) := by decide +kernel
theorem dX1_isCommand_31 : decode cX1_isCommand 31 = .ok (.goto 4, 3) := by decide +kernel
theorem dX1_isCommand_34 : decode cX1_isCommand 34 = .ok (.iconst 0, 1) := by decide +kernel
theorem dX1_isCommand_35 : decode cX1_isCommand 35 = .ok (.ireturn, 1) := by decide +kernel
theorem dX1_moveIf_0 : decode cX1_moveIf 0 = .ok (.iload_n 1, 1) := by decide +kernel
theorem dX1_moveIf_1 : decode cX1_moveIf 1 = .ok (.ifCond .eq 23, 3) := by decide +kernel
theorem dX1_moveIf_4 : decode cX1_moveIf 4 = .ok (.aload_n 0, 1) := by decide +kernel
theorem dX1_moveIf_5 : decode cX1_moveIf 5 = .ok (.getfield 25, 3) := by decide +kernel
theorem dX1_moveIf_8 : decode cX1_moveIf 8 = .ok (.ifCond .ne 16, 3) := by decide +kernel
theorem dX1_moveIf_11 : decode cX1_moveIf 11 = .ok (.aload_n 0, 1) := by decide +kernel
theorem dX1_moveIf_12 : decode cX1_moveIf 12 = .ok (.dup, 1) := by decide +kernel
theorem dX1_moveIf_13 : decode cX1_moveIf 13 = .ok (.getfield 29, 3) := by decide +kernel
theorem dX1_moveIf_16 : decode cX1_moveIf 16 = .ok (.iconst 1, 1) := by decide +kernel
theorem dX1_moveIf_17 : decode cX1_moveIf 17 = .ok (.iadd, 1) := by decide +kernel
theorem dX1_moveIf_18 : decode cX1_moveIf 18 = .ok (.putfield 29, 3) := by decide +kernel
theorem dX1_moveIf_21 : decode cX1_moveIf 21 = .ok (.goto 8, 3) := by decide +kernel
theorem dX1_moveIf_24 : decode cX1_moveIf 24 = .ok (.aload_n 0, 1) := by decide +kernel
theorem dX1_moveIf_25 : decode cX1_moveIf 25 = .ok (.iconst 1, 1) := by decide +kernel
theorem dX1_moveIf_26 : decode cX1_moveIf 26 = .ok (.putfield 25, 3) := by decide +kernel
theorem dX1_moveIf_29 : decode cX1_moveIf 29 = .ok (.return_, 1) := by decide +kernel
theorem dX1_readTemperature_0 : decode cX1_readTemperature 0 = .ok (.aload_n 0, 1) := by decide +kernel
theorem dX1_readTemperature_1 : decode cX1_readTemperature 1 = .ok (.getfield 12, 3) := by decide +kernel
theorem dX1_readTemperature_4 : decode cX1_readTemperature 4 = .ok (.aload_n 0, 1) := by decide +kernel
theorem dX1_readTemperature_5 : decode cX1_readTemperature 5 = .ok (.getfield 29, 3) := by decide +kernel
theorem dX1_readTemperature_8 : decode cX1_readTemperature 8 = .ok (.invokevirtual 33, 3) := by decide +kernel
theorem dX1_readTemperature_11 : decode cX1_readTemperature 11 = .ok (.istore_n 1, 1) := by decide +kernel
theorem dX1_readTemperature_12 : decode cX1_readTemperature 12 = .ok (.aload_n 0, 1) := by decide +kernel
theorem dX1_readTemperature_13 : decode cX1_readTemperature 13 = .ok (.iload_n 1, 1) := by decide +kernel
theorem dX1_readTemperature_14 : decode cX1_readTemperature 14 = .ok (.bipush 43, 2) := by decide +kernel
theorem dX1_readTemperature_16 : decode cX1_readTemperature 16 = .ok (.if_icmp .eq 9, 3) := by decide +kernel
theorem dX1_readTemperature_19 : decode cX1_readTemperature 19 = .ok (.iload_n 1, 1) := by decide +kernel
theorem dX1_readTemperature_20 : decode cX1_readTemperature 20 = .ok (.bipush 45, 2) := by decide +kernel
theorem dX1_readTemperature_22 : decode cX1_readTemperature 22 = .ok (.if_icmp .ne 7, 3) := by decide +kernel
theorem dX1_readTemperature_25 : decode cX1_readTemperature 25 = .ok (.iconst 1, 1) := by decide +kernel
theorem dX1_readTemperature_26 : decode cX1_readTemperature 26 = .ok (.goto 4, 3) := by decide +kernel
theorem dX1_readTemperature_29 : decode cX1_readTemperature 29 = .ok (.iconst 0, 1) := by decide +kernel
theorem dX1_readTemperature_30 : decode cX1_readTemperature 30 = .ok (.invokevirtual 37, 3) := by decide +kernel
theorem dX1_readTemperature_33 : decode cX1_readTemperature 33 = .ok (.iload_n 1, 1) := by decide +kernel
theorem dX1_readTemperature_34 : decode cX1_readTemperature 34 = .ok (.bipush 45, 2) := by decide +kernel
theorem dX1_readTemperature_36 : decode cX1_readTemperature 36 = .ok (.if_icmp .ne 14, 3) := by decide +kernel
theorem dX1_readTemperature_39 : decode cX1_readTemperature 39 = .ok (.aload_n 0, 1) := by decide +kernel
theorem dX1_readTemperature_40 : decode cX1_readTemperature 40 = .ok (.iconst 3, 1) := by decide +kernel
theorem dX1_readTemperature_41 : decode cX1_readTemperature 41 = .ok (.iconst 0, 1) := by decide +kernel
theorem dX1_readTemperature_42 : decode cX1_readTemperature 42 = .ok (.sipush 300, 3) := by decide +kernel
theorem dX1_readTemperature_45 : decode cX1_readTemperature 45 = .ok (.invokevirtual 48, 3) := by decide +kernel
theorem dX1_readTemperature_48 : decode cX1_readTemperature 48 = .ok (.ineg, 1) := by decide +kernel
theorem dX1_readTemperature_49 : decode cX1_readTemperature 49 = .ok (.ireturn, 1) := by decide +kernel
theorem dX1_readTemperature_50 : decode cX1_readTemperature 50 = .ok (.aload_n 0, 1) := by decide +kernel
theorem dX1_readTemperature_51 : decode cX1_readTemperature 51 = .ok (.iconst 3, 1) := by decide +kernel
theorem dX1_readTemperature_52 : decode cX1_readTemperature 52 = .ok (.iconst 0, 1) := by decide +kernel
theorem dX1_readTemperature_53 : decode cX1_readTemperature 53 = .ok (.sipush 200, 3) := by decide +kernel
theorem dX1_readTemperature_56 : decode cX1_readTemperature 56 = .ok (.invokevirtual 48, 3) := by decide +kernel
theorem dX1_readTemperature_59 : decode cX1_readTemperature 59 = .ok (.ireturn, 1) := by decide +kernel
theorem dX1_readNumber_0 : decode cX1_readNumber 0 = .ok (.iconst 0, 1) := by decide +kernel
theorem dX1_readNumber_1 : decode cX1_readNumber 1 = .ok (.istore 4, 2) := by decide +kernel
theorem dX1_readNumber_3 : decode cX1_readNumber 3 = .ok (.iconst 1, 1) := by decide +kernel
theorem dX1_readNumber_4 : decode cX1_readNumber 4 = .ok (.istore 5, 2) := by decide +kernel
theorem dX1_readNumber_6 : decode cX1_readNumber 6 = .ok (.iload 5, 2) := by decide +kernel
theorem dX1_readNumber_8 : decode cX1_readNumber 8 = .ok (.iload_n 1, 1) := by decide +kernel
theorem dX1_readNumber_9 : decode cX1_readNumber 9 = .ok (.if_icmp .gt 85, 3) := by decide +kernel
theorem dX1_readNumber_12 : decode cX1_readNumber 12 = .ok (.aload_n 0, 1) := by decide +kernel
theorem dX1_readNumber_13 : decode cX1_readNumber 13 = .ok (.getfield 12, 3) := by decide +kernel
theorem dX1_readNumber_16 : decode cX1_readNumber 16 = .ok (.aload_n 0, 1) := by decide +kernel
theorem dX1_readNumber_17 : decode cX1_readNumber 17 = .ok (.getfield 29, 3) := by decide +kernel
theorem dX1_readNumber_20 : decode cX1_readNumber 20 = .ok (.invokevirtual 33, 3) := by decide +kernel
theorem dX1_readNumber_23 : decode cX1_readNumber 23 = .ok (.istore 6, 2) := by decide +kernel
theorem dX1_readNumber_25 : decode cX1_readNumber 25 = .ok (.iload 4, 2) := by decide +kernel
theorem dX1_readNumber_27 : decode cX1_readNumber 27 = .ok (.bipush 10, 2) := by decide +kernel
theorem dX1_readNumber_29 : decode cX1_readNumber 29 = .ok (.imul, 1) := by decide +kernel
theorem dX1_readNumber_30 : decode cX1_readNumber 30 = .ok (.iload 6, 2) := by decide +kernel
theorem dX1_readNumber_32 : decode cX1_readNumber 32 = .ok (.iadd, 1) := by decide +kernel
theorem dX1_readNumber_33 : decode cX1_readNumber 33 = .ok (.bipush 48, 2) := by decide +kernel
theorem dX1_readNumber_35 : decode cX1_readNumber 35 = .ok (.isub, 1) := by decide +kernel
theorem dX1_readNumber_36 : decode cX1_readNumber 36 = .ok (.istore 7, 2) := by decide +kernel
theorem dX1_readNumber_38 : decode cX1_readNumber 38 = .ok (.aload_n 0, 1) := by decide +kernel
theorem dX1_readNumber_39 : decode cX1_readNumber 39 = .ok (.iload 6, 2) := by decide +kernel
theorem dX1_readNumber_41 : decode cX1_readNumber 41 = .ok (.bipush 48, 2) := by decide +kernel
theorem dX1_readNumber_43 : decode cX1_readNumber 43 = .ok (.if_icmp .lt 28, 3) := by decide +kernel
theorem dX1_readNumber_46 : decode cX1_readNumber 46 = .ok (.iload 6, 2) := by decide +kernel
theorem dX1_readNumber_48 : decode cX1_readNumber 48 = .ok (.bipush 57, 2) := by decide +kernel
theorem dX1_readNumber_50 : decode cX1_readNumber 50 = .ok (.if_icmp .gt 21, 3) := by decide +kernel
theorem dX1_readNumber_53 : decode cX1_readNumber 53 = .ok (.iload 7, 2) := by decide +kernel
theorem dX1_readNumber_55 : decode cX1_readNumber 55 = .ok (.iload_n 1, 1) := by decide +kernel
theorem dX1_readNumber_56 : decode cX1_readNumber 56 = .ok (.iload 5, 2) := by decide +kernel
theorem dX1_readNumber_58 : decode cX1_readNumber 58 = .ok (.isub, 1) := by decide +kernel
theorem dX1_readNumber_59 : decode cX1_readNumber 59 = .ok (.iload_n 2, 1) := by decide +kernel
theorem dX1_readNumber_60 : decode cX1_readNumber 60 = .ok (.iload_n 3, 1) := by decide +kernel
theorem dX1_readNumber_61 : decode cX1_readNumber 61 = .ok (.invokestatic 65, 3) := by decide +kernel
theorem dX1_readNumber_64 : decode cX1_readNumber 64 = .ok (.ifCond .eq 7, 3) := by decide +kernel
theorem dX1_readNumber_67 : decode cX1_readNumber 67 = .ok (.iconst 1, 1) := by decide +kernel
theorem dX1_readNumber_68 : decode cX1_readNumber 68 = .ok (.goto 4, 3) := by decide +kernel
theorem dX1_readNumber_71 : decode cX1_readNumber 71 = .ok (.iconst 0, 1) := by decide +kernel
theorem dX1_readNumber_72 : decode cX1_readNumber 72 = .ok (.invokevirtual 37, 3) := by decide +kernel
theorem dX1_readNumber_75 : decode cX1_readNumber 75 = .ok (.aload_n 0, 1) := by decide +kernel
theorem dX1_readNumber_76 : decode cX1_readNumber 76 = .ok (.getfield 25, 3) := by decide +kernel
theorem dX1_readNumber_79 : decode cX1_readNumber 79 = .ok (.ifCond .eq 5, 3) := by decide +kernel
theorem dX1_readNumber_82 : decode cX1_readNumber 82 = .ok (.iconst 0, 1) := by decide +kernel
theorem dX1_readNumber_83 : decode cX1_readNumber 83 = .ok (.ireturn, 1) := by decide +kernel
theorem dX1_readNumber_84 : decode cX1_readNumber 84 = .ok (.iload 7, 2) := by decide +kernel
theorem dX1_readNumber_86 : decode cX1_readNumber 86 = .ok (.istore 4, 2) := by decide +kernel
theorem dX1_readNumber_88 : decode cX1_readNumber 88 = .ok (.iinc 5 1, 3) := by decide +kernel
theorem dX1_readNumber_91 : decode cX1_readNumber 91 = .ok (.goto (-85), 3) := by decide +kernel
theorem dX1_readNumber_94 : decode cX1_readNumber 94 = .ok (.iload 4, 2) := by decide +kernel
theorem dX1_readNumber_96 : decode cX1_readNumber 96 = .ok (.ireturn, 1) := by decide +kernel
theorem dX1_isBegun_0 : decode cX1_isBegun 0 = .ok (.iload_n 0, 1) := by decide +kernel
theorem dX1_isBegun_1 : decode cX1_isBegun 1 = .ok (.istore 4, 2) := by decide +kernel
theorem dX1_isBegun_3 : decode cX1_isBegun 3 = .ok (.iload_n 0, 1) := by decide +kernel
theorem dX1_isBegun_4 : decode cX1_isBegun 4 = .ok (.istore 5, 2) := by decide +kernel
theorem dX1_isBegun_6 : decode cX1_isBegun 6 = .ok (.iconst 0, 1) := by decide +kernel
theorem dX1_isBegun_7 : decode cX1_isBegun 7 = .ok (.istore 6, 2) := by decide +kernel
theorem dX1_isBegun_9 : decode cX1_isBegun 9 = .ok (.iload 6, 2) := by decide +kernel
theorem dX1_isBegun_11 : decode cX1_isBegun 11 = .ok (.iload_n 1, 1) := by decide +kernel
theorem dX1_isBegun_12 : decode cX1_isBegun 12 = .ok (.if_icmp .ge 26, 3) := by decide +kernel
theorem dX1_isBegun_15 : decode cX1_isBegun 15 = .ok (.iload 4, 2) := by decide +kernel
theorem dX1_isBegun_17 : decode cX1_isBegun 17 = .ok (.bipush 10, 2) := by decide +kernel
theorem dX1_isBegun_19 : decode cX1_isBegun 19 = .ok (.imul, 1) := by decide +kernel
theorem dX1_isBegun_20 : decode cX1_isBegun 20 = .ok (.istore 4, 2) := by decide +kernel
theorem dX1_isBegun_22 : decode cX1_isBegun 22 = .ok (.iload 5, 2) := by decide +kernel
theorem dX1_isBegun_24 : decode cX1_isBegun 24 = .ok (.bipush 10, 2) := by decide +kernel
theorem dX1_isBegun_26 : decode cX1_isBegun 26 = .ok (.imul, 1) := by decide +kernel
theorem dX1_isBegun_27 : decode cX1_isBegun 27 = .ok (.bipush 9, 2) := by decide +kernel
theorem dX1_isBegun_29 : decode cX1_isBegun 29 = .ok (.iadd, 1) := by decide +kernel
theorem dX1_isBegun_30 : decode cX1_isBegun 30 = .ok (.istore 5, 2) := by decide +kernel
theorem dX1_isBegun_32 : decode cX1_isBegun 32 = .ok (.iinc 6 1, 3) := by decide +kernel
theorem dX1_isBegun_35 : decode cX1_isBegun 35 = .ok (.goto (-26), 3) := by decide +kernel
theorem dX1_isBegun_38 : decode cX1_isBegun 38 = .ok (.iload 4, 2) := by decide +kernel
theorem dX1_isBegun_40 : decode cX1_isBegun 40 = .ok (.iload_n 3, 1) := by decide +kernel
theorem dX1_isBegun_41 : decode cX1_isBegun 41 = .ok (.if_icmp .gt 13, 3) := by decide +kernel
theorem dX1_isBegun_44 : decode cX1_isBegun 44 = .ok (.iload 5, 2) := by decide +kernel
theorem dX1_isBegun_46 : decode cX1_isBegun 46 = .ok (.iload_n 2, 1) := by decide +kernel
theorem dX1_isBegun_47 : decode cX1_isBegun 47 = .ok (.if_icmp .lt 7, 3) := by decide +kernel
theorem dX1_isBegun_50 : decode cX1_isBegun 50 = .ok (.iconst 1, 1) := by decide +kernel
theorem dX1_isBegun_51 : decode cX1_isBegun 51 = .ok (.goto 4, 3) := by decide +kernel
theorem dX1_isBegun_54 : decode cX1_isBegun 54 = .ok (.iconst 0, 1) := by decide +kernel
theorem dX1_isBegun_55 : decode cX1_isBegun 55 = .ok (.ireturn, 1) := by decide +kernel
theorem dX2_init_0 : decode cX2_init 0 = .ok (.aload_n 0, 1) := by decide +kernel
theorem dX2_init_1 : decode cX2_init 1 = .ok (.invokespecial 3, 3) := by decide +kernel
theorem dX2_init_4 : decode cX2_init 4 = .ok (.aload_n 0, 1) := by decide +kernel
theorem dX2_init_5 : decode cX2_init 5 = .ok (.iload_n 1, 1) := by decide +kernel
theorem dX2_init_6 : decode cX2_init 6 = .ok (.putfield 9, 3) := by decide +kernel
theorem dX2_init_9 : decode cX2_init 9 = .ok (.return_, 1) := by decide +kernel
theorem dX2_isThere_0 : decode cX2_isThere 0 = .ok (.aload_n 0, 1) := by decide +kernel
theorem dX2_isThere_1 : decode cX2_isThere 1 = .ok (.getfield 15, 3) := by decide +kernel
theorem dX2_isThere_4 : decode cX2_isThere 4 = .ok (.ifCond .le 7, 3) := by decide +kernel
theorem dX2_isThere_7 : decode cX2_isThere 7 = .ok (.iconst 1, 1) := by decide +kernel
theorem dX2_isThere_8 : decode cX2_isThere 8 = .ok (.goto 4, 3) := by decide +kernel
theorem dX2_isThere_11 : decode cX2_isThere 11 = .ok (.iconst 0, 1) := by decide +kernel
theorem dX2_isThere_12 : decode cX2_isThere 12 = .ok (.ireturn, 1) := by decide +kernel
theorem dX2_fill_0 : decode cX2_fill 0 = .ok (.aload_n 0, 1) := by decide +kernel
theorem dX2_fill_1 : decode cX2_fill 1 = .ok (.iload_n 1, 1) := by decide +kernel
theorem dX2_fill_2 : decode cX2_fill 2 = .ok (.putfield 15, 3) := by decide +kernel
theorem dX2_fill_5 : decode cX2_fill 5 = .ok (.aload_n 0, 1) := by decide +kernel
theorem dX2_fill_6 : decode cX2_fill 6 = .ok (.iload_n 2, 1) := by decide +kernel
theorem dX2_fill_7 : decode cX2_fill 7 = .ok (.putfield 18, 3) := by decide +kernel
theorem dX2_fill_10 : decode cX2_fill 10 = .ok (.aload_n 0, 1) := by decide +kernel
theorem dX2_fill_11 : decode cX2_fill 11 = .ok (.iload_n 3, 1) := by decide +kernel
theorem dX2_fill_12 : decode cX2_fill 12 = .ok (.putfield 21, 3) := by decide +kernel
theorem dX2_fill_15 : decode cX2_fill 15 = .ok (.aload_n 0, 1) := by decide +kernel
theorem dX2_fill_16 : decode cX2_fill 16 = .ok (.iload_n 2, 1) := by decide +kernel
theorem dX2_fill_17 : decode cX2_fill 17 = .ok (.putfield 24, 3) := by decide +kernel
theorem dX2_fill_20 : decode cX2_fill 20 = .ok (.aload_n 0, 1) := by decide +kernel
theorem dX2_fill_21 : decode cX2_fill 21 = .ok (.iconst 0, 1) := by decide +kernel
theorem dX2_fill_22 : decode cX2_fill 22 = .ok (.putfield 27, 3) := by decide +kernel
theorem dX2_fill_25 : decode cX2_fill 25 = .ok (.aload_n 0, 1) := by decide +kernel
theorem dX2_fill_26 : decode cX2_fill 26 = .ok (.iconst 0, 1) := by decide +kernel
theorem dX2_fill_27 : decode cX2_fill 27 = .ok (.putfield 31, 3) := by decide +kernel
theorem dX2_fill_30 : decode cX2_fill 30 = .ok (.aload_n 0, 1) := by decide +kernel
theorem dX2_fill_31 : decode cX2_fill 31 = .ok (.iconst 0, 1) := by decide +kernel
theorem dX2_fill_32 : decode cX2_fill 32 = .ok (.putfield 34, 3) := by decide +kernel
theorem dX2_fill_35 : decode cX2_fill 35 = .ok (.aload_n 0, 1) := by decide +kernel
theorem dX2_fill_36 : decode cX2_fill 36 = .ok (.iconst 0, 1) := by decide +kernel
theorem dX2_fill_37 : decode cX2_fill 37 = .ok (.putfield 37, 3) := by decide +kernel
theorem dX2_fill_40 : decode cX2_fill 40 = .ok (.return_, 1) := by decide +kernel
theorem dX2_copyFrom_0 : decode cX2_copyFrom 0 = .ok (.aload_n 0, 1) := by decide +kernel
theorem dX2_copyFrom_1 : decode cX2_copyFrom 1 = .ok (.aload_n 1, 1) := by decide +kernel
theorem dX2_copyFrom_2 : decode cX2_copyFrom 2 = .ok (.getfield 15, 3) := by decide +kernel
theorem dX2_copyFrom_5 : decode cX2_copyFrom 5 = .ok (.putfield 15, 3) := by decide +kernel
theorem dX2_copyFrom_8 : decode cX2_copyFrom 8 = .ok (.aload_n 0, 1) := by decide +kernel
theorem dX2_copyFrom_9 : decode cX2_copyFrom 9 = .ok (.aload_n 1, 1) := by decide +kernel
theorem dX2_copyFrom_10 : decode cX2_copyFrom 10 = .ok (.getfield 18, 3) := by decide +kernel
theorem dX2_copyFrom_13 : decode cX2_copyFrom 13 = .ok (.putfield 18, 3) := by decide +kernel
theorem dX2_copyFrom_16 : decode cX2_copyFrom 16 = .ok (.aload_n 0, 1) := by decide +kernel
theorem dX2_copyFrom_17 : decode cX2_copyFrom 17 = .ok (.aload_n 1, 1) := by decide +kernel
theorem dX2_copyFrom_18 : decode cX2_copyFrom 18 = .ok (.getfield 21, 3) := by decide +kernel
theorem dX2_copyFrom_21 : decode cX2_copyFrom 21 = .ok (.putfield 21, 3) := by decide +kernel
theorem dX2_copyFrom_24 : decode cX2_copyFrom 24 = .ok (.aload_n 0, 1) := by decide +kernel
theorem dX2_copyFrom_25 : decode cX2_copyFrom 25 = .ok (.aload_n 1, 1) := by decide +kernel
theorem dX2_copyFrom_26 : decode cX2_copyFrom 26 = .ok (.getfield 24, 3) := by decide +kernel
theorem dX2_copyFrom_29 : decode cX2_copyFrom 29 = .ok (.putfield 24, 3) := by decide +kernel
theorem dX2_copyFrom_32 : decode cX2_copyFrom 32 = .ok (.aload_n 0, 1) := by decide +kernel
theorem dX2_copyFrom_33 : decode cX2_copyFrom 33 = .ok (.aload_n 1, 1) := by decide +kernel
theorem dX2_copyFrom_34 : decode cX2_copyFrom 34 = .ok (.getfield 27, 3) := by decide +kernel
theorem dX2_copyFrom_37 : decode cX2_copyFrom 37 = .ok (.putfield 27, 3) := by decide +kernel
theorem dX2_copyFrom_40 : decode cX2_copyFrom 40 = .ok (.aload_n 0, 1) := by decide +kernel
theorem dX2_copyFrom_41 : decode cX2_copyFrom 41 = .ok (.aload_n 1, 1) := by decide +kernel
theorem dX2_copyFrom_42 : decode cX2_copyFrom 42 = .ok (.getfield 31, 3) := by decide +kernel
theorem dX2_copyFrom_45 : decode cX2_copyFrom 45 = .ok (.putfield 31, 3) := by decide +kernel
theorem dX2_copyFrom_48 : decode cX2_copyFrom 48 = .ok (.aload_n 0, 1) := by decide +kernel
theorem dX2_copyFrom_49 : decode cX2_copyFrom 49 = .ok (.aload_n 1, 1) := by decide +kernel
theorem dX2_copyFrom_50 : decode cX2_copyFrom 50 = .ok (.getfield 34, 3) := by decide +kernel
theorem dX2_copyFrom_53 : decode cX2_copyFrom 53 = .ok (.putfield 34, 3) := by decide +kernel
theorem dX2_copyFrom_56 : decode cX2_copyFrom 56 = .ok (.aload_n 0, 1) := by decide +kernel
theorem dX2_copyFrom_57 : decode cX2_copyFrom 57 = .ok (.aload_n 1, 1) := by decide +kernel
theorem dX2_copyFrom_58 : decode cX2_copyFrom 58 = .ok (.getfield 37, 3) := by decide +kernel
theorem dX2_copyFrom_61 : decode cX2_copyFrom 61 = .ok (.putfield 37, 3) := by decide +kernel
theorem dX2_copyFrom_64 : decode cX2_copyFrom 64 = .ok (.return_, 1) := by decide +kernel
theorem dX2_property_0 : decode cX2_property 0 = .ok (.iload_n 1, 1) := by decide +kernel
theorem dX2_property_1 : decode cX2_property 1 = .ok (.tableswitch 86 0 6 #[43, 48, 53, 58, 63, 76, 81], 43) := by decide +kernel
theorem dX2_property_44 : decode cX2_property 44 = .ok (.aload_n 0, 1) := by decide +kernel
theorem dX2_property_45 : decode cX2_property 45 = .ok (.getfield 15, 3) := by decide +kernel
theorem dX2_property_48 : decode cX2_property 48 = .ok (.ireturn, 1) := by decide +kernel
theorem dX2_property_49 : decode cX2_property 49 = .ok (.aload_n 0, 1) := by decide +kernel
theorem dX2_property_50 : decode cX2_property 50 = .ok (.getfield 18, 3) := by decide +kernel
theorem dX2_property_53 : decode cX2_property 53 = .ok (.ireturn, 1) := by decide +kernel
theorem dX2_property_54 : decode cX2_property 54 = .ok (.aload_n 0, 1) := by decide +kernel
theorem dX2_property_55 : decode cX2_property 55 = .ok (.getfield 21, 3) := by decide +kernel
theorem dX2_property_58 : decode cX2_property 58 = .ok (.ireturn, 1) := by decide +kernel
theorem dX2_property_59 : decode cX2_property 59 = .ok (.aload_n 0, 1) := by decide +kernel
theorem dX2_property_60 : decode cX2_property 60 = .ok (.getfield 24, 3) := by decide +kernel
theorem dX2_property_63 : decode cX2_property 63 = .ok (.ireturn, 1) := by decide +kernel
theorem dX2_property_64 : decode cX2_property 64 = .ok (.aload_n 0, 1) := by decide +kernel
theorem dX2_property_65 : decode cX2_property 65 = .ok (.getfield 27, 3) := by decide +kernel
theorem dX2_property_68 : decode cX2_property 68 = .ok (.ifCond .eq 7, 3) := by decide +kernel
theorem dX2_property_71 : decode cX2_property 71 = .ok (.iconst 1, 1) := by decide +kernel
theorem dX2_property_72 : decode cX2_property 72 = .ok (.goto 4, 3) := by decide +kernel
theorem dX2_property_75 : decode cX2_property 75 = .ok (.iconst 0, 1) := by decide +kernel
theorem dX2_property_76 : decode cX2_property 76 = .ok (.ireturn, 1) := by decide +kernel
theorem dX2_property_77 : decode cX2_property 77 = .ok (.aload_n 0, 1) := by decide +kernel
theorem dX2_property_78 : decode cX2_property 78 = .ok (.getfield 31, 3) := by decide +kernel
theorem dX2_property_81 : decode cX2_property 81 = .ok (.ireturn, 1) := by decide +kernel
theorem dX2_property_82 : decode cX2_property 82 = .ok (.aload_n 0, 1) := by decide +kernel
theorem dX2_property_83 : decode cX2_property 83 = .ok (.getfield 34, 3) := by decide +kernel
theorem dX2_property_86 : decode cX2_property 86 = .ok (.ireturn, 1) := by decide +kernel
theorem dX2_property_87 : decode cX2_property 87 = .ok (.aload_n 0, 1) := by decide +kernel
theorem dX2_property_88 : decode cX2_property 88 = .ok (.getfield 37, 3) := by decide +kernel
theorem dX2_property_91 : decode cX2_property 91 = .ok (.ireturn, 1) := by decide +kernel
theorem dX2_warmth_0 : decode cX2_warmth 0 = .ok (.aload_n 0, 1) := by decide +kernel
theorem dX2_warmth_1 : decode cX2_warmth 1 = .ok (.getfield 24, 3) := by decide +kernel
theorem dX2_warmth_4 : decode cX2_warmth 4 = .ok (.aload_n 0, 1) := by decide +kernel
theorem dX2_warmth_5 : decode cX2_warmth 5 = .ok (.getfield 21, 3) := by decide +kernel
theorem dX2_warmth_8 : decode cX2_warmth 8 = .ok (.isub, 1) := by decide +kernel
theorem dX2_warmth_9 : decode cX2_warmth 9 = .ok (.ireturn, 1) := by decide +kernel
theorem dX2_isWarm_0 : decode cX2_isWarm 0 = .ok (.aload_n 0, 1) := by decide +kernel
theorem dX2_isWarm_1 : decode cX2_isWarm 1 = .ok (.getfield 24, 3) := by decide +kernel
theorem dX2_isWarm_4 : decode cX2_isWarm 4 = .ok (.aload_n 0, 1) := by decide +kernel
theorem dX2_isWarm_5 : decode cX2_isWarm 5 = .ok (.getfield 21, 3) := by decide +kernel
theorem dX2_isWarm_8 : decode cX2_isWarm 8 = .ok (.if_icmp .lt 7, 3) := by decide +kernel
theorem dX2_isWarm_11 : decode cX2_isWarm 11 = .ok (.iconst 1, 1) := by decide +kernel
theorem dX2_isWarm_12 : decode cX2_isWarm 12 = .ok (.goto 4, 3) := by decide +kernel
theorem dX2_isWarm_15 : decode cX2_isWarm 15 = .ok (.iconst 0, 1) := by decide +kernel
theorem dX2_isWarm_16 : decode cX2_isWarm 16 = .ok (.ireturn, 1) := by decide +kernel
theorem dX2_planMust_0 : decode cX2_planMust 0 = .ok (.aload_n 0, 1) := by decide +kernel
theorem dX2_planMust_1 : decode cX2_planMust 1 = .ok (.getfield 15, 3) := by decide +kernel
theorem dX2_planMust_4 : decode cX2_planMust 4 = .ok (.ifCond .ne 6, 3) := by decide +kernel
theorem dX2_planMust_7 : decode cX2_planMust 7 = .ok (.bipush 8, 2) := by decide +kernel
theorem dX2_planMust_9 : decode cX2_planMust 9 = .ok (.ireturn, 1) := by decide +kernel
theorem dX2_planMust_10 : decode cX2_planMust 10 = .ok (.aload_n 0, 1) := by decide +kernel
theorem dX2_planMust_11 : decode cX2_planMust 11 = .ok (.getfield 34, 3) := by decide +kernel
theorem dX2_planMust_14 : decode cX2_planMust 14 = .ok (.ifCond .le 5, 3) := by decide +kernel
theorem dX2_planMust_17 : decode cX2_planMust 17 = .ok (.iconst 0, 1) := by decide +kernel
theorem dX2_planMust_18 : decode cX2_planMust 18 = .ok (.ireturn, 1) := by decide +kernel
theorem dX2_planMust_19 : decode cX2_planMust 19 = .ok (.aload_n 0, 1) := by decide +kernel
theorem dX2_planMust_20 : decode cX2_planMust 20 = .ok (.getfield 24, 3) := by decide +kernel
theorem dX2_planMust_23 : decode cX2_planMust 23 = .ok (.aload_n 0, 1) := by decide +kernel
theorem dX2_planMust_24 : decode cX2_planMust 24 = .ok (.getfield 21, 3) := by decide +kernel
theorem dX2_planMust_27 : decode cX2_planMust 27 = .ok (.if_icmp .lt 5, 3) := by decide +kernel
theorem dX2_planMust_30 : decode cX2_planMust 30 = .ok (.iconst 1, 1) := by decide +kernel
theorem dX2_planMust_31 : decode cX2_planMust 31 = .ok (.ireturn, 1) := by decide +kernel
theorem dX2_planMust_32 : decode cX2_planMust 32 = .ok (.aload_n 0, 1) := by decide +kernel
theorem dX2_planMust_33 : decode cX2_planMust 33 = .ok (.getfield 31, 3) := by decide +kernel
theorem dX2_planMust_36 : decode cX2_planMust 36 = .ok (.bipush 100, 2) := by decide +kernel
theorem dX2_planMust_38 : decode cX2_planMust 38 = .ok (.if_icmp .lt 7, 3) := by decide +kernel
theorem dX2_planMust_41 : decode cX2_planMust 41 = .ok (.iconst 2, 1) := by decide +kernel
theorem dX2_planMust_42 : decode cX2_planMust 42 = .ok (.goto 5, 3) := by decide +kernel
theorem dX2_planMust_45 : decode cX2_planMust 45 = .ok (.bipush 7, 2) := by decide +kernel
theorem dX2_planMust_47 : decode cX2_planMust 47 = .ok (.ireturn, 1) := by decide +kernel
theorem dX2_isHeated_0 : decode cX2_isHeated 0 = .ok (.aload_n 0, 1) := by decide +kernel
theorem dX2_isHeated_1 : decode cX2_isHeated 1 = .ok (.getfield 40, 3) := by decide +kernel
theorem dX2_isHeated_4 : decode cX2_isHeated 4 = .ok (.ifCond .eq 19, 3) := by decide +kernel
theorem dX2_isHeated_7 : decode cX2_isHeated 7 = .ok (.aload_n 0, 1) := by decide +kernel
theorem dX2_isHeated_8 : decode cX2_isHeated 8 = .ok (.getfield 40, 3) := by decide +kernel
theorem dX2_isHeated_11 : decode cX2_isHeated 11 = .ok (.iconst 2, 1) := by decide +kernel
theorem dX2_isHeated_12 : decode cX2_isHeated 12 = .ok (.if_icmp .eq 11, 3) := by decide +kernel
theorem dX2_isHeated_15 : decode cX2_isHeated 15 = .ok (.aload_n 0, 1) := by decide +kernel
theorem dX2_isHeated_16 : decode cX2_isHeated 16 = .ok (.getfield 40, 3) := by decide +kernel
theorem dX2_isHeated_19 : decode cX2_isHeated 19 = .ok (.iconst 5, 1) := by decide +kernel
theorem dX2_isHeated_20 : decode cX2_isHeated 20 = .ok (.if_icmp .ne 7, 3) := by decide +kernel
theorem dX2_isHeated_23 : decode cX2_isHeated 23 = .ok (.iconst 1, 1) := by decide +kernel
theorem dX2_isHeated_24 : decode cX2_isHeated 24 = .ok (.goto 4, 3) := by decide +kernel
theorem dX2_isHeated_27 : decode cX2_isHeated 27 = .ok (.iconst 0, 1) := by decide +kernel
theorem dX2_isHeated_28 : decode cX2_isHeated 28 = .ok (.ireturn, 1) := by decide +kernel
theorem dX2_isCooled_0 : decode cX2_isCooled 0 = .ok (.aload_n 0, 1) := by decide +kernel
theorem dX2_isCooled_1 : decode cX2_isCooled 1 = .ok (.getfield 40, 3) := by decide +kernel
theorem dX2_isCooled_4 : decode cX2_isCooled 4 = .ok (.iconst 1, 1) := by decide +kernel
theorem dX2_isCooled_5 : decode cX2_isCooled 5 = .ok (.if_icmp .eq 11, 3) := by decide +kernel
theorem dX2_isCooled_8 : decode cX2_isCooled 8 = .ok (.aload_n 0, 1) := by decide +kernel
theorem dX2_isCooled_9 : decode cX2_isCooled 9 = .ok (.getfield 40, 3) := by decide +kernel
theorem dX2_isCooled_12 : decode cX2_isCooled 12 = .ok (.iconst 3, 1) := by decide +kernel
theorem dX2_isCooled_13 : decode cX2_isCooled 13 = .ok (.if_icmp .ne 7, 3) := by decide +kernel
theorem dX2_isCooled_16 : decode cX2_isCooled 16 = .ok (.iconst 1, 1) := by decide +kernel
theorem dX2_isCooled_17 : decode cX2_isCooled 17 = .ok (.goto 4, 3) := by decide +kernel
theorem dX2_isCooled_20 : decode cX2_isCooled 20 = .ok (.iconst 0, 1) := by decide +kernel
theorem dX2_isCooled_21 : decode cX2_isCooled 21 = .ok (.ireturn, 1) := by decide +kernel
theorem dX2_changeTemperature_0 : decode cX2_changeTemperature 0 = .ok (.iconst 1, 1) := by decide +kernel
theorem dX2_changeTemperature_1 : decode cX2_changeTemperature 1 = .ok (.istore_n 1, 1) := by decide +kernel
theorem dX2_changeTemperature_2 : decode cX2_changeTemperature 2 = .ok (.aload_n 0, 1) := by decide +kernel
theorem dX2_changeTemperature_3 : decode cX2_changeTemperature 3 = .ok (.invokevirtual 43, 3) := by decide +kernel
theorem dX2_changeTemperature_6 : decode cX2_changeTemperature 6 = .ok (.ifCond .eq 9, 3) := by decide +kernel
theorem dX2_changeTemperature_9 : decode cX2_changeTemperature 9 = .ok (.bipush 6, 2) := by decide +kernel
theorem dX2_changeTemperature_11 : decode cX2_changeTemperature 11 = .ok (.istore_n 1, 1) := by decide +kernel
theorem dX2_changeTemperature_12 : decode cX2_changeTemperature 12 = .ok (.goto 22, 3) := by decide +kernel
theorem dX2_changeTemperature_15 : decode cX2_changeTemperature 15 = .ok (.aload_n 0, 1) := by decide +kernel
theorem dX2_changeTemperature_16 : decode cX2_changeTemperature 16 = .ok (.invokevirtual 47, 3) := by decide +kernel
theorem dX2_changeTemperature_19 : decode cX2_changeTemperature 19 = .ok (.ifCond .eq 15, 3) := by decide +kernel
theorem dX2_changeTemperature_22 : decode cX2_changeTemperature 22 = .ok (.bipush 8, 2) := by decide +kernel
theorem dX2_changeTemperature_24 : decode cX2_changeTemperature 24 = .ok (.aload_n 0, 1) := by decide +kernel
theorem dX2_changeTemperature_25 : decode cX2_changeTemperature 25 = .ok (.getfield 31, 3) := by decide +kernel
theorem dX2_changeTemperature_28 : decode cX2_changeTemperature 28 = .ok (.bipush 20, 2) := by decide +kernel
theorem dX2_changeTemperature_30 : decode cX2_changeTemperature 30 = .ok (.idiv, 1) := by decide +kernel
theorem dX2_changeTemperature_31 : decode cX2_changeTemperature 31 = .ok (.isub, 1) := by decide +kernel
theorem dX2_changeTemperature_32 : decode cX2_changeTemperature 32 = .ok (.ineg, 1) := by decide +kernel
theorem dX2_changeTemperature_33 : decode cX2_changeTemperature 33 = .ok (.istore_n 1, 1) := by decide +kernel
theorem dX2_changeTemperature_34 : decode cX2_changeTemperature 34 = .ok (.aload_n 0, 1) := by decide +kernel
theorem dX2_changeTemperature_35 : decode cX2_changeTemperature 35 = .ok (.getfield 27, 3) := by decide +kernel
theorem dX2_changeTemperature_38 : decode cX2_changeTemperature 38 = .ok (.ifCond .eq 6, 3) := by decide +kernel
theorem dX2_changeTemperature_41 : decode cX2_changeTemperature 41 = .ok (.iinc 1 4, 3) := by decide +kernel
theorem dX2_changeTemperature_44 : decode cX2_changeTemperature 44 = .ok (.aload_n 0, 1) := by decide +kernel
theorem dX2_changeTemperature_45 : decode cX2_changeTemperature 45 = .ok (.sipush (-400), 3) := by decide +kernel
theorem dX2_changeTemperature_48 : decode cX2_changeTemperature 48 = .ok (.sipush 400, 3) := by decide +kernel
theorem dX2_changeTemperature_51 : decode cX2_changeTemperature 51 = .ok (.aload_n 0, 1) := by decide +kernel
theorem dX2_changeTemperature_52 : decode cX2_changeTemperature 52 = .ok (.getfield 24, 3) := by decide +kernel
theorem dX2_changeTemperature_55 : decode cX2_changeTemperature 55 = .ok (.iload_n 1, 1) := by decide +kernel
theorem dX2_changeTemperature_56 : decode cX2_changeTemperature 56 = .ok (.iadd, 1) := by decide +kernel
theorem dX2_changeTemperature_57 : decode cX2_changeTemperature 57 = .ok (.invokestatic 50, 3) := by decide +kernel
theorem dX2_changeTemperature_60 : decode cX2_changeTemperature 60 = .ok (.invokestatic 56, 3) := by decide +kernel
theorem dX2_changeTemperature_63 : decode cX2_changeTemperature 63 = .ok (.putfield 24, 3) := by decide +kernel
theorem dX2_changeTemperature_66 : decode cX2_changeTemperature 66 = .ok (.return_, 1) := by decide +kernel
theorem dX2_changeFrost_0 : decode cX2_changeFrost 0 = .ok (.aload_n 0, 1) := by decide +kernel
theorem dX2_changeFrost_1 : decode cX2_changeFrost 1 = .ok (.invokevirtual 43, 3) := by decide +kernel
theorem dX2_changeFrost_4 : decode cX2_changeFrost 4 = .ok (.ifCond .eq 40, 3) := by decide +kernel
theorem dX2_changeFrost_7 : decode cX2_changeFrost 7 = .ok (.aload_n 0, 1) := by decide +kernel
theorem dX2_changeFrost_8 : decode cX2_changeFrost 8 = .ok (.iconst 0, 1) := by decide +kernel
theorem dX2_changeFrost_9 : decode cX2_changeFrost 9 = .ok (.aload_n 0, 1) := by decide +kernel
theorem dX2_changeFrost_10 : decode cX2_changeFrost 10 = .ok (.getfield 31, 3) := by decide +kernel
theorem dX2_changeFrost_13 : decode cX2_changeFrost 13 = .ok (.bipush 10, 2) := by decide +kernel
theorem dX2_changeFrost_15 : decode cX2_changeFrost 15 = .ok (.isub, 1) := by decide +kernel
theorem dX2_changeFrost_16 : decode cX2_changeFrost 16 = .ok (.invokestatic 56, 3) := by decide +kernel
theorem dX2_changeFrost_19 : decode cX2_changeFrost 19 = .ok (.putfield 31, 3) := by decide +kernel
theorem dX2_changeFrost_22 : decode cX2_changeFrost 22 = .ok (.aload_n 0, 1) := by decide +kernel
theorem dX2_changeFrost_23 : decode cX2_changeFrost 23 = .ok (.aload_n 0, 1) := by decide +kernel
theorem dX2_changeFrost_24 : decode cX2_changeFrost 24 = .ok (.getfield 31, 3) := by decide +kernel
theorem dX2_changeFrost_27 : decode cX2_changeFrost 27 = .ok (.ifCond .ne 7, 3) := by decide +kernel
theorem dX2_changeFrost_30 : decode cX2_changeFrost 30 = .ok (.iconst 0, 1) := by decide +kernel
theorem dX2_changeFrost_31 : decode cX2_changeFrost 31 = .ok (.goto 9, 3) := by decide +kernel
theorem dX2_changeFrost_34 : decode cX2_changeFrost 34 = .ok (.aload_n 0, 1) := by decide +kernel
theorem dX2_changeFrost_35 : decode cX2_changeFrost 35 = .ok (.getfield 34, 3) := by decide +kernel
theorem dX2_changeFrost_38 : decode cX2_changeFrost 38 = .ok (.iconst 1, 1) := by decide +kernel
theorem dX2_changeFrost_39 : decode cX2_changeFrost 39 = .ok (.isub, 1) := by decide +kernel
theorem dX2_changeFrost_40 : decode cX2_changeFrost 40 = .ok (.putfield 34, 3) := by decide +kernel
theorem dX2_changeFrost_43 : decode cX2_changeFrost 43 = .ok (.return_, 1) := by decide +kernel
theorem dX2_changeFrost_44 : decode cX2_changeFrost 44 = .ok (.aload_n 0, 1) := by decide +kernel
theorem dX2_changeFrost_45 : decode cX2_changeFrost 45 = .ok (.invokevirtual 47, 3) := by decide +kernel
theorem dX2_changeFrost_48 : decode cX2_changeFrost 48 = .ok (.ifCond .eq 7, 3) := by decide +kernel
theorem dX2_changeFrost_51 : decode cX2_changeFrost 51 = .ok (.iconst 1, 1) := by decide +kernel
theorem dX2_changeFrost_52 : decode cX2_changeFrost 52 = .ok (.goto 4, 3) := by decide +kernel
theorem dX2_changeFrost_55 : decode cX2_changeFrost 55 = .ok (.iconst 0, 1) := by decide +kernel
theorem dX2_changeFrost_56 : decode cX2_changeFrost 56 = .ok (.aload_n 0, 1) := by decide +kernel
theorem dX2_changeFrost_57 : decode cX2_changeFrost 57 = .ok (.getfield 27, 3) := by decide +kernel
theorem dX2_changeFrost_60 : decode cX2_changeFrost 60 = .ok (.ifCond .eq 7, 3) := by decide +kernel
theorem dX2_changeFrost_63 : decode cX2_changeFrost 63 = .ok (.iconst 2, 1) := by decide +kernel
theorem dX2_changeFrost_64 : decode cX2_changeFrost 64 = .ok (.goto 4, 3) := by decide +kernel
theorem dX2_changeFrost_67 : decode cX2_changeFrost 67 = .ok (.iconst 0, 1) := by decide +kernel
theorem dX2_changeFrost_68 : decode cX2_changeFrost 68 = .ok (.iadd, 1) := by decide +kernel
theorem dX2_changeFrost_69 : decode cX2_changeFrost 69 = .ok (.istore_n 1, 1) := by decide +kernel
theorem dX2_changeFrost_70 : decode cX2_changeFrost 70 = .ok (.aload_n 0, 1) := by decide +kernel
theorem dX2_changeFrost_71 : decode cX2_changeFrost 71 = .ok (.bipush 100, 2) := by decide +kernel
theorem dX2_changeFrost_73 : decode cX2_changeFrost 73 = .ok (.aload_n 0, 1) := by decide +kernel
theorem dX2_changeFrost_74 : decode cX2_changeFrost 74 = .ok (.getfield 31, 3) := by decide +kernel
theorem dX2_changeFrost_77 : decode cX2_changeFrost 77 = .ok (.iload_n 1, 1) := by decide +kernel
theorem dX2_changeFrost_78 : decode cX2_changeFrost 78 = .ok (.iadd, 1) := by decide +kernel
theorem dX2_changeFrost_79 : decode cX2_changeFrost 79 = .ok (.invokestatic 50, 3) := by decide +kernel
theorem dX2_changeFrost_82 : decode cX2_changeFrost 82 = .ok (.putfield 31, 3) := by decide +kernel
theorem dX2_changeFrost_85 : decode cX2_changeFrost 85 = .ok (.return_, 1) := by decide +kernel
theorem dX3_init_0 : decode cX3_init 0 = .ok (.aload_n 0, 1) := by decide +kernel
theorem dX3_init_1 : decode cX3_init 1 = .ok (.invokespecial 1, 3) := by decide +kernel
theorem dX3_init_4 : decode cX3_init 4 = .ok (.aload_n 0, 1) := by decide +kernel
theorem dX3_init_5 : decode cX3_init 5 = .ok (.sipush 600, 3) := by decide +kernel
theorem dX3_init_8 : decode cX3_init 8 = .ok (.putfield 7, 3) := by decide +kernel
theorem dX3_init_11 : decode cX3_init 11 = .ok (.aload_n 0, 1) := by decide +kernel
theorem dX3_init_12 : decode cX3_init 12 = .ok (.iconst 0, 1) := by decide +kernel
theorem dX3_init_13 : decode cX3_init 13 = .ok (.putfield 13, 3) := by decide +kernel
theorem dX3_init_16 : decode cX3_init 16 = .ok (.aload_n 0, 1) := by decide +kernel
theorem dX3_init_17 : decode cX3_init 17 = .ok (.bipush 10, 2) := by decide +kernel
theorem dX3_init_19 : decode cX3_init 19 = .ok (.putfield 16, 3) := by decide +kernel
theorem dX3_init_22 : decode cX3_init 22 = .ok (.aload_n 0, 1) := by decide +kernel
theorem dX3_init_23 : decode cX3_init 23 = .ok (.bipush 12, 2) := by decide +kernel
theorem dX3_init_25 : decode cX3_init 25 = .ok (.putfield 19, 3) := by decide +kernel
theorem dX3_init_28 : decode cX3_init 28 = .ok (.aload_n 0, 1) := by decide +kernel
theorem dX3_init_29 : decode cX3_init 29 = .ok (.bipush 30, 2) := by decide +kernel
theorem dX3_init_31 : decode cX3_init 31 = .ok (.putfield 22, 3) := by decide +kernel
theorem dX3_init_34 : decode cX3_init 34 = .ok (.aload_n 0, 1) := by decide +kernel
theorem dX3_init_35 : decode cX3_init 35 = .ok (.bipush 6, 2) := by decide +kernel
theorem dX3_init_37 : decode cX3_init 37 = .ok (.putfield 25, 3) := by decide +kernel
theorem dX3_init_40 : decode cX3_init 40 = .ok (.return_, 1) := by decide +kernel
theorem dX3_copyFrom_0 : decode cX3_copyFrom 0 = .ok (.aload_n 0, 1) := by decide +kernel
theorem dX3_copyFrom_1 : decode cX3_copyFrom 1 = .ok (.aload_n 1, 1) := by decide +kernel
theorem dX3_copyFrom_2 : decode cX3_copyFrom 2 = .ok (.getfield 7, 3) := by decide +kernel
theorem dX3_copyFrom_5 : decode cX3_copyFrom 5 = .ok (.putfield 7, 3) := by decide +kernel
theorem dX3_copyFrom_8 : decode cX3_copyFrom 8 = .ok (.aload_n 0, 1) := by decide +kernel
theorem dX3_copyFrom_9 : decode cX3_copyFrom 9 = .ok (.aload_n 1, 1) := by decide +kernel
theorem dX3_copyFrom_10 : decode cX3_copyFrom 10 = .ok (.getfield 13, 3) := by decide +kernel
theorem dX3_copyFrom_13 : decode cX3_copyFrom 13 = .ok (.putfield 13, 3) := by decide +kernel
theorem dX3_copyFrom_16 : decode cX3_copyFrom 16 = .ok (.aload_n 0, 1) := by decide +kernel
theorem dX3_copyFrom_17 : decode cX3_copyFrom 17 = .ok (.aload_n 1, 1) := by decide +kernel
theorem dX3_copyFrom_18 : decode cX3_copyFrom 18 = .ok (.getfield 16, 3) := by decide +kernel
theorem dX3_copyFrom_21 : decode cX3_copyFrom 21 = .ok (.putfield 16, 3) := by decide +kernel
theorem dX3_copyFrom_24 : decode cX3_copyFrom 24 = .ok (.aload_n 0, 1) := by decide +kernel
theorem dX3_copyFrom_25 : decode cX3_copyFrom 25 = .ok (.aload_n 1, 1) := by decide +kernel
theorem dX3_copyFrom_26 : decode cX3_copyFrom 26 = .ok (.getfield 19, 3) := by decide +kernel
theorem dX3_copyFrom_29 : decode cX3_copyFrom 29 = .ok (.putfield 19, 3) := by decide +kernel
theorem dX3_copyFrom_32 : decode cX3_copyFrom 32 = .ok (.aload_n 0, 1) := by decide +kernel
theorem dX3_copyFrom_33 : decode cX3_copyFrom 33 = .ok (.aload_n 1, 1) := by decide +kernel
theorem dX3_copyFrom_34 : decode cX3_copyFrom 34 = .ok (.getfield 22, 3) := by decide +kernel
theorem dX3_copyFrom_37 : decode cX3_copyFrom 37 = .ok (.putfield 22, 3) := by decide +kernel
theorem dX3_copyFrom_40 : decode cX3_copyFrom 40 = .ok (.aload_n 0, 1) := by decide +kernel
theorem dX3_copyFrom_41 : decode cX3_copyFrom 41 = .ok (.aload_n 1, 1) := by decide +kernel
theorem dX3_copyFrom_42 : decode cX3_copyFrom 42 = .ok (.getfield 25, 3) := by decide +kernel
theorem dX3_copyFrom_45 : decode cX3_copyFrom 45 = .ok (.putfield 25, 3) := by decide +kernel
theorem dX3_copyFrom_48 : decode cX3_copyFrom 48 = .ok (.return_, 1) := by decide +kernel
theorem dX3_isSetting_0 : decode cX3_isSetting 0 = .ok (.iload_n 0, 1) := by decide +kernel
theorem dX3_isSetting_1 : decode cX3_isSetting 1 = .ok (.ifCond .lt 23, 3) := by decide +kernel
theorem dX3_isSetting_4 : decode cX3_isSetting 4 = .ok (.iload_n 0, 1) := by decide +kernel
theorem dX3_isSetting_5 : decode cX3_isSetting 5 = .ok (.getstatic 28, 3) := by decide +kernel
theorem dX3_isSetting_8 : decode cX3_isSetting 8 = .ok (.arraylength, 1) := by decide +kernel
theorem dX3_isSetting_9 : decode cX3_isSetting 9 = .ok (.if_icmp .ge 15, 3) := by decide +kernel
theorem dX3_isSetting_12 : decode cX3_isSetting 12 = .ok (.iload_n 0, 1) := by decide +kernel
theorem dX3_isSetting_13 : decode cX3_isSetting 13 = .ok (.getstatic 34, 3) := by decide +kernel
theorem dX3_isSetting_16 : decode cX3_isSetting 16 = .ok (.arraylength, 1) := by decide +kernel
theorem dX3_isSetting_17 : decode cX3_isSetting 17 = .ok (.if_icmp .ge 7, 3) := by decide +kernel
theorem dX3_isSetting_20 : decode cX3_isSetting 20 = .ok (.iconst 1, 1) := by decide +kernel
theorem dX3_isSetting_21 : decode cX3_isSetting 21 = .ok (.goto 4, 3) := by decide +kernel
theorem dX3_isSetting_24 : decode cX3_isSetting 24 = .ok (.iconst 0, 1) := by decide +kernel
theorem dX3_isSetting_25 : decode cX3_isSetting 25 = .ok (.ireturn, 1) := by decide +kernel
theorem dX3_isAllowed_0 : decode cX3_isAllowed 0 = .ok (.iload_n 0, 1) := by decide +kernel
theorem dX3_isAllowed_1 : decode cX3_isAllowed 1 = .ok (.invokestatic 37, 3) := by decide +kernel
theorem dX3_isAllowed_4 : decode cX3_isAllowed 4 = .ok (.ifCond .eq 25, 3) := by decide +kernel
theorem dX3_isAllowed_7 : decode cX3_isAllowed 7 = .ok (.iload_n 1, 1) := by decide +kernel
theorem dX3_isAllowed_8 : decode cX3_isAllowed 8 = .ok (.getstatic 28, 3) := by decide +kernel
theorem dX3_isAllowed_11 : decode cX3_isAllowed 11 = .ok (.iload_n 0, 1) := by decide +kernel
theorem dX3_isAllowed_12 : decode cX3_isAllowed 12 = .ok (.iaload, 1) := by decide +kernel
theorem dX3_isAllowed_13 : decode cX3_isAllowed 13 = .ok (.if_icmp .lt 16, 3) := by decide +kernel
theorem dX3_isAllowed_16 : decode cX3_isAllowed 16 = .ok (.iload_n 1, 1) := by decide +kernel
theorem dX3_isAllowed_17 : decode cX3_isAllowed 17 = .ok (.getstatic 34, 3) := by decide +kernel
theorem dX3_isAllowed_20 : decode cX3_isAllowed 20 = .ok (.iload_n 0, 1) := by decide +kernel
theorem dX3_isAllowed_21 : decode cX3_isAllowed 21 = .ok (.iaload, 1) := by decide +kernel
theorem dX3_isAllowed_22 : decode cX3_isAllowed 22 = .ok (.if_icmp .gt 7, 3) := by decide +kernel
theorem dX3_isAllowed_25 : decode cX3_isAllowed 25 = .ok (.iconst 1, 1) := by decide +kernel
theorem dX3_isAllowed_26 : decode cX3_isAllowed 26 = .ok (.goto 4, 3) := by decide +kernel
theorem dX3_isAllowed_29 : decode cX3_isAllowed 29 = .ok (.iconst 0, 1) := by decide +kernel
theorem dX3_isAllowed_30 : decode cX3_isAllowed 30 = .ok (.ireturn, 1) := by decide +kernel
theorem dX3_value_0 : decode cX3_value 0 = .ok (.iload_n 1, 1) := by decide +kernel
theorem dX3_value_1 : decode cX3_value 1 = .ok (.tableswitch 60 0 4 #[35, 40, 45, 50, 55], 35) := by decide +kernel
theorem dX3_value_36 : decode cX3_value 36 = .ok (.aload_n 0, 1) := by decide +kernel
theorem dX3_value_37 : decode cX3_value 37 = .ok (.getfield 7, 3) := by decide +kernel
theorem dX3_value_40 : decode cX3_value 40 = .ok (.ireturn, 1) := by decide +kernel
theorem dX3_value_41 : decode cX3_value 41 = .ok (.aload_n 0, 1) := by decide +kernel
theorem dX3_value_42 : decode cX3_value 42 = .ok (.getfield 13, 3) := by decide +kernel
theorem dX3_value_45 : decode cX3_value 45 = .ok (.ireturn, 1) := by decide +kernel
theorem dX3_value_46 : decode cX3_value 46 = .ok (.aload_n 0, 1) := by decide +kernel
theorem dX3_value_47 : decode cX3_value 47 = .ok (.getfield 16, 3) := by decide +kernel
theorem dX3_value_50 : decode cX3_value 50 = .ok (.ireturn, 1) := by decide +kernel
theorem dX3_value_51 : decode cX3_value 51 = .ok (.aload_n 0, 1) := by decide +kernel
theorem dX3_value_52 : decode cX3_value 52 = .ok (.getfield 19, 3) := by decide +kernel
theorem dX3_value_55 : decode cX3_value 55 = .ok (.ireturn, 1) := by decide +kernel
theorem dX3_value_56 : decode cX3_value 56 = .ok (.aload_n 0, 1) := by decide +kernel
theorem dX3_value_57 : decode cX3_value 57 = .ok (.getfield 22, 3) := by decide +kernel
theorem dX3_value_60 : decode cX3_value 60 = .ok (.ireturn, 1) := by decide +kernel
theorem dX3_value_61 : decode cX3_value 61 = .ok (.aload_n 0, 1) := by decide +kernel
theorem dX3_value_62 : decode cX3_value 62 = .ok (.getfield 25, 3) := by decide +kernel
theorem dX3_value_65 : decode cX3_value 65 = .ok (.ireturn, 1) := by decide +kernel
theorem dX3_change_0 : decode cX3_change 0 = .ok (.iload_n 1, 1) := by decide +kernel
theorem dX3_change_1 : decode cX3_change 1 = .ok (.tableswitch 75 0 4 #[35, 43, 51, 59, 67], 35) := by decide +kernel
theorem dX3_change_36 : decode cX3_change 36 = .ok (.aload_n 0, 1) := by decide +kernel
theorem dX3_change_37 : decode cX3_change 37 = .ok (.iload_n 2, 1) := by decide +kernel
theorem dX3_change_38 : decode cX3_change 38 = .ok (.putfield 7, 3) := by decide +kernel
theorem dX3_change_41 : decode cX3_change 41 = .ok (.goto 40, 3) := by decide +kernel
theorem dX3_change_44 : decode cX3_change 44 = .ok (.aload_n 0, 1) := by decide +kernel
theorem dX3_change_45 : decode cX3_change 45 = .ok (.iload_n 2, 1) := by decide +kernel
theorem dX3_change_46 : decode cX3_change 46 = .ok (.putfield 13, 3) := by decide +kernel
theorem dX3_change_49 : decode cX3_change 49 = .ok (.goto 32, 3) := by decide +kernel
theorem dX3_change_52 : decode cX3_change 52 = .ok (.aload_n 0, 1) := by decide +kernel
theorem dX3_change_53 : decode cX3_change 53 = .ok (.iload_n 2, 1) := by decide +kernel
theorem dX3_change_54 : decode cX3_change 54 = .ok (.putfield 16, 3) := by decide +kernel
theorem dX3_change_57 : decode cX3_change 57 = .ok (.goto 24, 3) := by decide +kernel
theorem dX3_change_60 : decode cX3_change 60 = .ok (.aload_n 0, 1) := by decide +kernel
theorem dX3_change_61 : decode cX3_change 61 = .ok (.iload_n 2, 1) := by decide +kernel
theorem dX3_change_62 : decode cX3_change 62 = .ok (.putfield 19, 3) := by decide +kernel
theorem dX3_change_65 : decode cX3_change 65 = .ok (.goto 16, 3) := by decide +kernel
theorem dX3_change_68 : decode cX3_change 68 = .ok (.aload_n 0, 1) := by decide +kernel
theorem dX3_change_69 : decode cX3_change 69 = .ok (.iload_n 2, 1) := by decide +kernel
theorem dX3_change_70 : decode cX3_change 70 = .ok (.putfield 22, 3) := by decide +kernel
theorem dX3_change_73 : decode cX3_change 73 = .ok (.goto 8, 3) := by decide +kernel
theorem dX3_change_76 : decode cX3_change 76 = .ok (.aload_n 0, 1) := by decide +kernel
theorem dX3_change_77 : decode cX3_change 77 = .ok (.iload_n 2, 1) := by decide +kernel
theorem dX3_change_78 : decode cX3_change 78 = .ok (.putfield 25, 3) := by decide +kernel
theorem dX3_change_81 : decode cX3_change 81 = .ok (.return_, 1) := by decide +kernel
theorem dX4_init_0 : decode cX4_init 0 = .ok (.aload_n 0, 1) := by decide +kernel
theorem dX4_init_1 : decode cX4_init 1 = .ok (.invokespecial 1, 3) := by decide +kernel
theorem dX4_init_4 : decode cX4_init 4 = .ok (.aload_n 0, 1) := by decide +kernel
theorem dX4_init_5 : decode cX4_init 5 = .ok (.new 7, 3) := by decide +kernel
theorem dX4_init_8 : decode cX4_init 8 = .ok (.dup, 1) := by decide +kernel
theorem dX4_init_9 : decode cX4_init 9 = .ok (.invokespecial 9, 3) := by decide +kernel
theorem dX4_init_12 : decode cX4_init 12 = .ok (.putfield 10, 3) := by decide +kernel
theorem dX4_init_15 : decode cX4_init 15 = .ok (.return_, 1) := by decide +kernel
theorem dX4_empty_0 : decode cX4_empty 0 = .ok (.aload_n 0, 1) := by decide +kernel
theorem dX4_empty_1 : decode cX4_empty 1 = .ok (.iconst 0, 1) := by decide +kernel
theorem dX4_empty_2 : decode cX4_empty 2 = .ok (.putfield 16, 3) := by decide +kernel
theorem dX4_empty_5 : decode cX4_empty 5 = .ok (.return_, 1) := by decide +kernel
theorem dX4_keep_0 : decode cX4_keep 0 = .ok (.aload_n 0, 1) := by decide +kernel
theorem dX4_keep_1 : decode cX4_keep 1 = .ok (.getfield 10, 3) := by decide +kernel
theorem dX4_keep_4 : decode cX4_keep 4 = .ok (.aload_n 1, 1) := by decide +kernel
theorem dX4_keep_5 : decode cX4_keep 5 = .ok (.invokevirtual 20, 3) := by decide +kernel
theorem dX4_keep_8 : decode cX4_keep 8 = .ok (.aload_n 0, 1) := by decide +kernel
theorem dX4_keep_9 : decode cX4_keep 9 = .ok (.iconst 1, 1) := by decide +kernel
theorem dX4_keep_10 : decode cX4_keep 10 = .ok (.putfield 16, 3) := by decide +kernel
theorem dX4_keep_13 : decode cX4_keep 13 = .ok (.return_, 1) := by decide +kernel
theorem dX5_init_0 : decode cX5_init 0 = .ok (.aload_n 0, 1) := by decide +kernel
theorem dX5_init_1 : decode cX5_init 1 = .ok (.invokespecial 3, 3) := by decide +kernel
theorem dX5_init_4 : decode cX5_init 4 = .ok (.aload_n 0, 1) := by decide +kernel
theorem dX5_init_5 : decode cX5_init 5 = .ok (.new 9, 3) := by decide +kernel
theorem dX5_init_8 : decode cX5_init 8 = .ok (.dup, 1) := by decide +kernel
theorem dX5_init_9 : decode cX5_init 9 = .ok (.invokespecial 11, 3) := by decide +kernel
theorem dX5_init_12 : decode cX5_init 12 = .ok (.putfield 12, 3) := by decide +kernel
theorem dX5_init_15 : decode cX5_init 15 = .ok (.aload_n 0, 1) := by decide +kernel
theorem dX5_init_16 : decode cX5_init 16 = .ok (.bipush 6, 2) := by decide +kernel
theorem dX5_init_18 : decode cX5_init 18 = .ok (.anewarray 18, 3) := by decide +kernel
theorem dX5_init_21 : decode cX5_init 21 = .ok (.putfield 20, 3) := by decide +kernel
theorem dX5_init_24 : decode cX5_init 24 = .ok (.iconst 0, 1) := by decide +kernel
theorem dX5_init_25 : decode cX5_init 25 = .ok (.istore_n 1, 1) := by decide +kernel
theorem dX5_init_26 : decode cX5_init 26 = .ok (.iload_n 1, 1) := by decide +kernel
theorem dX5_init_27 : decode cX5_init 27 = .ok (.aload_n 0, 1) := by decide +kernel
theorem dX5_init_28 : decode cX5_init 28 = .ok (.getfield 20, 3) := by decide +kernel
theorem dX5_init_31 : decode cX5_init 31 = .ok (.arraylength, 1) := by decide +kernel
theorem dX5_init_32 : decode cX5_init 32 = .ok (.if_icmp .ge 23, 3) := by decide +kernel
theorem dX5_init_35 : decode cX5_init 35 = .ok (.aload_n 0, 1) := by decide +kernel
theorem dX5_init_36 : decode cX5_init 36 = .ok (.getfield 20, 3) := by decide +kernel
theorem dX5_init_39 : decode cX5_init 39 = .ok (.iload_n 1, 1) := by decide +kernel
theorem dX5_init_40 : decode cX5_init 40 = .ok (.new 18, 3) := by decide +kernel
theorem dX5_init_43 : decode cX5_init 43 = .ok (.dup, 1) := by decide +kernel
theorem dX5_init_44 : decode cX5_init 44 = .ok (.iload_n 1, 1) := by decide +kernel
theorem dX5_init_45 : decode cX5_init 45 = .ok (.invokespecial 24, 3) := by decide +kernel
theorem dX5_init_48 : decode cX5_init 48 = .ok (.aastore, 1) := by decide +kernel
theorem dX5_init_49 : decode cX5_init 49 = .ok (.iinc 1 1, 3) := by decide +kernel
theorem dX5_init_52 : decode cX5_init 52 = .ok (.goto (-26), 3) := by decide +kernel
theorem dX5_init_55 : decode cX5_init 55 = .ok (.return_, 1) := by decide +kernel
theorem dX5_copyFrom_0 : decode cX5_copyFrom 0 = .ok (.aload_n 0, 1) := by decide +kernel
theorem dX5_copyFrom_1 : decode cX5_copyFrom 1 = .ok (.getfield 12, 3) := by decide +kernel
theorem dX5_copyFrom_4 : decode cX5_copyFrom 4 = .ok (.aload_n 1, 1) := by decide +kernel
theorem dX5_copyFrom_5 : decode cX5_copyFrom 5 = .ok (.getfield 12, 3) := by decide +kernel
theorem dX5_copyFrom_8 : decode cX5_copyFrom 8 = .ok (.invokevirtual 27, 3) := by decide +kernel
theorem dX5_copyFrom_11 : decode cX5_copyFrom 11 = .ok (.iconst 0, 1) := by decide +kernel
theorem dX5_copyFrom_12 : decode cX5_copyFrom 12 = .ok (.istore_n 2, 1) := by decide +kernel
theorem dX5_copyFrom_13 : decode cX5_copyFrom 13 = .ok (.iload_n 2, 1) := by decide +kernel
theorem dX5_copyFrom_14 : decode cX5_copyFrom 14 = .ok (.aload_n 0, 1) := by decide +kernel
theorem dX5_copyFrom_15 : decode cX5_copyFrom 15 = .ok (.getfield 20, 3) := by decide +kernel
theorem dX5_copyFrom_18 : decode cX5_copyFrom 18 = .ok (.arraylength, 1) := by decide +kernel
theorem dX5_copyFrom_19 : decode cX5_copyFrom 19 = .ok (.if_icmp .ge 33, 3) := by decide +kernel
theorem dX5_copyFrom_22 : decode cX5_copyFrom 22 = .ok (.iload_n 2, 1) := by decide +kernel
theorem dX5_copyFrom_23 : decode cX5_copyFrom 23 = .ok (.aload_n 1, 1) := by decide +kernel
theorem dX5_copyFrom_24 : decode cX5_copyFrom 24 = .ok (.getfield 20, 3) := by decide +kernel
theorem dX5_copyFrom_27 : decode cX5_copyFrom 27 = .ok (.arraylength, 1) := by decide +kernel
theorem dX5_copyFrom_28 : decode cX5_copyFrom 28 = .ok (.if_icmp .ge 24, 3) := by decide +kernel
theorem dX5_copyFrom_31 : decode cX5_copyFrom 31 = .ok (.aload_n 0, 1) := by decide +kernel
theorem dX5_copyFrom_32 : decode cX5_copyFrom 32 = .ok (.getfield 20, 3) := by decide +kernel
theorem dX5_copyFrom_35 : decode cX5_copyFrom 35 = .ok (.iload_n 2, 1) := by decide +kernel
theorem dX5_copyFrom_36 : decode cX5_copyFrom 36 = .ok (.aaload, 1) := by decide +kernel
theorem dX5_copyFrom_37 : decode cX5_copyFrom 37 = .ok (.aload_n 1, 1) := by decide +kernel
theorem dX5_copyFrom_38 : decode cX5_copyFrom 38 = .ok (.getfield 20, 3) := by decide +kernel
theorem dX5_copyFrom_41 : decode cX5_copyFrom 41 = .ok (.iload_n 2, 1) := by decide +kernel
theorem dX5_copyFrom_42 : decode cX5_copyFrom 42 = .ok (.aaload, 1) := by decide +kernel
theorem dX5_copyFrom_43 : decode cX5_copyFrom 43 = .ok (.invokevirtual 31, 3) := by decide +kernel
theorem dX5_copyFrom_46 : decode cX5_copyFrom 46 = .ok (.iinc 2 1, 3) := by decide +kernel
theorem dX5_copyFrom_49 : decode cX5_copyFrom 49 = .ok (.goto (-36), 3) := by decide +kernel
theorem dX5_copyFrom_52 : decode cX5_copyFrom 52 = .ok (.aload_n 0, 1) := by decide +kernel
theorem dX5_copyFrom_53 : decode cX5_copyFrom 53 = .ok (.aload_n 1, 1) := by decide +kernel
theorem dX5_copyFrom_54 : decode cX5_copyFrom 54 = .ok (.getfield 34, 3) := by decide +kernel
theorem dX5_copyFrom_57 : decode cX5_copyFrom 57 = .ok (.putfield 34, 3) := by decide +kernel
theorem dX5_copyFrom_60 : decode cX5_copyFrom 60 = .ok (.aload_n 0, 1) := by decide +kernel
theorem dX5_copyFrom_61 : decode cX5_copyFrom 61 = .ok (.aload_n 1, 1) := by decide +kernel
theorem dX5_copyFrom_62 : decode cX5_copyFrom 62 = .ok (.getfield 38, 3) := by decide +kernel
theorem dX5_copyFrom_65 : decode cX5_copyFrom 65 = .ok (.putfield 38, 3) := by decide +kernel
theorem dX5_copyFrom_68 : decode cX5_copyFrom 68 = .ok (.aload_n 0, 1) := by decide +kernel
theorem dX5_copyFrom_69 : decode cX5_copyFrom 69 = .ok (.aload_n 1, 1) := by decide +kernel
theorem dX5_copyFrom_70 : decode cX5_copyFrom 70 = .ok (.getfield 41, 3) := by decide +kernel
theorem dX5_copyFrom_73 : decode cX5_copyFrom 73 = .ok (.putfield 41, 3) := by decide +kernel
theorem dX5_copyFrom_76 : decode cX5_copyFrom 76 = .ok (.aload_n 0, 1) := by decide +kernel
theorem dX5_copyFrom_77 : decode cX5_copyFrom 77 = .ok (.aload_n 1, 1) := by decide +kernel
theorem dX5_copyFrom_78 : decode cX5_copyFrom 78 = .ok (.getfield 44, 3) := by decide +kernel
theorem dX5_copyFrom_81 : decode cX5_copyFrom 81 = .ok (.putfield 44, 3) := by decide +kernel
theorem dX5_copyFrom_84 : decode cX5_copyFrom 84 = .ok (.aload_n 0, 1) := by decide +kernel
theorem dX5_copyFrom_85 : decode cX5_copyFrom 85 = .ok (.aload_n 1, 1) := by decide +kernel
theorem dX5_copyFrom_86 : decode cX5_copyFrom 86 = .ok (.getfield 47, 3) := by decide +kernel
theorem dX5_copyFrom_89 : decode cX5_copyFrom 89 = .ok (.putfield 47, 3) := by decide +kernel
theorem dX5_copyFrom_92 : decode cX5_copyFrom 92 = .ok (.aload_n 0, 1) := by decide +kernel
theorem dX5_copyFrom_93 : decode cX5_copyFrom 93 = .ok (.aload_n 1, 1) := by decide +kernel
theorem dX5_copyFrom_94 : decode cX5_copyFrom 94 = .ok (.getfield 50, 3) := by decide +kernel
theorem dX5_copyFrom_97 : decode cX5_copyFrom 97 = .ok (.putfield 50, 3) := by decide +kernel
theorem dX5_copyFrom_100 : decode cX5_copyFrom 100 = .ok (.aload_n 0, 1) := by decide +kernel
theorem dX5_copyFrom_101 : decode cX5_copyFrom 101 = .ok (.aload_n 1, 1) := by decide +kernel
theorem dX5_copyFrom_102 : decode cX5_copyFrom 102 = .ok (.getfield 53, 3) := by decide +kernel
theorem dX5_copyFrom_105 : decode cX5_copyFrom 105 = .ok (.putfield 53, 3) := by decide +kernel
theorem dX5_copyFrom_108 : decode cX5_copyFrom 108 = .ok (.aload_n 0, 1) := by decide +kernel
theorem dX5_copyFrom_109 : decode cX5_copyFrom 109 = .ok (.aload_n 1, 1) := by decide +kernel
theorem dX5_copyFrom_110 : decode cX5_copyFrom 110 = .ok (.getfield 56, 3) := by decide +kernel
theorem dX5_copyFrom_113 : decode cX5_copyFrom 113 = .ok (.putfield 56, 3) := by decide +kernel
theorem dX5_copyFrom_116 : decode cX5_copyFrom 116 = .ok (.aload_n 0, 1) := by decide +kernel
theorem dX5_copyFrom_117 : decode cX5_copyFrom 117 = .ok (.aload_n 1, 1) := by decide +kernel
theorem dX5_copyFrom_118 : decode cX5_copyFrom 118 = .ok (.getfield 59, 3) := by decide +kernel
theorem dX5_copyFrom_121 : decode cX5_copyFrom 121 = .ok (.putfield 59, 3) := by decide +kernel
theorem dX5_copyFrom_124 : decode cX5_copyFrom 124 = .ok (.return_, 1) := by decide +kernel
theorem dX5_account_0 : decode cX5_account 0 = .ok (.iload_n 1, 1) := by decide +kernel
theorem dX5_account_1 : decode cX5_account 1 = .ok (.tableswitch 105 0 9 #[55, 60, 65, 70, 75, 80, 85, 90, 95, 100], 55) := by decide +kernel
theorem dX5_account_56 : decode cX5_account 56 = .ok (.aload_n 0, 1) := by decide +kernel
theorem dX5_account_57 : decode cX5_account 57 = .ok (.invokevirtual 62, 3) := by decide +kernel
theorem dX5_account_60 : decode cX5_account 60 = .ok (.ireturn, 1) := by decide +kernel
theorem dX5_account_61 : decode cX5_account 61 = .ok (.aload_n 0, 1) := by decide +kernel
theorem dX5_account_62 : decode cX5_account 62 = .ok (.getfield 34, 3) := by decide +kernel
theorem dX5_account_65 : decode cX5_account 65 = .ok (.ireturn, 1) := by decide +kernel
theorem dX5_account_66 : decode cX5_account 66 = .ok (.aload_n 0, 1) := by decide +kernel
theorem dX5_account_67 : decode cX5_account 67 = .ok (.getfield 38, 3) := by decide +kernel
theorem dX5_account_70 : decode cX5_account 70 = .ok (.ireturn, 1) := by decide +kernel
theorem dX5_account_71 : decode cX5_account 71 = .ok (.aload_n 0, 1) := by decide +kernel
theorem dX5_account_72 : decode cX5_account 72 = .ok (.invokevirtual 66, 3) := by decide +kernel
theorem dX5_account_75 : decode cX5_account 75 = .ok (.ireturn, 1) := by decide +kernel
theorem dX5_account_76 : decode cX5_account 76 = .ok (.aload_n 0, 1) := by decide +kernel
theorem dX5_account_77 : decode cX5_account 77 = .ok (.getfield 41, 3) := by decide +kernel
theorem dX5_account_80 : decode cX5_account 80 = .ok (.ireturn, 1) := by decide +kernel
theorem dX5_account_81 : decode cX5_account 81 = .ok (.aload_n 0, 1) := by decide +kernel
theorem dX5_account_82 : decode cX5_account 82 = .ok (.getfield 44, 3) := by decide +kernel
theorem dX5_account_85 : decode cX5_account 85 = .ok (.ireturn, 1) := by decide +kernel
theorem dX5_account_86 : decode cX5_account 86 = .ok (.aload_n 0, 1) := by decide +kernel
theorem dX5_account_87 : decode cX5_account 87 = .ok (.getfield 47, 3) := by decide +kernel
theorem dX5_account_90 : decode cX5_account 90 = .ok (.ireturn, 1) := by decide +kernel
theorem dX5_account_91 : decode cX5_account 91 = .ok (.aload_n 0, 1) := by decide +kernel
theorem dX5_account_92 : decode cX5_account 92 = .ok (.getfield 50, 3) := by decide +kernel
theorem dX5_account_95 : decode cX5_account 95 = .ok (.ireturn, 1) := by decide +kernel
theorem dX5_account_96 : decode cX5_account 96 = .ok (.aload_n 0, 1) := by decide +kernel
theorem dX5_account_97 : decode cX5_account 97 = .ok (.getfield 53, 3) := by decide +kernel
theorem dX5_account_100 : decode cX5_account 100 = .ok (.ireturn, 1) := by decide +kernel
theorem dX5_account_101 : decode cX5_account 101 = .ok (.aload_n 0, 1) := by decide +kernel
theorem dX5_account_102 : decode cX5_account 102 = .ok (.getfield 56, 3) := by decide +kernel
theorem dX5_account_105 : decode cX5_account 105 = .ok (.ireturn, 1) := by decide +kernel
theorem dX5_account_106 : decode cX5_account 106 = .ok (.aload_n 0, 1) := by decide +kernel
theorem dX5_account_107 : decode cX5_account 107 = .ok (.getfield 59, 3) := by decide +kernel
theorem dX5_account_110 : decode cX5_account 110 = .ok (.ireturn, 1) := by decide +kernel
theorem dX5_roomAt_0 : decode cX5_roomAt 0 = .ok (.iload_n 1, 1) := by decide +kernel
theorem dX5_roomAt_1 : decode cX5_roomAt 1 = .ok (.ifCond .lt 12, 3) := by decide +kernel
theorem dX5_roomAt_4 : decode cX5_roomAt 4 = .ok (.iload_n 1, 1) := by decide +kernel
theorem dX5_roomAt_5 : decode cX5_roomAt 5 = .ok (.aload_n 0, 1) := by decide +kernel
theorem dX5_roomAt_6 : decode cX5_roomAt 6 = .ok (.getfield 20, 3) := by decide +kernel
theorem dX5_roomAt_9 : decode cX5_roomAt 9 = .ok (.arraylength, 1) := by decide +kernel
theorem dX5_roomAt_10 : decode cX5_roomAt 10 = .ok (.if_icmp .lt 5, 3) := by decide +kernel
theorem dX5_roomAt_13 : decode cX5_roomAt 13 = .ok (.aconst_null, 1) := by decide +kernel
theorem dX5_roomAt_14 : decode cX5_roomAt 14 = .ok (.areturn, 1) := by decide +kernel
theorem dX5_roomAt_15 : decode cX5_roomAt 15 = .ok (.aload_n 0, 1) := by decide +kernel
theorem dX5_roomAt_16 : decode cX5_roomAt 16 = .ok (.getfield 20, 3) := by decide +kernel
theorem dX5_roomAt_19 : decode cX5_roomAt 19 = .ok (.iload_n 1, 1) := by decide +kernel
theorem dX5_roomAt_20 : decode cX5_roomAt 20 = .ok (.aaload, 1) := by decide +kernel
theorem dX5_roomAt_21 : decode cX5_roomAt 21 = .ok (.astore_n 2, 1) := by decide +kernel
theorem dX5_roomAt_22 : decode cX5_roomAt 22 = .ok (.aload_n 2, 1) := by decide +kernel
theorem dX5_roomAt_23 : decode cX5_roomAt 23 = .ok (.invokevirtual 69, 3) := by decide +kernel
theorem dX5_roomAt_26 : decode cX5_roomAt 26 = .ok (.ifCond .eq 7, 3) := by decide +kernel
theorem dX5_roomAt_29 : decode cX5_roomAt 29 = .ok (.aload_n 2, 1) := by decide +kernel
theorem dX5_roomAt_30 : decode cX5_roomAt 30 = .ok (.goto 4, 3) := by decide +kernel
theorem dX5_roomAt_33 : decode cX5_roomAt 33 = .ok (.aconst_null, 1) := by decide +kernel
theorem dX5_roomAt_34 : decode cX5_roomAt 34 = .ok (.areturn, 1) := by decide +kernel
theorem dX5_firstFree_0 : decode cX5_firstFree 0 = .ok (.aload_n 0, 1) := by decide +kernel
theorem dX5_firstFree_1 : decode cX5_firstFree 1 = .ok (.getfield 20, 3) := by decide +kernel
theorem dX5_firstFree_4 : decode cX5_firstFree 4 = .ok (.astore_n 1, 1) := by decide +kernel
theorem dX5_firstFree_5 : decode cX5_firstFree 5 = .ok (.aload_n 1, 1) := by decide +kernel
theorem dX5_firstFree_6 : decode cX5_firstFree 6 = .ok (.arraylength, 1) := by decide +kernel
theorem dX5_firstFree_7 : decode cX5_firstFree 7 = .ok (.istore_n 2, 1) := by decide +kernel
theorem dX5_firstFree_8 : decode cX5_firstFree 8 = .ok (.iconst 0, 1) := by decide +kernel
theorem dX5_firstFree_9 : decode cX5_firstFree 9 = .ok (.istore_n 3, 1) := by decide +kernel
theorem dX5_firstFree_10 : decode cX5_firstFree 10 = .ok (.iload_n 3, 1) := by decide +kernel
theorem dX5_firstFree_11 : decode cX5_firstFree 11 = .ok (.iload_n 2, 1) := by decide +kernel
theorem dX5_firstFree_12 : decode cX5_firstFree 12 = .ok (.if_icmp .ge 25, 3) := by decide +kernel
theorem dX5_firstFree_15 : decode cX5_firstFree 15 = .ok (.aload_n 1, 1) := by decide +kernel
theorem dX5_firstFree_16 : decode cX5_firstFree 16 = .ok (.iload_n 3, 1) := by decide +kernel
theorem dX5_firstFree_17 : decode cX5_firstFree 17 = .ok (.aaload, 1) := by decide +kernel
theorem dX5_firstFree_18 : decode cX5_firstFree 18 = .ok (.astore 4, 2) := by decide +kernel
theorem dX5_firstFree_20 : decode cX5_firstFree 20 = .ok (.aload 4, 2) := by decide +kernel
theorem dX5_firstFree_22 : decode cX5_firstFree 22 = .ok (.invokevirtual 69, 3) := by decide +kernel
theorem dX5_firstFree_25 : decode cX5_firstFree 25 = .ok (.ifCond .ne 6, 3) := by decide +kernel
theorem dX5_firstFree_28 : decode cX5_firstFree 28 = .ok (.aload 4, 2) := by decide +kernel
theorem dX5_firstFree_30 : decode cX5_firstFree 30 = .ok (.areturn, 1) := by decide +kernel
theorem dX5_firstFree_31 : decode cX5_firstFree 31 = .ok (.iinc 3 1, 3) := by decide +kernel
theorem dX5_firstFree_34 : decode cX5_firstFree 34 = .ok (.goto (-24), 3) := by decide +kernel
theorem dX5_firstFree_37 : decode cX5_firstFree 37 = .ok (.aconst_null, 1) := by decide +kernel
theorem dX5_firstFree_38 : decode cX5_firstFree 38 = .ok (.areturn, 1) := by decide +kernel
theorem dX5_countRooms_0 : decode cX5_countRooms 0 = .ok (.aload_n 0, 1) := by decide +kernel
theorem dX5_countRooms_1 : decode cX5_countRooms 1 = .ok (.invokevirtual 73, 3) := by decide +kernel
theorem dX5_countRooms_4 : decode cX5_countRooms 4 = .ok (.astore_n 1, 1) := by decide +kernel
theorem dX5_countRooms_5 : decode cX5_countRooms 5 = .ok (.aload_n 1, 1) := by decide +kernel
theorem dX5_countRooms_6 : decode cX5_countRooms 6 = .ok (.ifnonnull 11, 3) := by decide +kernel
theorem dX5_countRooms_9 : decode cX5_countRooms 9 = .ok (.aload_n 0, 1) := by decide +kernel
theorem dX5_countRooms_10 : decode cX5_countRooms 10 = .ok (.getfield 20, 3) := by decide +kernel
theorem dX5_countRooms_13 : decode cX5_countRooms 13 = .ok (.arraylength, 1) := by decide +kernel
theorem dX5_countRooms_14 : decode cX5_countRooms 14 = .ok (.goto 7, 3) := by decide +kernel
theorem dX5_countRooms_17 : decode cX5_countRooms 17 = .ok (.aload_n 1, 1) := by decide +kernel
theorem dX5_countRooms_18 : decode cX5_countRooms 18 = .ok (.getfield 77, 3) := by decide +kernel
theorem dX5_countRooms_21 : decode cX5_countRooms 21 = .ok (.ireturn, 1) := by decide +kernel
theorem dX5_openDoors_0 : decode cX5_openDoors 0 = .ok (.iconst 0, 1) := by decide +kernel
theorem dX5_openDoors_1 : decode cX5_openDoors 1 = .ok (.istore_n 1, 1) := by decide +kernel
theorem dX5_openDoors_2 : decode cX5_openDoors 2 = .ok (.aload_n 0, 1) := by decide +kernel
theorem dX5_openDoors_3 : decode cX5_openDoors 3 = .ok (.getfield 20, 3) := by decide +kernel
theorem dX5_openDoors_6 : decode cX5_openDoors 6 = .ok (.astore_n 2, 1) := by decide +kernel
theorem dX5_openDoors_7 : decode cX5_openDoors 7 = .ok (.aload_n 2, 1) := by decide +kernel
theorem dX5_openDoors_8 : decode cX5_openDoors 8 = .ok (.arraylength, 1) := by decide +kernel
theorem dX5_openDoors_9 : decode cX5_openDoors 9 = .ok (.istore_n 3, 1) := by decide +kernel
theorem dX5_openDoors_10 : decode cX5_openDoors 10 = .ok (.iconst 0, 1) := by decide +kernel
theorem dX5_openDoors_11 : decode cX5_openDoors 11 = .ok (.istore 4, 2) := by decide +kernel
theorem dX5_openDoors_13 : decode cX5_openDoors 13 = .ok (.iload 4, 2) := by decide +kernel
theorem dX5_openDoors_15 : decode cX5_openDoors 15 = .ok (.iload_n 3, 1) := by decide +kernel
theorem dX5_openDoors_16 : decode cX5_openDoors 16 = .ok (.if_icmp .ge 34, 3) := by decide +kernel
theorem dX5_openDoors_19 : decode cX5_openDoors 19 = .ok (.aload_n 2, 1) := by decide +kernel
theorem dX5_openDoors_20 : decode cX5_openDoors 20 = .ok (.iload 4, 2) := by decide +kernel
theorem dX5_openDoors_22 : decode cX5_openDoors 22 = .ok (.aaload, 1) := by decide +kernel
theorem dX5_openDoors_23 : decode cX5_openDoors 23 = .ok (.astore 5, 2) := by decide +kernel
theorem dX5_openDoors_25 : decode cX5_openDoors 25 = .ok (.aload 5, 2) := by decide +kernel
theorem dX5_openDoors_27 : decode cX5_openDoors 27 = .ok (.invokevirtual 69, 3) := by decide +kernel
theorem dX5_openDoors_30 : decode cX5_openDoors 30 = .ok (.ifCond .eq 14, 3) := by decide +kernel
theorem dX5_openDoors_33 : decode cX5_openDoors 33 = .ok (.aload 5, 2) := by decide +kernel
theorem dX5_openDoors_35 : decode cX5_openDoors 35 = .ok (.getfield 80, 3) := by decide +kernel
theorem dX5_openDoors_38 : decode cX5_openDoors 38 = .ok (.ifCond .eq 6, 3) := by decide +kernel
theorem dX5_openDoors_41 : decode cX5_openDoors 41 = .ok (.iinc 1 1, 3) := by decide +kernel
theorem dX5_openDoors_44 : decode cX5_openDoors 44 = .ok (.iinc 4 1, 3) := by decide +kernel
theorem dX5_openDoors_47 : decode cX5_openDoors 47 = .ok (.goto (-34), 3) := by decide +kernel
theorem dX5_openDoors_50 : decode cX5_openDoors 50 = .ok (.iload_n 1, 1) := by decide +kernel
theorem dX5_openDoors_51 : decode cX5_openDoors 51 = .ok (.ireturn, 1) := by decide +kernel
theorem dX5_warmestRoom_0 : decode cX5_warmestRoom 0 = .ok (.aconst_null, 1) := by decide +kernel
theorem dX5_warmestRoom_1 : decode cX5_warmestRoom 1 = .ok (.astore_n 1, 1) := by decide +kernel
theorem dX5_warmestRoom_2 : decode cX5_warmestRoom 2 = .ok (.aload_n 0, 1) := by decide +kernel
theorem dX5_warmestRoom_3 : decode cX5_warmestRoom 3 = .ok (.getfield 20, 3) := by decide +kernel
theorem dX5_warmestRoom_6 : decode cX5_warmestRoom 6 = .ok (.astore_n 2, 1) := by decide +kernel
theorem dX5_warmestRoom_7 : decode cX5_warmestRoom 7 = .ok (.aload_n 2, 1) := by decide +kernel
theorem dX5_warmestRoom_8 : decode cX5_warmestRoom 8 = .ok (.arraylength, 1) := by decide +kernel
theorem dX5_warmestRoom_9 : decode cX5_warmestRoom 9 = .ok (.istore_n 3, 1) := by decide +kernel
theorem dX5_warmestRoom_10 : decode cX5_warmestRoom 10 = .ok (.iconst 0, 1) := by decide +kernel
theorem dX5_warmestRoom_11 : decode cX5_warmestRoom 11 = .ok (.istore 4, 2) := by decide +kernel
theorem dX5_warmestRoom_13 : decode cX5_warmestRoom 13 = .ok (.iload 4, 2) := by decide +kernel
theorem dX5_warmestRoom_15 : decode cX5_warmestRoom 15 = .ok (.iload_n 3, 1) := by decide +kernel
theorem dX5_warmestRoom_16 : decode cX5_warmestRoom 16 = .ok (.if_icmp .ge 42, 3) := by decide +kernel
theorem dX5_warmestRoom_19 : decode cX5_warmestRoom 19 = .ok (.aload_n 2, 1) := by decide +kernel
theorem dX5_warmestRoom_20 : decode cX5_warmestRoom 20 = .ok (.iload 4, 2) := by decide +kernel
theorem dX5_warmestRoom_22 : decode cX5_warmestRoom 22 = .ok (.aaload, 1) := by decide +kernel
theorem dX5_warmestRoom_23 : decode cX5_warmestRoom 23 = .ok (.astore 5, 2) := by decide +kernel
theorem dX5_warmestRoom_25 : decode cX5_warmestRoom 25 = .ok (.aload 5, 2) := by decide +kernel
theorem dX5_warmestRoom_27 : decode cX5_warmestRoom 27 = .ok (.invokevirtual 69, 3) := by decide +kernel
theorem dX5_warmestRoom_30 : decode cX5_warmestRoom 30 = .ok (.ifCond .eq 22, 3) := by decide +kernel
theorem dX5_warmestRoom_33 : decode cX5_warmestRoom 33 = .ok (.aload_n 1, 1) := by decide +kernel
theorem dX5_warmestRoom_34 : decode cX5_warmestRoom 34 = .ok (.ifnull 15, 3) := by decide +kernel
theorem dX5_warmestRoom_37 : decode cX5_warmestRoom 37 = .ok (.aload 5, 2) := by decide +kernel
theorem dX5_warmestRoom_39 : decode cX5_warmestRoom 39 = .ok (.invokevirtual 84, 3) := by decide +kernel
theorem dX5_warmestRoom_42 : decode cX5_warmestRoom 42 = .ok (.aload_n 1, 1) := by decide +kernel
theorem dX5_warmestRoom_43 : decode cX5_warmestRoom 43 = .ok (.invokevirtual 84, 3) := by decide +kernel
theorem dX5_warmestRoom_46 : decode cX5_warmestRoom 46 = .ok (.if_icmp .le 6, 3) := by decide +kernel
theorem dX5_warmestRoom_49 : decode cX5_warmestRoom 49 = .ok (.aload 5, 2) := by decide +kernel
theorem dX5_warmestRoom_51 : decode cX5_warmestRoom 51 = .ok (.astore_n 1, 1) := by decide +kernel
theorem dX5_warmestRoom_52 : decode cX5_warmestRoom 52 = .ok (.iinc 4 1, 3) := by decide +kernel
theorem dX5_warmestRoom_55 : decode cX5_warmestRoom 55 = .ok (.goto (-42), 3) := by decide +kernel
theorem dX5_warmestRoom_58 : decode cX5_warmestRoom 58 = .ok (.aload_n 1, 1) := by decide +kernel
theorem dX5_warmestRoom_59 : decode cX5_warmestRoom 59 = .ok (.ifnonnull 7, 3) := by decide +kernel
theorem dX5_warmestRoom_62 : decode cX5_warmestRoom 62 = .ok (.iconst (-1), 1) := by decide +kernel
theorem dX5_warmestRoom_63 : decode cX5_warmestRoom 63 = .ok (.goto 7, 3) := by decide +kernel
theorem dX5_warmestRoom_66 : decode cX5_warmestRoom 66 = .ok (.aload_n 1, 1) := by decide +kernel
theorem dX5_warmestRoom_67 : decode cX5_warmestRoom 67 = .ok (.getfield 77, 3) := by decide +kernel
theorem dX5_warmestRoom_70 : decode cX5_warmestRoom 70 = .ok (.ireturn, 1) := by decide +kernel
theorem dX5_canBeRoom_0 : decode cX5_canBeRoom 0 = .ok (.iload_n 0, 1) := by decide +kernel
theorem dX5_canBeRoom_1 : decode cX5_canBeRoom 1 = .ok (.iconst 1, 1) := by decide +kernel
theorem dX5_canBeRoom_2 : decode cX5_canBeRoom 2 = .ok (.if_icmp .lt 32, 3) := by decide +kernel
theorem dX5_canBeRoom_5 : decode cX5_canBeRoom 5 = .ok (.iload_n 0, 1) := by decide +kernel
theorem dX5_canBeRoom_6 : decode cX5_canBeRoom 6 = .ok (.bipush 50, 2) := by decide +kernel
theorem dX5_canBeRoom_8 : decode cX5_canBeRoom 8 = .ok (.if_icmp .gt 26, 3) := by decide +kernel
theorem dX5_canBeRoom_11 : decode cX5_canBeRoom 11 = .ok (.iload_n 1, 1) := by decide +kernel
theorem dX5_canBeRoom_12 : decode cX5_canBeRoom 12 = .ok (.sipush (-300), 3) := by decide +kernel
theorem dX5_canBeRoom_15 : decode cX5_canBeRoom 15 = .ok (.if_icmp .lt 19, 3) := by decide +kernel
theorem dX5_canBeRoom_18 : decode cX5_canBeRoom 18 = .ok (.iload_n 1, 1) := by decide +kernel
theorem dX5_canBeRoom_19 : decode cX5_canBeRoom 19 = .ok (.iload_n 2, 1) := by decide +kernel
theorem dX5_canBeRoom_20 : decode cX5_canBeRoom 20 = .ok (.if_icmp .ge 14, 3) := by decide +kernel
theorem dX5_canBeRoom_23 : decode cX5_canBeRoom 23 = .ok (.iload_n 2, 1) := by decide +kernel
theorem dX5_canBeRoom_24 : decode cX5_canBeRoom 24 = .ok (.sipush 200, 3) := by decide +kernel
theorem dX5_canBeRoom_27 : decode cX5_canBeRoom 27 = .ok (.if_icmp .gt 7, 3) := by decide +kernel
theorem dX5_canBeRoom_30 : decode cX5_canBeRoom 30 = .ok (.iconst 1, 1) := by decide +kernel
theorem dX5_canBeRoom_31 : decode cX5_canBeRoom 31 = .ok (.goto 4, 3) := by decide +kernel
theorem dX5_canBeRoom_34 : decode cX5_canBeRoom 34 = .ok (.iconst 0, 1) := by decide +kernel
theorem dX5_canBeRoom_35 : decode cX5_canBeRoom 35 = .ok (.ireturn, 1) := by decide +kernel
theorem dX5_canPass_0 : decode cX5_canPass 0 = .ok (.iload_n 0, 1) := by decide +kernel
theorem dX5_canPass_1 : decode cX5_canPass 1 = .ok (.iconst 1, 1) := by decide +kernel
theorem dX5_canPass_2 : decode cX5_canPass 2 = .ok (.if_icmp .lt 13, 3) := by decide +kernel
theorem dX5_canPass_5 : decode cX5_canPass 5 = .ok (.iload_n 0, 1) := by decide +kernel
theorem dX5_canPass_6 : decode cX5_canPass 6 = .ok (.bipush 60, 2) := by decide +kernel
theorem dX5_canPass_8 : decode cX5_canPass 8 = .ok (.if_icmp .gt 7, 3) := by decide +kernel
theorem dX5_canPass_11 : decode cX5_canPass 11 = .ok (.iconst 1, 1) := by decide +kernel
theorem dX5_canPass_12 : decode cX5_canPass 12 = .ok (.goto 4, 3) := by decide +kernel
theorem dX5_canPass_15 : decode cX5_canPass 15 = .ok (.iconst 0, 1) := by decide +kernel
theorem dX5_canPass_16 : decode cX5_canPass 16 = .ok (.ireturn, 1) := by decide +kernel
theorem dX5_canBeTemperature_0 : decode cX5_canBeTemperature 0 = .ok (.iload_n 0, 1) := by decide +kernel
theorem dX5_canBeTemperature_1 : decode cX5_canBeTemperature 1 = .ok (.sipush (-400), 3) := by decide +kernel
theorem dX5_canBeTemperature_4 : decode cX5_canBeTemperature 4 = .ok (.if_icmp .lt 14, 3) := by decide +kernel
theorem dX5_canBeTemperature_7 : decode cX5_canBeTemperature 7 = .ok (.iload_n 0, 1) := by decide +kernel
theorem dX5_canBeTemperature_8 : decode cX5_canBeTemperature 8 = .ok (.sipush 400, 3) := by decide +kernel
theorem dX5_canBeTemperature_11 : decode cX5_canBeTemperature 11 = .ok (.if_icmp .gt 7, 3) := by decide +kernel
theorem dX5_canBeTemperature_14 : decode cX5_canBeTemperature 14 = .ok (.iconst 1, 1) := by decide +kernel
theorem dX5_canBeTemperature_15 : decode cX5_canBeTemperature 15 = .ok (.goto 4, 3) := by decide +kernel
theorem dX5_canBeTemperature_18 : decode cX5_canBeTemperature 18 = .ok (.iconst 0, 1) := by decide +kernel
theorem dX5_canBeTemperature_19 : decode cX5_canBeTemperature 19 = .ok (.ireturn, 1) := by decide +kernel
theorem dX5_takeRoom_0 : decode cX5_takeRoom 0 = .ok (.aload_n 0, 1) := by decide +kernel
theorem dX5_takeRoom_1 : decode cX5_takeRoom 1 = .ok (.invokevirtual 73, 3) := by decide +kernel
theorem dX5_takeRoom_4 : decode cX5_takeRoom 4 = .ok (.astore 4, 2) := by decide +kernel
theorem dX5_takeRoom_6 : decode cX5_takeRoom 6 = .ok (.aload 4, 2) := by decide +kernel
theorem dX5_takeRoom_8 : decode cX5_takeRoom 8 = .ok (.ifnull 12, 3) := by decide +kernel
theorem dX5_takeRoom_11 : decode cX5_takeRoom 11 = .ok (.iload_n 1, 1) := by decide +kernel
theorem dX5_takeRoom_12 : decode cX5_takeRoom 12 = .ok (.iload_n 2, 1) := by decide +kernel
theorem dX5_takeRoom_13 : decode cX5_takeRoom 13 = .ok (.iload_n 3, 1) := by decide +kernel
theorem dX5_takeRoom_14 : decode cX5_takeRoom 14 = .ok (.invokestatic 87, 3) := by decide +kernel
theorem dX5_takeRoom_17 : decode cX5_takeRoom 17 = .ok (.ifCond .ne 5, 3) := by decide +kernel
theorem dX5_takeRoom_20 : decode cX5_takeRoom 20 = .ok (.iconst (-1), 1) := by decide +kernel
theorem dX5_takeRoom_21 : decode cX5_takeRoom 21 = .ok (.ireturn, 1) := by decide +kernel
theorem dX5_takeRoom_22 : decode cX5_takeRoom 22 = .ok (.aload 4, 2) := by decide +kernel
theorem dX5_takeRoom_24 : decode cX5_takeRoom 24 = .ok (.iload_n 1, 1) := by decide +kernel
theorem dX5_takeRoom_25 : decode cX5_takeRoom 25 = .ok (.iload_n 2, 1) := by decide +kernel
theorem dX5_takeRoom_26 : decode cX5_takeRoom 26 = .ok (.iload_n 3, 1) := by decide +kernel
theorem dX5_takeRoom_27 : decode cX5_takeRoom 27 = .ok (.invokevirtual 91, 3) := by decide +kernel
theorem dX5_takeRoom_30 : decode cX5_takeRoom 30 = .ok (.aload 4, 2) := by decide +kernel
theorem dX5_takeRoom_32 : decode cX5_takeRoom 32 = .ok (.getfield 77, 3) := by decide +kernel
theorem dX5_takeRoom_35 : decode cX5_takeRoom 35 = .ok (.ireturn, 1) := by decide +kernel
theorem dX5_moveDoor_0 : decode cX5_moveDoor 0 = .ok (.aload_n 0, 1) := by decide +kernel
theorem dX5_moveDoor_1 : decode cX5_moveDoor 1 = .ok (.iload_n 1, 1) := by decide +kernel
theorem dX5_moveDoor_2 : decode cX5_moveDoor 2 = .ok (.invokevirtual 95, 3) := by decide +kernel
theorem dX5_moveDoor_5 : decode cX5_moveDoor 5 = .ok (.astore_n 3, 1) := by decide +kernel
theorem dX5_moveDoor_6 : decode cX5_moveDoor 6 = .ok (.aload_n 3, 1) := by decide +kernel
theorem dX5_moveDoor_7 : decode cX5_moveDoor 7 = .ok (.ifnonnull 5, 3) := by decide +kernel
theorem dX5_moveDoor_10 : decode cX5_moveDoor 10 = .ok (.iconst 0, 1) := by decide +kernel
theorem dX5_moveDoor_11 : decode cX5_moveDoor 11 = .ok (.ireturn, 1) := by decide +kernel
theorem dX5_moveDoor_12 : decode cX5_moveDoor 12 = .ok (.aload_n 3, 1) := by decide +kernel
theorem dX5_moveDoor_13 : decode cX5_moveDoor 13 = .ok (.iload_n 2, 1) := by decide +kernel
theorem dX5_moveDoor_14 : decode cX5_moveDoor 14 = .ok (.putfield 80, 3) := by decide +kernel
theorem dX5_moveDoor_17 : decode cX5_moveDoor 17 = .ok (.iconst 1, 1) := by decide +kernel
theorem dX5_moveDoor_18 : decode cX5_moveDoor 18 = .ok (.ireturn, 1) := by decide +kernel
theorem dX5_takeGoods_0 : decode cX5_takeGoods 0 = .ok (.aload_n 0, 1) := by decide +kernel
theorem dX5_takeGoods_1 : decode cX5_takeGoods 1 = .ok (.iload_n 1, 1) := by decide +kernel
theorem dX5_takeGoods_2 : decode cX5_takeGoods 2 = .ok (.invokevirtual 95, 3) := by decide +kernel
theorem dX5_takeGoods_5 : decode cX5_takeGoods 5 = .ok (.astore_n 3, 1) := by decide +kernel
theorem dX5_takeGoods_6 : decode cX5_takeGoods 6 = .ok (.aload_n 3, 1) := by decide +kernel
theorem dX5_takeGoods_7 : decode cX5_takeGoods 7 = .ok (.ifnull 10, 3) := by decide +kernel
theorem dX5_takeGoods_10 : decode cX5_takeGoods 10 = .ok (.iload_n 2, 1) := by decide +kernel
theorem dX5_takeGoods_11 : decode cX5_takeGoods 11 = .ok (.invokestatic 99, 3) := by decide +kernel
theorem dX5_takeGoods_14 : decode cX5_takeGoods 14 = .ok (.ifCond .ne 5, 3) := by decide +kernel
theorem dX5_takeGoods_17 : decode cX5_takeGoods 17 = .ok (.iconst 0, 1) := by decide +kernel
theorem dX5_takeGoods_18 : decode cX5_takeGoods 18 = .ok (.ireturn, 1) := by decide +kernel
theorem dX5_takeGoods_19 : decode cX5_takeGoods 19 = .ok (.aload_n 3, 1) := by decide +kernel
theorem dX5_takeGoods_20 : decode cX5_takeGoods 20 = .ok (.iload_n 2, 1) := by decide +kernel
theorem dX5_takeGoods_21 : decode cX5_takeGoods 21 = .ok (.putfield 103, 3) := by decide +kernel
theorem dX5_takeGoods_24 : decode cX5_takeGoods 24 = .ok (.iconst 1, 1) := by decide +kernel
theorem dX5_takeGoods_25 : decode cX5_takeGoods 25 = .ok (.ireturn, 1) := by decide +kernel
theorem dX5_changeSetting_0 : decode cX5_changeSetting 0 = .ok (.iload_n 1, 1) := by decide +kernel
theorem dX5_changeSetting_1 : decode cX5_changeSetting 1 = .ok (.iload_n 2, 1) := by decide +kernel
theorem dX5_changeSetting_2 : decode cX5_changeSetting 2 = .ok (.invokestatic 106, 3) := by decide +kernel
theorem dX5_changeSetting_5 : decode cX5_changeSetting 5 = .ok (.ifCond .ne 5, 3) := by decide +kernel
theorem dX5_changeSetting_8 : decode cX5_changeSetting 8 = .ok (.iconst 0, 1) := by decide +kernel
theorem dX5_changeSetting_9 : decode cX5_changeSetting 9 = .ok (.ireturn, 1) := by decide +kernel
theorem dX5_changeSetting_10 : decode cX5_changeSetting 10 = .ok (.aload_n 0, 1) := by decide +kernel
theorem dX5_changeSetting_11 : decode cX5_changeSetting 11 = .ok (.getfield 12, 3) := by decide +kernel
theorem dX5_changeSetting_14 : decode cX5_changeSetting 14 = .ok (.iload_n 1, 1) := by decide +kernel
theorem dX5_changeSetting_15 : decode cX5_changeSetting 15 = .ok (.iload_n 2, 1) := by decide +kernel
theorem dX5_changeSetting_16 : decode cX5_changeSetting 16 = .ok (.invokevirtual 110, 3) := by decide +kernel
theorem dX5_changeSetting_19 : decode cX5_changeSetting 19 = .ok (.iconst 1, 1) := by decide +kernel
theorem dX5_changeSetting_20 : decode cX5_changeSetting 20 = .ok (.ireturn, 1) := by decide +kernel
theorem dX5_passMinutes_0 : decode cX5_passMinutes 0 = .ok (.iload_n 1, 1) := by decide +kernel
theorem dX5_passMinutes_1 : decode cX5_passMinutes 1 = .ok (.invokestatic 114, 3) := by decide +kernel
theorem dX5_passMinutes_4 : decode cX5_passMinutes 4 = .ok (.ifCond .ne 5, 3) := by decide +kernel
theorem dX5_passMinutes_7 : decode cX5_passMinutes 7 = .ok (.iconst 0, 1) := by decide +kernel
theorem dX5_passMinutes_8 : decode cX5_passMinutes 8 = .ok (.ireturn, 1) := by decide +kernel
theorem dX5_passMinutes_9 : decode cX5_passMinutes 9 = .ok (.iconst 0, 1) := by decide +kernel
theorem dX5_passMinutes_10 : decode cX5_passMinutes 10 = .ok (.istore_n 2, 1) := by decide +kernel
theorem dX5_passMinutes_11 : decode cX5_passMinutes 11 = .ok (.iload_n 2, 1) := by decide +kernel
theorem dX5_passMinutes_12 : decode cX5_passMinutes 12 = .ok (.iload_n 1, 1) := by decide +kernel
theorem dX5_passMinutes_13 : decode cX5_passMinutes 13 = .ok (.if_icmp .ge 13, 3) := by decide +kernel
theorem dX5_passMinutes_16 : decode cX5_passMinutes 16 = .ok (.aload_n 0, 1) := by decide +kernel
theorem dX5_passMinutes_17 : decode cX5_passMinutes 17 = .ok (.invokevirtual 117, 3) := by decide +kernel
theorem dX5_passMinutes_20 : decode cX5_passMinutes 20 = .ok (.iinc 2 1, 3) := by decide +kernel
theorem dX5_passMinutes_23 : decode cX5_passMinutes 23 = .ok (.goto (-12), 3) := by decide +kernel
theorem dX5_passMinutes_26 : decode cX5_passMinutes 26 = .ok (.iconst 1, 1) := by decide +kernel
theorem dX5_passMinutes_27 : decode cX5_passMinutes 27 = .ok (.ireturn, 1) := by decide +kernel
theorem dX5_passMinute_0 : decode cX5_passMinute 0 = .ok (.aload_n 0, 1) := by decide +kernel
theorem dX5_passMinute_1 : decode cX5_passMinute 1 = .ok (.aload_n 0, 1) := by decide +kernel
theorem dX5_passMinute_2 : decode cX5_passMinute 2 = .ok (.invokevirtual 120, 3) := by decide +kernel
theorem dX5_passMinute_5 : decode cX5_passMinute 5 = .ok (.aload_n 0, 1) := by decide +kernel
theorem dX5_passMinute_6 : decode cX5_passMinute 6 = .ok (.getfield 12, 3) := by decide +kernel
theorem dX5_passMinute_9 : decode cX5_passMinute 9 = .ok (.getfield 123, 3) := by decide +kernel
theorem dX5_passMinute_12 : decode cX5_passMinute 12 = .ok (.iadd, 1) := by decide +kernel
theorem dX5_passMinute_13 : decode cX5_passMinute 13 = .ok (.invokevirtual 126, 3) := by decide +kernel
theorem dX5_passMinute_16 : decode cX5_passMinute 16 = .ok (.aload_n 0, 1) := by decide +kernel
theorem dX5_passMinute_17 : decode cX5_passMinute 17 = .ok (.getfield 20, 3) := by decide +kernel
theorem dX5_passMinute_20 : decode cX5_passMinute 20 = .ok (.astore_n 1, 1) := by decide +kernel
theorem dX5_passMinute_21 : decode cX5_passMinute 21 = .ok (.aload_n 1, 1) := by decide +kernel
theorem dX5_passMinute_22 : decode cX5_passMinute 22 = .ok (.arraylength, 1) := by decide +kernel
theorem dX5_passMinute_23 : decode cX5_passMinute 23 = .ok (.istore_n 2, 1) := by decide +kernel
theorem dX5_passMinute_24 : decode cX5_passMinute 24 = .ok (.iconst 0, 1) := by decide +kernel
theorem dX5_passMinute_25 : decode cX5_passMinute 25 = .ok (.istore_n 3, 1) := by decide +kernel
theorem dX5_passMinute_26 : decode cX5_passMinute 26 = .ok (.iload_n 3, 1) := by decide +kernel
theorem dX5_passMinute_27 : decode cX5_passMinute 27 = .ok (.iload_n 2, 1) := by decide +kernel
theorem dX5_passMinute_28 : decode cX5_passMinute 28 = .ok (.if_icmp .ge 44, 3) := by decide +kernel
theorem dX5_passMinute_31 : decode cX5_passMinute 31 = .ok (.aload_n 1, 1) := by decide +kernel
theorem dX5_passMinute_32 : decode cX5_passMinute 32 = .ok (.iload_n 3, 1) := by decide +kernel
theorem dX5_passMinute_33 : decode cX5_passMinute 33 = .ok (.aaload, 1) := by decide +kernel
theorem dX5_passMinute_34 : decode cX5_passMinute 34 = .ok (.astore 4, 2) := by decide +kernel
theorem dX5_passMinute_36 : decode cX5_passMinute 36 = .ok (.aload 4, 2) := by decide +kernel
theorem dX5_passMinute_38 : decode cX5_passMinute 38 = .ok (.invokevirtual 69, 3) := by decide +kernel
theorem dX5_passMinute_41 : decode cX5_passMinute 41 = .ok (.ifCond .eq 25, 3) := by decide +kernel
theorem dX5_passMinute_44 : decode cX5_passMinute 44 = .ok (.aload_n 0, 1) := by decide +kernel
theorem dX5_passMinute_45 : decode cX5_passMinute 45 = .ok (.aload 4, 2) := by decide +kernel
theorem dX5_passMinute_47 : decode cX5_passMinute 47 = .ok (.invokevirtual 129, 3) := by decide +kernel
theorem dX5_passMinute_50 : decode cX5_passMinute 50 = .ok (.aload 4, 2) := by decide +kernel
theorem dX5_passMinute_52 : decode cX5_passMinute 52 = .ok (.invokevirtual 132, 3) := by decide +kernel
theorem dX5_passMinute_55 : decode cX5_passMinute 55 = .ok (.aload 4, 2) := by decide +kernel
theorem dX5_passMinute_57 : decode cX5_passMinute 57 = .ok (.invokevirtual 135, 3) := by decide +kernel
theorem dX5_passMinute_60 : decode cX5_passMinute 60 = .ok (.aload_n 0, 1) := by decide +kernel
theorem dX5_passMinute_61 : decode cX5_passMinute 61 = .ok (.aload 4, 2) := by decide +kernel
theorem dX5_passMinute_63 : decode cX5_passMinute 63 = .ok (.invokevirtual 138, 3) := by decide +kernel
theorem dX5_passMinute_66 : decode cX5_passMinute 66 = .ok (.iinc 3 1, 3) := by decide +kernel
theorem dX5_passMinute_69 : decode cX5_passMinute 69 = .ok (.goto (-43), 3) := by decide +kernel
theorem dX5_passMinute_72 : decode cX5_passMinute 72 = .ok (.aload_n 0, 1) := by decide +kernel
theorem dX5_passMinute_73 : decode cX5_passMinute 73 = .ok (.dup, 1) := by decide +kernel
theorem dX5_passMinute_74 : decode cX5_passMinute 74 = .ok (.getfield 34, 3) := by decide +kernel
theorem dX5_passMinute_77 : decode cX5_passMinute 77 = .ok (.iconst 1, 1) := by decide +kernel
theorem dX5_passMinute_78 : decode cX5_passMinute 78 = .ok (.iadd, 1) := by decide +kernel
theorem dX5_passMinute_79 : decode cX5_passMinute 79 = .ok (.putfield 34, 3) := by decide +kernel
theorem dX5_passMinute_82 : decode cX5_passMinute 82 = .ok (.return_, 1) := by decide +kernel
theorem dX5_beginDefrost_0 : decode cX5_beginDefrost 0 = .ok (.aload_n 1, 1) := by decide +kernel
theorem dX5_beginDefrost_1 : decode cX5_beginDefrost 1 = .ok (.getfield 141, 3) := by decide +kernel
theorem dX5_beginDefrost_4 : decode cX5_beginDefrost 4 = .ok (.iconst 2, 1) := by decide +kernel
theorem dX5_beginDefrost_5 : decode cX5_beginDefrost 5 = .ok (.if_icmp .eq 11, 3) := by decide +kernel
theorem dX5_beginDefrost_8 : decode cX5_beginDefrost 8 = .ok (.aload_n 1, 1) := by decide +kernel
theorem dX5_beginDefrost_9 : decode cX5_beginDefrost 9 = .ok (.getfield 141, 3) := by decide +kernel
theorem dX5_beginDefrost_12 : decode cX5_beginDefrost 12 = .ok (.iconst 5, 1) := by decide +kernel
theorem dX5_beginDefrost_13 : decode cX5_beginDefrost 13 = .ok (.if_icmp .ne 24, 3) := by decide +kernel
theorem dX5_beginDefrost_16 : decode cX5_beginDefrost 16 = .ok (.aload_n 1, 1) := by decide +kernel
theorem dX5_beginDefrost_17 : decode cX5_beginDefrost 17 = .ok (.aload_n 0, 1) := by decide +kernel
theorem dX5_beginDefrost_18 : decode cX5_beginDefrost 18 = .ok (.getfield 12, 3) := by decide +kernel
theorem dX5_beginDefrost_21 : decode cX5_beginDefrost 21 = .ok (.getfield 144, 3) := by decide +kernel
theorem dX5_beginDefrost_24 : decode cX5_beginDefrost 24 = .ok (.putfield 147, 3) := by decide +kernel
theorem dX5_beginDefrost_27 : decode cX5_beginDefrost 27 = .ok (.aload_n 0, 1) := by decide +kernel
theorem dX5_beginDefrost_28 : decode cX5_beginDefrost 28 = .ok (.dup, 1) := by decide +kernel
theorem dX5_beginDefrost_29 : decode cX5_beginDefrost 29 = .ok (.getfield 50, 3) := by decide +kernel
theorem dX5_beginDefrost_32 : decode cX5_beginDefrost 32 = .ok (.iconst 1, 1) := by decide +kernel
theorem dX5_beginDefrost_33 : decode cX5_beginDefrost 33 = .ok (.iadd, 1) := by decide +kernel
theorem dX5_beginDefrost_34 : decode cX5_beginDefrost 34 = .ok (.putfield 50, 3) := by decide +kernel
theorem dX5_beginDefrost_37 : decode cX5_beginDefrost 37 = .ok (.return_, 1) := by decide +kernel
theorem dX5_countMinute_0 : decode cX5_countMinute 0 = .ok (.aload_n 1, 1) := by decide +kernel
theorem dX5_countMinute_1 : decode cX5_countMinute 1 = .ok (.dup, 1) := by decide +kernel
theorem dX5_countMinute_2 : decode cX5_countMinute 2 = .ok (.getfield 150, 3) := by decide +kernel
theorem dX5_countMinute_5 : decode cX5_countMinute 5 = .ok (.aload_n 1, 1) := by decide +kernel
theorem dX5_countMinute_6 : decode cX5_countMinute 6 = .ok (.invokevirtual 153, 3) := by decide +kernel
theorem dX5_countMinute_9 : decode cX5_countMinute 9 = .ok (.ifCond .eq 7, 3) := by decide +kernel
theorem dX5_countMinute_12 : decode cX5_countMinute 12 = .ok (.iconst 1, 1) := by decide +kernel
theorem dX5_countMinute_13 : decode cX5_countMinute 13 = .ok (.goto 4, 3) := by decide +kernel
theorem dX5_countMinute_16 : decode cX5_countMinute 16 = .ok (.iconst 0, 1) := by decide +kernel
theorem dX5_countMinute_17 : decode cX5_countMinute 17 = .ok (.iadd, 1) := by decide +kernel
theorem dX5_countMinute_18 : decode cX5_countMinute 18 = .ok (.putfield 150, 3) := by decide +kernel
theorem dX5_countMinute_21 : decode cX5_countMinute 21 = .ok (.aload_n 0, 1) := by decide +kernel
theorem dX5_countMinute_22 : decode cX5_countMinute 22 = .ok (.dup, 1) := by decide +kernel
theorem dX5_countMinute_23 : decode cX5_countMinute 23 = .ok (.getfield 53, 3) := by decide +kernel
theorem dX5_countMinute_26 : decode cX5_countMinute 26 = .ok (.aload_n 1, 1) := by decide +kernel
theorem dX5_countMinute_27 : decode cX5_countMinute 27 = .ok (.getfield 141, 3) := by decide +kernel
theorem dX5_countMinute_30 : decode cX5_countMinute 30 = .ok (.iconst 4, 1) := by decide +kernel
theorem dX5_countMinute_31 : decode cX5_countMinute 31 = .ok (.if_icmp .ne 7, 3) := by decide +kernel
theorem dX5_countMinute_34 : decode cX5_countMinute 34 = .ok (.iconst 1, 1) := by decide +kernel
theorem dX5_countMinute_35 : decode cX5_countMinute 35 = .ok (.goto 4, 3) := by decide +kernel
theorem dX5_countMinute_38 : decode cX5_countMinute 38 = .ok (.iconst 0, 1) := by decide +kernel
theorem dX5_countMinute_39 : decode cX5_countMinute 39 = .ok (.iadd, 1) := by decide +kernel
theorem dX5_countMinute_40 : decode cX5_countMinute 40 = .ok (.putfield 53, 3) := by decide +kernel
theorem dX5_countMinute_43 : decode cX5_countMinute 43 = .ok (.aload_n 0, 1) := by decide +kernel
theorem dX5_countMinute_44 : decode cX5_countMinute 44 = .ok (.dup, 1) := by decide +kernel
theorem dX5_countMinute_45 : decode cX5_countMinute 45 = .ok (.getfield 56, 3) := by decide +kernel
theorem dX5_countMinute_48 : decode cX5_countMinute 48 = .ok (.aload_n 1, 1) := by decide +kernel
theorem dX5_countMinute_49 : decode cX5_countMinute 49 = .ok (.getfield 141, 3) := by decide +kernel
theorem dX5_countMinute_52 : decode cX5_countMinute 52 = .ok (.bipush 6, 2) := by decide +kernel
theorem dX5_countMinute_54 : decode cX5_countMinute 54 = .ok (.if_icmp .ne 7, 3) := by decide +kernel
theorem dX5_countMinute_57 : decode cX5_countMinute 57 = .ok (.iconst 1, 1) := by decide +kernel
theorem dX5_countMinute_58 : decode cX5_countMinute 58 = .ok (.goto 4, 3) := by decide +kernel
theorem dX5_countMinute_61 : decode cX5_countMinute 61 = .ok (.iconst 0, 1) := by decide +kernel
theorem dX5_countMinute_62 : decode cX5_countMinute 62 = .ok (.iadd, 1) := by decide +kernel
theorem dX5_countMinute_63 : decode cX5_countMinute 63 = .ok (.putfield 56, 3) := by decide +kernel
theorem dX5_countMinute_66 : decode cX5_countMinute 66 = .ok (.aload_n 0, 1) := by decide +kernel
theorem dX5_countMinute_67 : decode cX5_countMinute 67 = .ok (.dup, 1) := by decide +kernel
theorem dX5_countMinute_68 : decode cX5_countMinute 68 = .ok (.getfield 59, 3) := by decide +kernel
theorem dX5_countMinute_71 : decode cX5_countMinute 71 = .ok (.aload_n 1, 1) := by decide +kernel
theorem dX5_countMinute_72 : decode cX5_countMinute 72 = .ok (.invokevirtual 156, 3) := by decide +kernel
theorem dX5_countMinute_75 : decode cX5_countMinute 75 = .ok (.ifCond .eq 7, 3) := by decide +kernel
theorem dX5_countMinute_78 : decode cX5_countMinute 78 = .ok (.iconst 1, 1) := by decide +kernel
theorem dX5_countMinute_79 : decode cX5_countMinute 79 = .ok (.goto 4, 3) := by decide +kernel
theorem dX5_countMinute_82 : decode cX5_countMinute 82 = .ok (.iconst 0, 1) := by decide +kernel
theorem dX5_countMinute_83 : decode cX5_countMinute 83 = .ok (.iadd, 1) := by decide +kernel
theorem dX5_countMinute_84 : decode cX5_countMinute 84 = .ok (.putfield 59, 3) := by decide +kernel
theorem dX5_countMinute_87 : decode cX5_countMinute 87 = .ok (.return_, 1) := by decide +kernel
theorem dX5_takeUnits_0 : decode cX5_takeUnits 0 = .ok (.aload_n 0, 1) := by decide +kernel
theorem dX5_takeUnits_1 : decode cX5_takeUnits 1 = .ok (.dup, 1) := by decide +kernel
theorem dX5_takeUnits_2 : decode cX5_takeUnits 2 = .ok (.getfield 38, 3) := by decide +kernel
theorem dX5_takeUnits_5 : decode cX5_takeUnits 5 = .ok (.iload_n 1, 1) := by decide +kernel
theorem dX5_takeUnits_6 : decode cX5_takeUnits 6 = .ok (.iadd, 1) := by decide +kernel
theorem dX5_takeUnits_7 : decode cX5_takeUnits 7 = .ok (.putfield 38, 3) := by decide +kernel
theorem dX5_takeUnits_10 : decode cX5_takeUnits 10 = .ok (.aload_n 0, 1) := by decide +kernel
theorem dX5_takeUnits_11 : decode cX5_takeUnits 11 = .ok (.dup, 1) := by decide +kernel
theorem dX5_takeUnits_12 : decode cX5_takeUnits 12 = .ok (.getfield 47, 3) := by decide +kernel
theorem dX5_takeUnits_15 : decode cX5_takeUnits 15 = .ok (.iload_n 1, 1) := by decide +kernel
theorem dX5_takeUnits_16 : decode cX5_takeUnits 16 = .ok (.iadd, 1) := by decide +kernel
theorem dX5_takeUnits_17 : decode cX5_takeUnits 17 = .ok (.putfield 47, 3) := by decide +kernel
theorem dX5_takeUnits_20 : decode cX5_takeUnits 20 = .ok (.aload_n 0, 1) := by decide +kernel
theorem dX5_takeUnits_21 : decode cX5_takeUnits 21 = .ok (.invokevirtual 66, 3) := by decide +kernel
theorem dX5_takeUnits_24 : decode cX5_takeUnits 24 = .ok (.iconst 1, 1) := by decide +kernel
theorem dX5_takeUnits_25 : decode cX5_takeUnits 25 = .ok (.if_icmp .ne 51, 3) := by decide +kernel
theorem dX5_takeUnits_28 : decode cX5_takeUnits 28 = .ok (.aload_n 0, 1) := by decide +kernel
theorem dX5_takeUnits_29 : decode cX5_takeUnits 29 = .ok (.dup, 1) := by decide +kernel
theorem dX5_takeUnits_30 : decode cX5_takeUnits 30 = .ok (.getfield 41, 3) := by decide +kernel
theorem dX5_takeUnits_33 : decode cX5_takeUnits 33 = .ok (.aload_n 0, 1) := by decide +kernel
theorem dX5_takeUnits_34 : decode cX5_takeUnits 34 = .ok (.getfield 38, 3) := by decide +kernel
theorem dX5_takeUnits_37 : decode cX5_takeUnits 37 = .ok (.aload_n 0, 1) := by decide +kernel
theorem dX5_takeUnits_38 : decode cX5_takeUnits 38 = .ok (.getfield 12, 3) := by decide +kernel
theorem dX5_takeUnits_41 : decode cX5_takeUnits 41 = .ok (.getfield 159, 3) := by decide +kernel
theorem dX5_takeUnits_44 : decode cX5_takeUnits 44 = .ok (.if_icmp .le 7, 3) := by decide +kernel
theorem dX5_takeUnits_47 : decode cX5_takeUnits 47 = .ok (.iconst 1, 1) := by decide +kernel
theorem dX5_takeUnits_48 : decode cX5_takeUnits 48 = .ok (.goto 4, 3) := by decide +kernel
theorem dX5_takeUnits_51 : decode cX5_takeUnits 51 = .ok (.iconst 0, 1) := by decide +kernel
theorem dX5_takeUnits_52 : decode cX5_takeUnits 52 = .ok (.iadd, 1) := by decide +kernel
theorem dX5_takeUnits_53 : decode cX5_takeUnits 53 = .ok (.putfield 41, 3) := by decide +kernel
theorem dX5_takeUnits_56 : decode cX5_takeUnits 56 = .ok (.aload_n 0, 1) := by decide +kernel
theorem dX5_takeUnits_57 : decode cX5_takeUnits 57 = .ok (.aload_n 0, 1) := by decide +kernel
theorem dX5_takeUnits_58 : decode cX5_takeUnits 58 = .ok (.getfield 44, 3) := by decide +kernel
theorem dX5_takeUnits_61 : decode cX5_takeUnits 61 = .ok (.aload_n 0, 1) := by decide +kernel
theorem dX5_takeUnits_62 : decode cX5_takeUnits 62 = .ok (.getfield 38, 3) := by decide +kernel
theorem dX5_takeUnits_65 : decode cX5_takeUnits 65 = .ok (.invokestatic 162, 3) := by decide +kernel
theorem dX5_takeUnits_68 : decode cX5_takeUnits 68 = .ok (.putfield 44, 3) := by decide +kernel
theorem dX5_takeUnits_71 : decode cX5_takeUnits 71 = .ok (.aload_n 0, 1) := by decide +kernel
theorem dX5_takeUnits_72 : decode cX5_takeUnits 72 = .ok (.iconst 0, 1) := by decide +kernel
theorem dX5_takeUnits_73 : decode cX5_takeUnits 73 = .ok (.putfield 38, 3) := by decide +kernel
theorem dX5_takeUnits_76 : decode cX5_takeUnits 76 = .ok (.return_, 1) := by decide +kernel
theorem dX5_minutesLeft_0 : decode cX5_minutesLeft 0 = .ok (.bipush 15, 2) := by decide +kernel
theorem dX5_minutesLeft_2 : decode cX5_minutesLeft 2 = .ok (.aload_n 0, 1) := by decide +kernel
theorem dX5_minutesLeft_3 : decode cX5_minutesLeft 3 = .ok (.getfield 34, 3) := by decide +kernel
theorem dX5_minutesLeft_6 : decode cX5_minutesLeft 6 = .ok (.aload_n 0, 1) := by decide +kernel
theorem dX5_minutesLeft_7 : decode cX5_minutesLeft 7 = .ok (.getfield 12, 3) := by decide +kernel
theorem dX5_minutesLeft_10 : decode cX5_minutesLeft 10 = .ok (.getfield 168, 3) := by decide +kernel
theorem dX5_minutesLeft_13 : decode cX5_minutesLeft 13 = .ok (.iadd, 1) := by decide +kernel
theorem dX5_minutesLeft_14 : decode cX5_minutesLeft 14 = .ok (.bipush 15, 2) := by decide +kernel
theorem dX5_minutesLeft_16 : decode cX5_minutesLeft 16 = .ok (.irem, 1) := by decide +kernel
theorem dX5_minutesLeft_17 : decode cX5_minutesLeft 17 = .ok (.isub, 1) := by decide +kernel
theorem dX5_minutesLeft_18 : decode cX5_minutesLeft 18 = .ok (.ireturn, 1) := by decide +kernel
theorem dX5_spareKilowatts_0 : decode cX5_spareKilowatts 0 = .ok (.aload_n 0, 1) := by decide +kernel
theorem dX5_spareKilowatts_1 : decode cX5_spareKilowatts 1 = .ok (.invokevirtual 66, 3) := by decide +kernel
theorem dX5_spareKilowatts_4 : decode cX5_spareKilowatts 4 = .ok (.istore_n 1, 1) := by decide +kernel
theorem dX5_spareKilowatts_5 : decode cX5_spareKilowatts 5 = .ok (.aload_n 0, 1) := by decide +kernel
theorem dX5_spareKilowatts_6 : decode cX5_spareKilowatts 6 = .ok (.getfield 12, 3) := by decide +kernel
theorem dX5_spareKilowatts_9 : decode cX5_spareKilowatts 9 = .ok (.getfield 159, 3) := by decide +kernel
theorem dX5_spareKilowatts_12 : decode cX5_spareKilowatts 12 = .ok (.aload_n 0, 1) := by decide +kernel
theorem dX5_spareKilowatts_13 : decode cX5_spareKilowatts 13 = .ok (.getfield 38, 3) := by decide +kernel
theorem dX5_spareKilowatts_16 : decode cX5_spareKilowatts 16 = .ok (.isub, 1) := by decide +kernel
theorem dX5_spareKilowatts_17 : decode cX5_spareKilowatts 17 = .ok (.istore_n 2, 1) := by decide +kernel
theorem dX5_spareKilowatts_18 : decode cX5_spareKilowatts 18 = .ok (.iload_n 2, 1) := by decide +kernel
theorem dX5_spareKilowatts_19 : decode cX5_spareKilowatts 19 = .ok (.ifCond .lt 8, 3) := by decide +kernel
theorem dX5_spareKilowatts_22 : decode cX5_spareKilowatts 22 = .ok (.iload_n 1, 1) := by decide +kernel
theorem dX5_spareKilowatts_23 : decode cX5_spareKilowatts 23 = .ok (.iconst 1, 1) := by decide +kernel
theorem dX5_spareKilowatts_24 : decode cX5_spareKilowatts 24 = .ok (.if_icmp .ge 5, 3) := by decide +kernel
theorem dX5_spareKilowatts_27 : decode cX5_spareKilowatts 27 = .ok (.iconst (-1), 1) := by decide +kernel
theorem dX5_spareKilowatts_28 : decode cX5_spareKilowatts 28 = .ok (.ireturn, 1) := by decide +kernel
theorem dX5_spareKilowatts_29 : decode cX5_spareKilowatts 29 = .ok (.iload_n 2, 1) := by decide +kernel
theorem dX5_spareKilowatts_30 : decode cX5_spareKilowatts 30 = .ok (.iload_n 1, 1) := by decide +kernel
theorem dX5_spareKilowatts_31 : decode cX5_spareKilowatts 31 = .ok (.idiv, 1) := by decide +kernel
theorem dX5_spareKilowatts_32 : decode cX5_spareKilowatts 32 = .ok (.aload_n 0, 1) := by decide +kernel
theorem dX5_spareKilowatts_33 : decode cX5_spareKilowatts 33 = .ok (.getfield 12, 3) := by decide +kernel
theorem dX5_spareKilowatts_36 : decode cX5_spareKilowatts 36 = .ok (.getfield 123, 3) := by decide +kernel
theorem dX5_spareKilowatts_39 : decode cX5_spareKilowatts 39 = .ok (.isub, 1) := by decide +kernel
theorem dX5_spareKilowatts_40 : decode cX5_spareKilowatts 40 = .ok (.istore_n 3, 1) := by decide +kernel
theorem dX5_spareKilowatts_41 : decode cX5_spareKilowatts 41 = .ok (.iload_n 3, 1) := by decide +kernel
theorem dX5_spareKilowatts_42 : decode cX5_spareKilowatts 42 = .ok (.ifCond .ge 7, 3) := by decide +kernel
theorem dX5_spareKilowatts_45 : decode cX5_spareKilowatts 45 = .ok (.iconst (-1), 1) := by decide +kernel
theorem dX5_spareKilowatts_46 : decode cX5_spareKilowatts 46 = .ok (.goto 10, 3) := by decide +kernel
theorem dX5_spareKilowatts_49 : decode cX5_spareKilowatts 49 = .ok (.iload_n 3, 1) := by decide +kernel
theorem dX5_spareKilowatts_50 : decode cX5_spareKilowatts 50 = .ok (.sipush 9999, 3) := by decide +kernel
theorem dX5_spareKilowatts_53 : decode cX5_spareKilowatts 53 = .ok (.invokestatic 171, 3) := by decide +kernel
theorem dX5_spareKilowatts_56 : decode cX5_spareKilowatts 56 = .ok (.ireturn, 1) := by decide +kernel
theorem dX5_planMinute_0 : decode cX5_planMinute 0 = .ok (.aload_n 0, 1) := by decide +kernel
theorem dX5_planMinute_1 : decode cX5_planMinute 1 = .ok (.invokevirtual 174, 3) := by decide +kernel
theorem dX5_planMinute_4 : decode cX5_planMinute 4 = .ok (.istore_n 1, 1) := by decide +kernel
theorem dX5_planMinute_5 : decode cX5_planMinute 5 = .ok (.aload_n 0, 1) := by decide +kernel
theorem dX5_planMinute_6 : decode cX5_planMinute 6 = .ok (.invokevirtual 177, 3) := by decide +kernel
theorem dX5_planMinute_9 : decode cX5_planMinute 9 = .ok (.istore_n 2, 1) := by decide +kernel
theorem dX5_planMinute_10 : decode cX5_planMinute 10 = .ok (.aload_n 0, 1) := by decide +kernel
theorem dX5_planMinute_11 : decode cX5_planMinute 11 = .ok (.iload_n 2, 1) := by decide +kernel
theorem dX5_planMinute_12 : decode cX5_planMinute 12 = .ok (.iload_n 1, 1) := by decide +kernel
theorem dX5_planMinute_13 : decode cX5_planMinute 13 = .ok (.invokevirtual 180, 3) := by decide +kernel
theorem dX5_planMinute_16 : decode cX5_planMinute 16 = .ok (.istore_n 2, 1) := by decide +kernel
theorem dX5_planMinute_17 : decode cX5_planMinute 17 = .ok (.aload_n 0, 1) := by decide +kernel
theorem dX5_planMinute_18 : decode cX5_planMinute 18 = .ok (.iload_n 2, 1) := by decide +kernel
theorem dX5_planMinute_19 : decode cX5_planMinute 19 = .ok (.iload_n 1, 1) := by decide +kernel
theorem dX5_planMinute_20 : decode cX5_planMinute 20 = .ok (.invokevirtual 183, 3) := by decide +kernel
theorem dX5_planMinute_23 : decode cX5_planMinute 23 = .ok (.ireturn, 1) := by decide +kernel
theorem dX5_planMusts_0 : decode cX5_planMusts 0 = .ok (.iconst 0, 1) := by decide +kernel
theorem dX5_planMusts_1 : decode cX5_planMusts 1 = .ok (.istore_n 1, 1) := by decide +kernel
theorem dX5_planMusts_2 : decode cX5_planMusts 2 = .ok (.aload_n 0, 1) := by decide +kernel
theorem dX5_planMusts_3 : decode cX5_planMusts 3 = .ok (.getfield 20, 3) := by decide +kernel
theorem dX5_planMusts_6 : decode cX5_planMusts 6 = .ok (.astore_n 2, 1) := by decide +kernel
theorem dX5_planMusts_7 : decode cX5_planMusts 7 = .ok (.aload_n 2, 1) := by decide +kernel
theorem dX5_planMusts_8 : decode cX5_planMusts 8 = .ok (.arraylength, 1) := by decide +kernel
theorem dX5_planMusts_9 : decode cX5_planMusts 9 = .ok (.istore_n 3, 1) := by decide +kernel
theorem dX5_planMusts_10 : decode cX5_planMusts 10 = .ok (.iconst 0, 1) := by decide +kernel
theorem dX5_planMusts_11 : decode cX5_planMusts 11 = .ok (.istore 4, 2) := by decide +kernel
theorem dX5_planMusts_13 : decode cX5_planMusts 13 = .ok (.iload 4, 2) := by decide +kernel
theorem dX5_planMusts_15 : decode cX5_planMusts 15 = .ok (.iload_n 3, 1) := by decide +kernel
theorem dX5_planMusts_16 : decode cX5_planMusts 16 = .ok (.if_icmp .ge 62, 3) := by decide +kernel
theorem dX5_planMusts_19 : decode cX5_planMusts 19 = .ok (.aload_n 2, 1) := by decide +kernel
theorem dX5_planMusts_20 : decode cX5_planMusts 20 = .ok (.iload 4, 2) := by decide +kernel
theorem dX5_planMusts_22 : decode cX5_planMusts 22 = .ok (.aaload, 1) := by decide +kernel
theorem dX5_planMusts_23 : decode cX5_planMusts 23 = .ok (.astore 5, 2) := by decide +kernel
theorem dX5_planMusts_25 : decode cX5_planMusts 25 = .ok (.aload 5, 2) := by decide +kernel
theorem dX5_planMusts_27 : decode cX5_planMusts 27 = .ok (.aload 5, 2) := by decide +kernel
theorem dX5_planMusts_29 : decode cX5_planMusts 29 = .ok (.invokevirtual 186, 3) := by decide +kernel
theorem dX5_planMusts_32 : decode cX5_planMusts 32 = .ok (.putfield 141, 3) := by decide +kernel
theorem dX5_planMusts_35 : decode cX5_planMusts 35 = .ok (.aload 5, 2) := by decide +kernel
theorem dX5_planMusts_37 : decode cX5_planMusts 37 = .ok (.invokevirtual 189, 3) := by decide +kernel
theorem dX5_planMusts_40 : decode cX5_planMusts 40 = .ok (.ifCond .eq 16, 3) := by decide +kernel
theorem dX5_planMusts_43 : decode cX5_planMusts 43 = .ok (.iload_n 1, 1) := by decide +kernel
theorem dX5_planMusts_44 : decode cX5_planMusts 44 = .ok (.aload_n 0, 1) := by decide +kernel
theorem dX5_planMusts_45 : decode cX5_planMusts 45 = .ok (.getfield 12, 3) := by decide +kernel
theorem dX5_planMusts_48 : decode cX5_planMusts 48 = .ok (.getfield 192, 3) := by decide +kernel
theorem dX5_planMusts_51 : decode cX5_planMusts 51 = .ok (.iadd, 1) := by decide +kernel
theorem dX5_planMusts_52 : decode cX5_planMusts 52 = .ok (.istore_n 1, 1) := by decide +kernel
theorem dX5_planMusts_53 : decode cX5_planMusts 53 = .ok (.goto 19, 3) := by decide +kernel
theorem dX5_planMusts_56 : decode cX5_planMusts 56 = .ok (.aload 5, 2) := by decide +kernel
theorem dX5_planMusts_58 : decode cX5_planMusts 58 = .ok (.invokevirtual 153, 3) := by decide +kernel
theorem dX5_planMusts_61 : decode cX5_planMusts 61 = .ok (.ifCond .eq 11, 3) := by decide +kernel
theorem dX5_planMusts_64 : decode cX5_planMusts 64 = .ok (.iload_n 1, 1) := by decide +kernel
theorem dX5_planMusts_65 : decode cX5_planMusts 65 = .ok (.aload 5, 2) := by decide +kernel
theorem dX5_planMusts_67 : decode cX5_planMusts 67 = .ok (.getfield 195, 3) := by decide +kernel
theorem dX5_planMusts_70 : decode cX5_planMusts 70 = .ok (.iadd, 1) := by decide +kernel
theorem dX5_planMusts_71 : decode cX5_planMusts 71 = .ok (.istore_n 1, 1) := by decide +kernel
theorem dX5_planMusts_72 : decode cX5_planMusts 72 = .ok (.iinc 4 1, 3) := by decide +kernel
theorem dX5_planMusts_75 : decode cX5_planMusts 75 = .ok (.goto (-62), 3) := by decide +kernel
theorem dX5_planMusts_78 : decode cX5_planMusts 78 = .ok (.iload_n 1, 1) := by decide +kernel
theorem dX5_planMusts_79 : decode cX5_planMusts 79 = .ok (.ireturn, 1) := by decide +kernel
theorem dX5_planCompressors_0 : decode cX5_planCompressors 0 = .ok (.iload_n 1, 1) := by decide +kernel
theorem dX5_planCompressors_1 : decode cX5_planCompressors 1 = .ok (.istore_n 3, 1) := by decide +kernel
theorem dX5_planCompressors_2 : decode cX5_planCompressors 2 = .ok (.iconst 0, 1) := by decide +kernel
theorem dX5_planCompressors_3 : decode cX5_planCompressors 3 = .ok (.istore 4, 2) := by decide +kernel
theorem dX5_planCompressors_5 : decode cX5_planCompressors 5 = .ok (.iload 4, 2) := by decide +kernel
theorem dX5_planCompressors_7 : decode cX5_planCompressors 7 = .ok (.bipush 6, 2) := by decide +kernel
theorem dX5_planCompressors_9 : decode cX5_planCompressors 9 = .ok (.if_icmp .ge 57, 3) := by decide +kernel
theorem dX5_planCompressors_12 : decode cX5_planCompressors 12 = .ok (.aload_n 0, 1) := by decide +kernel
theorem dX5_planCompressors_13 : decode cX5_planCompressors 13 = .ok (.invokevirtual 198, 3) := by decide +kernel
theorem dX5_planCompressors_16 : decode cX5_planCompressors 16 = .ok (.astore 5, 2) := by decide +kernel
theorem dX5_planCompressors_18 : decode cX5_planCompressors 18 = .ok (.aload 5, 2) := by decide +kernel
theorem dX5_planCompressors_20 : decode cX5_planCompressors 20 = .ok (.ifnonnull 6, 3) := by decide +kernel
theorem dX5_planCompressors_23 : decode cX5_planCompressors 23 = .ok (.goto 43, 3) := by decide +kernel
theorem dX5_planCompressors_26 : decode cX5_planCompressors 26 = .ok (.iload_n 3, 1) := by decide +kernel
theorem dX5_planCompressors_27 : decode cX5_planCompressors 27 = .ok (.aload 5, 2) := by decide +kernel
theorem dX5_planCompressors_29 : decode cX5_planCompressors 29 = .ok (.getfield 195, 3) := by decide +kernel
theorem dX5_planCompressors_32 : decode cX5_planCompressors 32 = .ok (.iadd, 1) := by decide +kernel
theorem dX5_planCompressors_33 : decode cX5_planCompressors 33 = .ok (.iload_n 2, 1) := by decide +kernel
theorem dX5_planCompressors_34 : decode cX5_planCompressors 34 = .ok (.if_icmp .gt 20, 3) := by decide +kernel
theorem dX5_planCompressors_37 : decode cX5_planCompressors 37 = .ok (.aload 5, 2) := by decide +kernel
theorem dX5_planCompressors_39 : decode cX5_planCompressors 39 = .ok (.iconst 3, 1) := by decide +kernel
theorem dX5_planCompressors_40 : decode cX5_planCompressors 40 = .ok (.putfield 141, 3) := by decide +kernel
theorem dX5_planCompressors_43 : decode cX5_planCompressors 43 = .ok (.iload_n 3, 1) := by decide +kernel
theorem dX5_planCompressors_44 : decode cX5_planCompressors 44 = .ok (.aload 5, 2) := by decide +kernel
theorem dX5_planCompressors_46 : decode cX5_planCompressors 46 = .ok (.getfield 195, 3) := by decide +kernel
theorem dX5_planCompressors_49 : decode cX5_planCompressors 49 = .ok (.iadd, 1) := by decide +kernel
theorem dX5_planCompressors_50 : decode cX5_planCompressors 50 = .ok (.istore_n 3, 1) := by decide +kernel
theorem dX5_planCompressors_51 : decode cX5_planCompressors 51 = .ok (.goto 9, 3) := by decide +kernel
theorem dX5_planCompressors_54 : decode cX5_planCompressors 54 = .ok (.aload 5, 2) := by decide +kernel
theorem dX5_planCompressors_56 : decode cX5_planCompressors 56 = .ok (.iconst 4, 1) := by decide +kernel
theorem dX5_planCompressors_57 : decode cX5_planCompressors 57 = .ok (.putfield 141, 3) := by decide +kernel
theorem dX5_planCompressors_60 : decode cX5_planCompressors 60 = .ok (.iinc 4 1, 3) := by decide +kernel
theorem dX5_planCompressors_63 : decode cX5_planCompressors 63 = .ok (.goto (-58), 3) := by decide +kernel
theorem dX5_planCompressors_66 : decode cX5_planCompressors 66 = .ok (.iload_n 3, 1) := by decide +kernel
theorem dX5_planCompressors_67 : decode cX5_planCompressors 67 = .ok (.ireturn, 1) := by decide +kernel
theorem dX5_planDefrosts_0 : decode cX5_planDefrosts 0 = .ok (.iload_n 1, 1) := by decide +kernel
theorem dX5_planDefrosts_1 : decode cX5_planDefrosts 1 = .ok (.istore_n 3, 1) := by decide +kernel
theorem dX5_planDefrosts_2 : decode cX5_planDefrosts 2 = .ok (.iconst 0, 1) := by decide +kernel
theorem dX5_planDefrosts_3 : decode cX5_planDefrosts 3 = .ok (.istore 4, 2) := by decide +kernel
theorem dX5_planDefrosts_5 : decode cX5_planDefrosts 5 = .ok (.iload 4, 2) := by decide +kernel
theorem dX5_planDefrosts_7 : decode cX5_planDefrosts 7 = .ok (.bipush 6, 2) := by decide +kernel
theorem dX5_planDefrosts_9 : decode cX5_planDefrosts 9 = .ok (.if_icmp .ge 62, 3) := by decide +kernel
theorem dX5_planDefrosts_12 : decode cX5_planDefrosts 12 = .ok (.aload_n 0, 1) := by decide +kernel
theorem dX5_planDefrosts_13 : decode cX5_planDefrosts 13 = .ok (.invokevirtual 201, 3) := by decide +kernel
theorem dX5_planDefrosts_16 : decode cX5_planDefrosts 16 = .ok (.astore 5, 2) := by decide +kernel
theorem dX5_planDefrosts_18 : decode cX5_planDefrosts 18 = .ok (.aload 5, 2) := by decide +kernel
theorem dX5_planDefrosts_20 : decode cX5_planDefrosts 20 = .ok (.ifnonnull 6, 3) := by decide +kernel
theorem dX5_planDefrosts_23 : decode cX5_planDefrosts 23 = .ok (.goto 48, 3) := by decide +kernel
theorem dX5_planDefrosts_26 : decode cX5_planDefrosts 26 = .ok (.iload_n 3, 1) := by decide +kernel
theorem dX5_planDefrosts_27 : decode cX5_planDefrosts 27 = .ok (.aload_n 0, 1) := by decide +kernel
theorem dX5_planDefrosts_28 : decode cX5_planDefrosts 28 = .ok (.getfield 12, 3) := by decide +kernel
theorem dX5_planDefrosts_31 : decode cX5_planDefrosts 31 = .ok (.getfield 192, 3) := by decide +kernel
theorem dX5_planDefrosts_34 : decode cX5_planDefrosts 34 = .ok (.iadd, 1) := by decide +kernel
theorem dX5_planDefrosts_35 : decode cX5_planDefrosts 35 = .ok (.iload_n 2, 1) := by decide +kernel
theorem dX5_planDefrosts_36 : decode cX5_planDefrosts 36 = .ok (.if_icmp .gt 22, 3) := by decide +kernel
theorem dX5_planDefrosts_39 : decode cX5_planDefrosts 39 = .ok (.aload 5, 2) := by decide +kernel
theorem dX5_planDefrosts_41 : decode cX5_planDefrosts 41 = .ok (.iconst 5, 1) := by decide +kernel
theorem dX5_planDefrosts_42 : decode cX5_planDefrosts 42 = .ok (.putfield 141, 3) := by decide +kernel
theorem dX5_planDefrosts_45 : decode cX5_planDefrosts 45 = .ok (.iload_n 3, 1) := by decide +kernel
theorem dX5_planDefrosts_46 : decode cX5_planDefrosts 46 = .ok (.aload_n 0, 1) := by decide +kernel
theorem dX5_planDefrosts_47 : decode cX5_planDefrosts 47 = .ok (.getfield 12, 3) := by decide +kernel
theorem dX5_planDefrosts_50 : decode cX5_planDefrosts 50 = .ok (.getfield 192, 3) := by decide +kernel
theorem dX5_planDefrosts_53 : decode cX5_planDefrosts 53 = .ok (.iadd, 1) := by decide +kernel
theorem dX5_planDefrosts_54 : decode cX5_planDefrosts 54 = .ok (.istore_n 3, 1) := by decide +kernel
theorem dX5_planDefrosts_55 : decode cX5_planDefrosts 55 = .ok (.goto 10, 3) := by decide +kernel
theorem dX5_planDefrosts_58 : decode cX5_planDefrosts 58 = .ok (.aload 5, 2) := by decide +kernel
theorem dX5_planDefrosts_60 : decode cX5_planDefrosts 60 = .ok (.bipush 6, 2) := by decide +kernel
theorem dX5_planDefrosts_62 : decode cX5_planDefrosts 62 = .ok (.putfield 141, 3) := by decide +kernel
theorem dX5_planDefrosts_65 : decode cX5_planDefrosts 65 = .ok (.iinc 4 1, 3) := by decide +kernel
theorem dX5_planDefrosts_68 : decode cX5_planDefrosts 68 = .ok (.goto (-63), 3) := by decide +kernel
theorem dX5_planDefrosts_71 : decode cX5_planDefrosts 71 = .ok (.iload_n 3, 1) := by decide +kernel
theorem dX5_planDefrosts_72 : decode cX5_planDefrosts 72 = .ok (.ireturn, 1) := by decide +kernel
theorem dX5_nextToCool_0 : decode cX5_nextToCool 0 = .ok (.aconst_null, 1) := by decide +kernel
theorem dX5_nextToCool_1 : decode cX5_nextToCool 1 = .ok (.astore_n 1, 1) := by decide +kernel
theorem dX5_nextToCool_2 : decode cX5_nextToCool 2 = .ok (.iconst 0, 1) := by decide +kernel
theorem dX5_nextToCool_3 : decode cX5_nextToCool 3 = .ok (.istore_n 2, 1) := by decide +kernel
theorem dX5_nextToCool_4 : decode cX5_nextToCool 4 = .ok (.aload_n 0, 1) := by decide +kernel
theorem dX5_nextToCool_5 : decode cX5_nextToCool 5 = .ok (.getfield 20, 3) := by decide +kernel
theorem dX5_nextToCool_8 : decode cX5_nextToCool 8 = .ok (.astore_n 3, 1) := by decide +kernel
theorem dX5_nextToCool_9 : decode cX5_nextToCool 9 = .ok (.aload_n 3, 1) := by decide +kernel
theorem dX5_nextToCool_10 : decode cX5_nextToCool 10 = .ok (.arraylength, 1) := by decide +kernel
theorem dX5_nextToCool_11 : decode cX5_nextToCool 11 = .ok (.istore 4, 2) := by decide +kernel
theorem dX5_nextToCool_13 : decode cX5_nextToCool 13 = .ok (.iconst 0, 1) := by decide +kernel
theorem dX5_nextToCool_14 : decode cX5_nextToCool 14 = .ok (.istore 5, 2) := by decide +kernel
theorem dX5_nextToCool_16 : decode cX5_nextToCool 16 = .ok (.iload 5, 2) := by decide +kernel
theorem dX5_nextToCool_18 : decode cX5_nextToCool 18 = .ok (.iload 4, 2) := by decide +kernel
theorem dX5_nextToCool_20 : decode cX5_nextToCool 20 = .ok (.if_icmp .ge 50, 3) := by decide +kernel
theorem dX5_nextToCool_23 : decode cX5_nextToCool 23 = .ok (.aload_n 3, 1) := by decide +kernel
theorem dX5_nextToCool_24 : decode cX5_nextToCool 24 = .ok (.iload 5, 2) := by decide +kernel
theorem dX5_nextToCool_26 : decode cX5_nextToCool 26 = .ok (.aaload, 1) := by decide +kernel
theorem dX5_nextToCool_27 : decode cX5_nextToCool 27 = .ok (.astore 6, 2) := by decide +kernel
theorem dX5_nextToCool_29 : decode cX5_nextToCool 29 = .ok (.aload 6, 2) := by decide +kernel
theorem dX5_nextToCool_31 : decode cX5_nextToCool 31 = .ok (.getfield 103, 3) := by decide +kernel
theorem dX5_nextToCool_34 : decode cX5_nextToCool 34 = .ok (.aload 6, 2) := by decide +kernel
theorem dX5_nextToCool_36 : decode cX5_nextToCool 36 = .ok (.getfield 204, 3) := by decide +kernel
theorem dX5_nextToCool_39 : decode cX5_nextToCool 39 = .ok (.isub, 1) := by decide +kernel
theorem dX5_nextToCool_40 : decode cX5_nextToCool 40 = .ok (.istore 7, 2) := by decide +kernel
theorem dX5_nextToCool_42 : decode cX5_nextToCool 42 = .ok (.aload 6, 2) := by decide +kernel
theorem dX5_nextToCool_44 : decode cX5_nextToCool 44 = .ok (.getfield 141, 3) := by decide +kernel
theorem dX5_nextToCool_47 : decode cX5_nextToCool 47 = .ok (.bipush 7, 2) := by decide +kernel
theorem dX5_nextToCool_49 : decode cX5_nextToCool 49 = .ok (.if_icmp .ne 15, 3) := by decide +kernel
theorem dX5_nextToCool_52 : decode cX5_nextToCool 52 = .ok (.iload 7, 2) := by decide +kernel
theorem dX5_nextToCool_54 : decode cX5_nextToCool 54 = .ok (.iload_n 2, 1) := by decide +kernel
theorem dX5_nextToCool_55 : decode cX5_nextToCool 55 = .ok (.if_icmp .le 9, 3) := by decide +kernel
theorem dX5_nextToCool_58 : decode cX5_nextToCool 58 = .ok (.aload 6, 2) := by decide +kernel
theorem dX5_nextToCool_60 : decode cX5_nextToCool 60 = .ok (.astore_n 1, 1) := by decide +kernel
theorem dX5_nextToCool_61 : decode cX5_nextToCool 61 = .ok (.iload 7, 2) := by decide +kernel
theorem dX5_nextToCool_63 : decode cX5_nextToCool 63 = .ok (.istore_n 2, 1) := by decide +kernel
theorem dX5_nextToCool_64 : decode cX5_nextToCool 64 = .ok (.iinc 5 1, 3) := by decide +kernel
theorem dX5_nextToCool_67 : decode cX5_nextToCool 67 = .ok (.goto (-51), 3) := by decide +kernel
theorem dX5_nextToCool_70 : decode cX5_nextToCool 70 = .ok (.aload_n 1, 1) := by decide +kernel
theorem dX5_nextToCool_71 : decode cX5_nextToCool 71 = .ok (.areturn, 1) := by decide +kernel
theorem dX5_nextToDefrost_0 : decode cX5_nextToDefrost 0 = .ok (.aconst_null, 1) := by decide +kernel
theorem dX5_nextToDefrost_1 : decode cX5_nextToDefrost 1 = .ok (.astore_n 1, 1) := by decide +kernel
theorem dX5_nextToDefrost_2 : decode cX5_nextToDefrost 2 = .ok (.aload_n 0, 1) := by decide +kernel
theorem dX5_nextToDefrost_3 : decode cX5_nextToDefrost 3 = .ok (.getfield 12, 3) := by decide +kernel
theorem dX5_nextToDefrost_6 : decode cX5_nextToDefrost 6 = .ok (.getfield 207, 3) := by decide +kernel
theorem dX5_nextToDefrost_9 : decode cX5_nextToDefrost 9 = .ok (.iconst 1, 1) := by decide +kernel
theorem dX5_nextToDefrost_10 : decode cX5_nextToDefrost 10 = .ok (.isub, 1) := by decide +kernel
theorem dX5_nextToDefrost_11 : decode cX5_nextToDefrost 11 = .ok (.istore_n 2, 1) := by decide +kernel
theorem dX5_nextToDefrost_12 : decode cX5_nextToDefrost 12 = .ok (.aload_n 0, 1) := by decide +kernel
theorem dX5_nextToDefrost_13 : decode cX5_nextToDefrost 13 = .ok (.getfield 20, 3) := by decide +kernel
theorem dX5_nextToDefrost_16 : decode cX5_nextToDefrost 16 = .ok (.astore_n 3, 1) := by decide +kernel
theorem dX5_nextToDefrost_17 : decode cX5_nextToDefrost 17 = .ok (.aload_n 3, 1) := by decide +kernel
theorem dX5_nextToDefrost_18 : decode cX5_nextToDefrost 18 = .ok (.arraylength, 1) := by decide +kernel
theorem dX5_nextToDefrost_19 : decode cX5_nextToDefrost 19 = .ok (.istore 4, 2) := by decide +kernel
theorem dX5_nextToDefrost_21 : decode cX5_nextToDefrost 21 = .ok (.iconst 0, 1) := by decide +kernel
theorem dX5_nextToDefrost_22 : decode cX5_nextToDefrost 22 = .ok (.istore 5, 2) := by decide +kernel
theorem dX5_nextToDefrost_24 : decode cX5_nextToDefrost 24 = .ok (.iload 5, 2) := by decide +kernel
theorem dX5_nextToDefrost_26 : decode cX5_nextToDefrost 26 = .ok (.iload 4, 2) := by decide +kernel
theorem dX5_nextToDefrost_28 : decode cX5_nextToDefrost 28 = .ok (.if_icmp .ge 43, 3) := by decide +kernel
theorem dX5_nextToDefrost_31 : decode cX5_nextToDefrost 31 = .ok (.aload_n 3, 1) := by decide +kernel
theorem dX5_nextToDefrost_32 : decode cX5_nextToDefrost 32 = .ok (.iload 5, 2) := by decide +kernel
theorem dX5_nextToDefrost_34 : decode cX5_nextToDefrost 34 = .ok (.aaload, 1) := by decide +kernel
theorem dX5_nextToDefrost_35 : decode cX5_nextToDefrost 35 = .ok (.astore 6, 2) := by decide +kernel
theorem dX5_nextToDefrost_37 : decode cX5_nextToDefrost 37 = .ok (.aload 6, 2) := by decide +kernel
theorem dX5_nextToDefrost_39 : decode cX5_nextToDefrost 39 = .ok (.getfield 141, 3) := by decide +kernel
theorem dX5_nextToDefrost_42 : decode cX5_nextToDefrost 42 = .ok (.bipush 7, 2) := by decide +kernel
theorem dX5_nextToDefrost_44 : decode cX5_nextToDefrost 44 = .ok (.if_icmp .ne 21, 3) := by decide +kernel
theorem dX5_nextToDefrost_47 : decode cX5_nextToDefrost 47 = .ok (.aload 6, 2) := by decide +kernel
theorem dX5_nextToDefrost_49 : decode cX5_nextToDefrost 49 = .ok (.getfield 210, 3) := by decide +kernel
theorem dX5_nextToDefrost_52 : decode cX5_nextToDefrost 52 = .ok (.iload_n 2, 1) := by decide +kernel
theorem dX5_nextToDefrost_53 : decode cX5_nextToDefrost 53 = .ok (.if_icmp .le 12, 3) := by decide +kernel
theorem dX5_nextToDefrost_56 : decode cX5_nextToDefrost 56 = .ok (.aload 6, 2) := by decide +kernel
theorem dX5_nextToDefrost_58 : decode cX5_nextToDefrost 58 = .ok (.astore_n 1, 1) := by decide +kernel
theorem dX5_nextToDefrost_59 : decode cX5_nextToDefrost 59 = .ok (.aload 6, 2) := by decide +kernel
theorem dX5_nextToDefrost_61 : decode cX5_nextToDefrost 61 = .ok (.getfield 210, 3) := by decide +kernel
theorem dX5_nextToDefrost_64 : decode cX5_nextToDefrost 64 = .ok (.istore_n 2, 1) := by decide +kernel
theorem dX5_nextToDefrost_65 : decode cX5_nextToDefrost 65 = .ok (.iinc 5 1, 3) := by decide +kernel
theorem dX5_nextToDefrost_68 : decode cX5_nextToDefrost 68 = .ok (.goto (-44), 3) := by decide +kernel
theorem dX5_nextToDefrost_71 : decode cX5_nextToDefrost 71 = .ok (.aload_n 1, 1) := by decide +kernel
theorem dX5_nextToDefrost_72 : decode cX5_nextToDefrost 72 = .ok (.areturn, 1) := by decide +kernel
theorem dX6_init_0 : decode cX6_init 0 = .ok (.aload_n 0, 1) := by decide +kernel
theorem dX6_init_1 : decode cX6_init 1 = .ok (.invokespecial 3, 3) := by decide +kernel
theorem dX6_init_4 : decode cX6_init 4 = .ok (.aload_n 0, 1) := by decide +kernel
theorem dX6_init_5 : decode cX6_init 5 = .ok (.bipush 120, 2) := by decide +kernel
theorem dX6_init_7 : decode cX6_init 7 = .ok (.newarray .char, 2) := by decide +kernel
theorem dX6_init_9 : decode cX6_init 9 = .ok (.putfield 9, 3) := by decide +kernel
theorem dX6_init_12 : decode cX6_init 12 = .ok (.return_, 1) := by decide +kernel
theorem dX6_isFull_0 : decode cX6_isFull 0 = .ok (.aload_n 0, 1) := by decide +kernel
theorem dX6_isFull_1 : decode cX6_isFull 1 = .ok (.getfield 15, 3) := by decide +kernel
theorem dX6_isFull_4 : decode cX6_isFull 4 = .ok (.aload_n 0, 1) := by decide +kernel
theorem dX6_isFull_5 : decode cX6_isFull 5 = .ok (.getfield 9, 3) := by decide +kernel
theorem dX6_isFull_8 : decode cX6_isFull 8 = .ok (.arraylength, 1) := by decide +kernel
theorem dX6_isFull_9 : decode cX6_isFull 9 = .ok (.if_icmp .lt 7, 3) := by decide +kernel
theorem dX6_isFull_12 : decode cX6_isFull 12 = .ok (.iconst 1, 1) := by decide +kernel
theorem dX6_isFull_13 : decode cX6_isFull 13 = .ok (.goto 4, 3) := by decide +kernel
theorem dX6_isFull_16 : decode cX6_isFull 16 = .ok (.iconst 0, 1) := by decide +kernel
theorem dX6_isFull_17 : decode cX6_isFull 17 = .ok (.ireturn, 1) := by decide +kernel
theorem dX6_lengthen_0 : decode cX6_lengthen 0 = .ok (.aload_n 0, 1) := by decide +kernel
theorem dX6_lengthen_1 : decode cX6_lengthen 1 = .ok (.getfield 15, 3) := by decide +kernel
theorem dX6_lengthen_4 : decode cX6_lengthen 4 = .ok (.ifCond .lt 36, 3) := by decide +kernel
theorem dX6_lengthen_7 : decode cX6_lengthen 7 = .ok (.aload_n 0, 1) := by decide +kernel
theorem dX6_lengthen_8 : decode cX6_lengthen 8 = .ok (.getfield 15, 3) := by decide +kernel
theorem dX6_lengthen_11 : decode cX6_lengthen 11 = .ok (.aload_n 0, 1) := by decide +kernel
theorem dX6_lengthen_12 : decode cX6_lengthen 12 = .ok (.getfield 9, 3) := by decide +kernel
theorem dX6_lengthen_15 : decode cX6_lengthen 15 = .ok (.arraylength, 1) := by decide +kernel
theorem dX6_lengthen_16 : decode cX6_lengthen 16 = .ok (.if_icmp .ge 24, 3) := by decide +kernel
theorem dX6_lengthen_19 : decode cX6_lengthen 19 = .ok (.aload_n 0, 1) := by decide +kernel
theorem dX6_lengthen_20 : decode cX6_lengthen 20 = .ok (.getfield 9, 3) := by decide +kernel
theorem dX6_lengthen_23 : decode cX6_lengthen 23 = .ok (.aload_n 0, 1) := by decide +kernel
theorem dX6_lengthen_24 : decode cX6_lengthen 24 = .ok (.getfield 15, 3) := by decide +kernel
theorem dX6_lengthen_27 : decode cX6_lengthen 27 = .ok (.iload_n 1, 1) := by decide +kernel
theorem dX6_lengthen_28 : decode cX6_lengthen 28 = .ok (.i2c, 1) := by decide +kernel
theorem dX6_lengthen_29 : decode cX6_lengthen 29 = .ok (.castore, 1) := by decide +kernel
theorem dX6_lengthen_30 : decode cX6_lengthen 30 = .ok (.aload_n 0, 1) := by decide +kernel
theorem dX6_lengthen_31 : decode cX6_lengthen 31 = .ok (.dup, 1) := by decide +kernel
theorem dX6_lengthen_32 : decode cX6_lengthen 32 = .ok (.getfield 15, 3) := by decide +kernel
theorem dX6_lengthen_35 : decode cX6_lengthen 35 = .ok (.iconst 1, 1) := by decide +kernel
theorem dX6_lengthen_36 : decode cX6_lengthen 36 = .ok (.iadd, 1) := by decide +kernel
theorem dX6_lengthen_37 : decode cX6_lengthen 37 = .ok (.putfield 15, 3) := by decide +kernel
theorem dX6_lengthen_40 : decode cX6_lengthen 40 = .ok (.aload_n 0, 1) := by decide +kernel
theorem dX6_lengthen_41 : decode cX6_lengthen 41 = .ok (.getfield 15, 3) := by decide +kernel
theorem dX6_lengthen_44 : decode cX6_lengthen 44 = .ok (.ireturn, 1) := by decide +kernel
theorem dX6_empty_0 : decode cX6_empty 0 = .ok (.aload_n 0, 1) := by decide +kernel
theorem dX6_empty_1 : decode cX6_empty 1 = .ok (.getfield 15, 3) := by decide +kernel
theorem dX6_empty_4 : decode cX6_empty 4 = .ok (.istore_n 1, 1) := by decide +kernel
theorem dX6_empty_5 : decode cX6_empty 5 = .ok (.aload_n 0, 1) := by decide +kernel
theorem dX6_empty_6 : decode cX6_empty 6 = .ok (.iconst 0, 1) := by decide +kernel
theorem dX6_empty_7 : decode cX6_empty 7 = .ok (.putfield 15, 3) := by decide +kernel
theorem dX6_empty_10 : decode cX6_empty 10 = .ok (.iload_n 1, 1) := by decide +kernel
theorem dX6_empty_11 : decode cX6_empty 11 = .ok (.ireturn, 1) := by decide +kernel
theorem dX6_signAt_0 : decode cX6_signAt 0 = .ok (.iload_n 1, 1) := by decide +kernel
theorem dX6_signAt_1 : decode cX6_signAt 1 = .ok (.ifCond .lt 27, 3) := by decide +kernel
theorem dX6_signAt_4 : decode cX6_signAt 4 = .ok (.iload_n 1, 1) := by decide +kernel
theorem dX6_signAt_5 : decode cX6_signAt 5 = .ok (.aload_n 0, 1) := by decide +kernel
theorem dX6_signAt_6 : decode cX6_signAt 6 = .ok (.getfield 15, 3) := by decide +kernel
theorem dX6_signAt_9 : decode cX6_signAt 9 = .ok (.if_icmp .ge 19, 3) := by decide +kernel
theorem dX6_signAt_12 : decode cX6_signAt 12 = .ok (.iload_n 1, 1) := by decide +kernel
theorem dX6_signAt_13 : decode cX6_signAt 13 = .ok (.aload_n 0, 1) := by decide +kernel
theorem dX6_signAt_14 : decode cX6_signAt 14 = .ok (.getfield 9, 3) := by decide +kernel
theorem dX6_signAt_17 : decode cX6_signAt 17 = .ok (.arraylength, 1) := by decide +kernel
theorem dX6_signAt_18 : decode cX6_signAt 18 = .ok (.if_icmp .ge 10, 3) := by decide +kernel
theorem dX6_signAt_21 : decode cX6_signAt 21 = .ok (.aload_n 0, 1) := by decide +kernel
theorem dX6_signAt_22 : decode cX6_signAt 22 = .ok (.getfield 9, 3) := by decide +kernel
theorem dX6_signAt_25 : decode cX6_signAt 25 = .ok (.iload_n 1, 1) := by decide +kernel
theorem dX6_signAt_26 : decode cX6_signAt 26 = .ok (.caload, 1) := by decide +kernel
theorem dX6_signAt_27 : decode cX6_signAt 27 = .ok (.ireturn, 1) := by decide +kernel
theorem dX6_signAt_28 : decode cX6_signAt 28 = .ok (.iconst (-1), 1) := by decide +kernel
theorem dX6_signAt_29 : decode cX6_signAt 29 = .ok (.ireturn, 1) := by decide +kernel
theorem dX7_init_0 : decode cX7_init 0 = .ok (.aload_n 0, 1) := by decide +kernel
theorem dX7_init_1 : decode cX7_init 1 = .ok (.invokespecial 1, 3) := by decide +kernel
theorem dX7_init_4 : decode cX7_init 4 = .ok (.aload_n 0, 1) := by decide +kernel
theorem dX7_init_5 : decode cX7_init 5 = .ok (.new 7, 3) := by decide +kernel
theorem dX7_init_8 : decode cX7_init 8 = .ok (.dup, 1) := by decide +kernel
theorem dX7_init_9 : decode cX7_init 9 = .ok (.invokespecial 9, 3) := by decide +kernel
theorem dX7_init_12 : decode cX7_init 12 = .ok (.putfield 10, 3) := by decide +kernel
theorem dX7_init_15 : decode cX7_init 15 = .ok (.aload_n 0, 1) := by decide +kernel
theorem dX7_init_16 : decode cX7_init 16 = .ok (.new 16, 3) := by decide +kernel
theorem dX7_init_19 : decode cX7_init 19 = .ok (.dup, 1) := by decide +kernel
theorem dX7_init_20 : decode cX7_init 20 = .ok (.invokespecial 18, 3) := by decide +kernel
theorem dX7_init_23 : decode cX7_init 23 = .ok (.putfield 19, 3) := by decide +kernel
theorem dX7_init_26 : decode cX7_init 26 = .ok (.aload_n 0, 1) := by decide +kernel
theorem dX7_init_27 : decode cX7_init 27 = .ok (.new 16, 3) := by decide +kernel
theorem dX7_init_30 : decode cX7_init 30 = .ok (.dup, 1) := by decide +kernel
theorem dX7_init_31 : decode cX7_init 31 = .ok (.invokespecial 18, 3) := by decide +kernel
theorem dX7_init_34 : decode cX7_init 34 = .ok (.putfield 23, 3) := by decide +kernel
theorem dX7_init_37 : decode cX7_init 37 = .ok (.aload_n 0, 1) := by decide +kernel
theorem dX7_init_38 : decode cX7_init 38 = .ok (.new 16, 3) := by decide +kernel
theorem dX7_init_41 : decode cX7_init 41 = .ok (.dup, 1) := by decide +kernel
theorem dX7_init_42 : decode cX7_init 42 = .ok (.invokespecial 18, 3) := by decide +kernel
theorem dX7_init_45 : decode cX7_init 45 = .ok (.putfield 26, 3) := by decide +kernel
theorem dX7_init_48 : decode cX7_init 48 = .ok (.aload_n 0, 1) := by decide +kernel
theorem dX7_init_49 : decode cX7_init 49 = .ok (.new 29, 3) := by decide +kernel
theorem dX7_init_52 : decode cX7_init 52 = .ok (.dup, 1) := by decide +kernel
theorem dX7_init_53 : decode cX7_init 53 = .ok (.invokespecial 31, 3) := by decide +kernel
theorem dX7_init_56 : decode cX7_init 56 = .ok (.putfield 32, 3) := by decide +kernel
theorem dX7_init_59 : decode cX7_init 59 = .ok (.aload_n 0, 1) := by decide +kernel
theorem dX7_init_60 : decode cX7_init 60 = .ok (.new 36, 3) := by decide +kernel
theorem dX7_init_63 : decode cX7_init 63 = .ok (.dup, 1) := by decide +kernel
theorem dX7_init_64 : decode cX7_init 64 = .ok (.invokespecial 38, 3) := by decide +kernel
theorem dX7_init_67 : decode cX7_init 67 = .ok (.putfield 39, 3) := by decide +kernel
theorem dX7_init_70 : decode cX7_init 70 = .ok (.aload_n 0, 1) := by decide +kernel
theorem dX7_init_71 : decode cX7_init 71 = .ok (.new 36, 3) := by decide +kernel
theorem dX7_init_74 : decode cX7_init 74 = .ok (.dup, 1) := by decide +kernel
theorem dX7_init_75 : decode cX7_init 75 = .ok (.invokespecial 38, 3) := by decide +kernel
theorem dX7_init_78 : decode cX7_init 78 = .ok (.putfield 43, 3) := by decide +kernel
theorem dX7_init_81 : decode cX7_init 81 = .ok (.return_, 1) := by decide +kernel
theorem dX7_append_0 : decode cX7_append 0 = .ok (.iload_n 1, 1) := by decide +kernel
theorem dX7_append_1 : decode cX7_append 1 = .ok (.ifCond .lt 10, 3) := by decide +kernel
theorem dX7_append_4 : decode cX7_append 4 = .ok (.iload_n 1, 1) := by decide +kernel
theorem dX7_append_5 : decode cX7_append 5 = .ok (.sipush 255, 3) := by decide +kernel
theorem dX7_append_8 : decode cX7_append 8 = .ok (.if_icmp .le 13, 3) := by decide +kernel
theorem dX7_append_11 : decode cX7_append 11 = .ok (.new 46, 3) := by decide +kernel
theorem dX7_append_14 : decode cX7_append 14 = .ok (.dup, 1) := by decide +kernel
theorem dX7_append_15 : decode cX7_append 15 = .ok (.ldc 48, 2) := by decide +kernel
theorem dX7_append_17 : decode cX7_append 17 = .ok (.invokespecial 50, 3) := by decide +kernel
theorem dX7_append_20 : decode cX7_append 20 = .ok (.athrow, 1) := by decide +kernel
theorem dX7_append_21 : decode cX7_append 21 = .ok (.aload_n 0, 1) := by decide +kernel
theorem dX7_append_22 : decode cX7_append 22 = .ok (.getfield 10, 3) := by decide +kernel
theorem dX7_append_25 : decode cX7_append 25 = .ok (.getfield 53, 3) := by decide +kernel
theorem dX7_append_28 : decode cX7_append 28 = .ok (.invokevirtual 57, 3) := by decide +kernel
theorem dX7_append_31 : decode cX7_append 31 = .ok (.ifCond .eq 13, 3) := by decide +kernel
theorem dX7_append_34 : decode cX7_append 34 = .ok (.new 63, 3) := by decide +kernel
theorem dX7_append_37 : decode cX7_append 37 = .ok (.dup, 1) := by decide +kernel
theorem dX7_append_38 : decode cX7_append 38 = .ok (.ldc 65, 2) := by decide +kernel
theorem dX7_append_40 : decode cX7_append 40 = .ok (.invokespecial 67, 3) := by decide +kernel
theorem dX7_append_43 : decode cX7_append 43 = .ok (.athrow, 1) := by decide +kernel
theorem dX7_append_44 : decode cX7_append 44 = .ok (.aload_n 0, 1) := by decide +kernel
theorem dX7_append_45 : decode cX7_append 45 = .ok (.getfield 10, 3) := by decide +kernel
theorem dX7_append_48 : decode cX7_append 48 = .ok (.getfield 53, 3) := by decide +kernel
theorem dX7_append_51 : decode cX7_append 51 = .ok (.iload_n 1, 1) := by decide +kernel
theorem dX7_append_52 : decode cX7_append 52 = .ok (.invokevirtual 68, 3) := by decide +kernel
theorem dX7_append_55 : decode cX7_append 55 = .ok (.ireturn, 1) := by decide +kernel
theorem dX7_clearText_0 : decode cX7_clearText 0 = .ok (.aload_n 0, 1) := by decide +kernel
theorem dX7_clearText_1 : decode cX7_clearText 1 = .ok (.getfield 10, 3) := by decide +kernel
theorem dX7_clearText_4 : decode cX7_clearText 4 = .ok (.getfield 53, 3) := by decide +kernel
theorem dX7_clearText_7 : decode cX7_clearText 7 = .ok (.invokevirtual 72, 3) := by decide +kernel
theorem dX7_clearText_10 : decode cX7_clearText 10 = .ok (.ireturn, 1) := by decide +kernel
theorem dX7_errorPosition_0 : decode cX7_errorPosition 0 = .ok (.aload_n 0, 1) := by decide +kernel
theorem dX7_errorPosition_1 : decode cX7_errorPosition 1 = .ok (.getfield 10, 3) := by decide +kernel
theorem dX7_errorPosition_4 : decode cX7_errorPosition 4 = .ok (.invokevirtual 76, 3) := by decide +kernel
theorem dX7_errorPosition_7 : decode cX7_errorPosition 7 = .ok (.ireturn, 1) := by decide +kernel
theorem dX7_load_0 : decode cX7_load 0 = .ok (.aload_n 0, 1) := by decide +kernel
theorem dX7_load_1 : decode cX7_load 1 = .ok (.getfield 10, 3) := by decide +kernel
theorem dX7_load_4 : decode cX7_load 4 = .ok (.invokevirtual 76, 3) := by decide +kernel
theorem dX7_load_7 : decode cX7_load 7 = .ok (.iconst (-1), 1) := by decide +kernel
theorem dX7_load_8 : decode cX7_load 8 = .ok (.if_icmp .eq 13, 3) := by decide +kernel
theorem dX7_load_11 : decode cX7_load 11 = .ok (.new 63, 3) := by decide +kernel
theorem dX7_load_14 : decode cX7_load 14 = .ok (.dup, 1) := by decide +kernel
theorem dX7_load_15 : decode cX7_load 15 = .ok (.ldc 79, 2) := by decide +kernel
theorem dX7_load_17 : decode cX7_load 17 = .ok (.invokespecial 67, 3) := by decide +kernel
theorem dX7_load_20 : decode cX7_load 20 = .ok (.athrow, 1) := by decide +kernel
theorem dX7_load_21 : decode cX7_load 21 = .ok (.aload_n 0, 1) := by decide +kernel
theorem dX7_load_22 : decode cX7_load 22 = .ok (.getfield 23, 3) := by decide +kernel
theorem dX7_load_25 : decode cX7_load 25 = .ok (.aload_n 0, 1) := by decide +kernel
theorem dX7_load_26 : decode cX7_load 26 = .ok (.getfield 19, 3) := by decide +kernel
theorem dX7_load_29 : decode cX7_load 29 = .ok (.invokevirtual 81, 3) := by decide +kernel
theorem dX7_load_32 : decode cX7_load 32 = .ok (.aload_n 0, 1) := by decide +kernel
theorem dX7_load_33 : decode cX7_load 33 = .ok (.getfield 32, 3) := by decide +kernel
theorem dX7_load_36 : decode cX7_load 36 = .ok (.invokevirtual 85, 3) := by decide +kernel
theorem dX7_load_39 : decode cX7_load 39 = .ok (.aload_n 0, 1) := by decide +kernel
theorem dX7_load_40 : decode cX7_load 40 = .ok (.getfield 39, 3) := by decide +kernel
theorem dX7_load_43 : decode cX7_load 43 = .ok (.invokevirtual 88, 3) := by decide +kernel
theorem dX7_load_46 : decode cX7_load 46 = .ok (.aload_n 0, 1) := by decide +kernel
theorem dX7_load_47 : decode cX7_load 47 = .ok (.getfield 43, 3) := by decide +kernel
theorem dX7_load_50 : decode cX7_load 50 = .ok (.invokevirtual 88, 3) := by decide +kernel
theorem dX7_load_53 : decode cX7_load 53 = .ok (.iconst 0, 1) := by decide +kernel
theorem dX7_load_54 : decode cX7_load 54 = .ok (.istore_n 1, 1) := by decide +kernel
theorem dX7_load_55 : decode cX7_load 55 = .ok (.aload_n 0, 1) := by decide +kernel
theorem dX7_load_56 : decode cX7_load 56 = .ok (.getfield 10, 3) := by decide +kernel
theorem dX7_load_59 : decode cX7_load 59 = .ok (.invokevirtual 90, 3) := by decide +kernel
theorem dX7_load_62 : decode cX7_load 62 = .ok (.iconst 0, 1) := by decide +kernel
theorem dX7_load_63 : decode cX7_load 63 = .ok (.istore_n 2, 1) := by decide +kernel
theorem dX7_load_64 : decode cX7_load 64 = .ok (.iload_n 2, 1) := by decide +kernel
theorem dX7_load_65 : decode cX7_load 65 = .ok (.bipush 120, 2) := by decide +kernel
theorem dX7_load_67 : decode cX7_load 67 = .ok (.if_icmp .ge 29, 3) := by decide +kernel
theorem dX7_load_70 : decode cX7_load 70 = .ok (.aload_n 0, 1) := by decide +kernel
theorem dX7_load_71 : decode cX7_load 71 = .ok (.getfield 10, 3) := by decide +kernel
theorem dX7_load_74 : decode cX7_load 74 = .ok (.invokevirtual 93, 3) := by decide +kernel
theorem dX7_load_77 : decode cX7_load 77 = .ok (.ifCond .eq 19, 3) := by decide +kernel
theorem dX7_load_80 : decode cX7_load 80 = .ok (.aload_n 0, 1) := by decide +kernel
theorem dX7_load_81 : decode cX7_load 81 = .ok (.invokevirtual 96, 3) := by decide +kernel
theorem dX7_load_84 : decode cX7_load 84 = .ok (.ifCond .ne 6, 3) := by decide +kernel
theorem dX7_load_87 : decode cX7_load 87 = .ok (.iinc 1 1, 3) := by decide +kernel
theorem dX7_load_90 : decode cX7_load 90 = .ok (.iinc 2 1, 3) := by decide +kernel
theorem dX7_load_93 : decode cX7_load 93 = .ok (.goto (-29), 3) := by decide +kernel
theorem dX7_load_96 : decode cX7_load 96 = .ok (.iload_n 1, 1) := by decide +kernel
theorem dX7_load_97 : decode cX7_load 97 = .ok (.ireturn, 1) := by decide +kernel
theorem dX7_doCommand_0 : decode cX7_doCommand 0 = .ok (.aload_n 0, 1) := by decide +kernel
theorem dX7_doCommand_1 : decode cX7_doCommand 1 = .ok (.getfield 10, 3) := by decide +kernel
theorem dX7_doCommand_4 : decode cX7_doCommand 4 = .ok (.getfield 99, 3) := by decide +kernel
theorem dX7_doCommand_7 : decode cX7_doCommand 7 = .ok (.lookupswitch 126 #[(109, 111), (111, 79), (114, 41), (122, 95)], 41) := by decide +kernel
theorem dX7_doCommand_48 : decode cX7_doCommand 48 = .ok (.aload_n 0, 1) := by decide +kernel
theorem dX7_doCommand_49 : decode cX7_doCommand 49 = .ok (.getfield 23, 3) := by decide +kernel
theorem dX7_doCommand_52 : decode cX7_doCommand 52 = .ok (.aload_n 0, 1) := by decide +kernel
theorem dX7_doCommand_53 : decode cX7_doCommand 53 = .ok (.getfield 10, 3) := by decide +kernel
theorem dX7_doCommand_56 : decode cX7_doCommand 56 = .ok (.getfield 103, 3) := by decide +kernel
theorem dX7_doCommand_59 : decode cX7_doCommand 59 = .ok (.aload_n 0, 1) := by decide +kernel
theorem dX7_doCommand_60 : decode cX7_doCommand 60 = .ok (.getfield 10, 3) := by decide +kernel
theorem dX7_doCommand_63 : decode cX7_doCommand 63 = .ok (.getfield 106, 3) := by decide +kernel
theorem dX7_doCommand_66 : decode cX7_doCommand 66 = .ok (.aload_n 0, 1) := by decide +kernel
theorem dX7_doCommand_67 : decode cX7_doCommand 67 = .ok (.getfield 10, 3) := by decide +kernel
theorem dX7_doCommand_70 : decode cX7_doCommand 70 = .ok (.getfield 109, 3) := by decide +kernel
theorem dX7_doCommand_73 : decode cX7_doCommand 73 = .ok (.invokevirtual 112, 3) := by decide +kernel
theorem dX7_doCommand_76 : decode cX7_doCommand 76 = .ok (.iconst (-1), 1) := by decide +kernel
theorem dX7_doCommand_77 : decode cX7_doCommand 77 = .ok (.if_icmp .eq 7, 3) := by decide +kernel
theorem dX7_doCommand_80 : decode cX7_doCommand 80 = .ok (.iconst 1, 1) := by decide +kernel
theorem dX7_doCommand_81 : decode cX7_doCommand 81 = .ok (.goto 4, 3) := by decide +kernel
theorem dX7_doCommand_84 : decode cX7_doCommand 84 = .ok (.iconst 0, 1) := by decide +kernel
theorem dX7_doCommand_85 : decode cX7_doCommand 85 = .ok (.ireturn, 1) := by decide +kernel
theorem dX7_doCommand_86 : decode cX7_doCommand 86 = .ok (.aload_n 0, 1) := by decide +kernel
theorem dX7_doCommand_87 : decode cX7_doCommand 87 = .ok (.getfield 23, 3) := by decide +kernel
theorem dX7_doCommand_90 : decode cX7_doCommand 90 = .ok (.aload_n 0, 1) := by decide +kernel
theorem dX7_doCommand_91 : decode cX7_doCommand 91 = .ok (.getfield 10, 3) := by decide +kernel
theorem dX7_doCommand_94 : decode cX7_doCommand 94 = .ok (.getfield 103, 3) := by decide +kernel
theorem dX7_doCommand_97 : decode cX7_doCommand 97 = .ok (.iconst 1, 1) := by decide +kernel
theorem dX7_doCommand_98 : decode cX7_doCommand 98 = .ok (.invokevirtual 116, 3) := by decide +kernel
theorem dX7_doCommand_101 : decode cX7_doCommand 101 = .ok (.ireturn, 1) := by decide +kernel
theorem dX7_doCommand_102 : decode cX7_doCommand 102 = .ok (.aload_n 0, 1) := by decide +kernel
theorem dX7_doCommand_103 : decode cX7_doCommand 103 = .ok (.getfield 23, 3) := by decide +kernel
theorem dX7_doCommand_106 : decode cX7_doCommand 106 = .ok (.aload_n 0, 1) := by decide +kernel
theorem dX7_doCommand_107 : decode cX7_doCommand 107 = .ok (.getfield 10, 3) := by decide +kernel
theorem dX7_doCommand_110 : decode cX7_doCommand 110 = .ok (.getfield 103, 3) := by decide +kernel
theorem dX7_doCommand_113 : decode cX7_doCommand 113 = .ok (.iconst 0, 1) := by decide +kernel
theorem dX7_doCommand_114 : decode cX7_doCommand 114 = .ok (.invokevirtual 116, 3) := by decide +kernel
theorem dX7_doCommand_117 : decode cX7_doCommand 117 = .ok (.ireturn, 1) := by decide +kernel
theorem dX7_doCommand_118 : decode cX7_doCommand 118 = .ok (.aload_n 0, 1) := by decide +kernel
theorem dX7_doCommand_119 : decode cX7_doCommand 119 = .ok (.getfield 23, 3) := by decide +kernel
theorem dX7_doCommand_122 : decode cX7_doCommand 122 = .ok (.aload_n 0, 1) := by decide +kernel
theorem dX7_doCommand_123 : decode cX7_doCommand 123 = .ok (.getfield 10, 3) := by decide +kernel
theorem dX7_doCommand_126 : decode cX7_doCommand 126 = .ok (.getfield 103, 3) := by decide +kernel
theorem dX7_doCommand_129 : decode cX7_doCommand 129 = .ok (.invokevirtual 120, 3) := by decide +kernel
theorem dX7_doCommand_132 : decode cX7_doCommand 132 = .ok (.ireturn, 1) := by decide +kernel
theorem dX7_doCommand_133 : decode cX7_doCommand 133 = .ok (.aload_n 0, 1) := by decide +kernel
theorem dX7_doCommand_134 : decode cX7_doCommand 134 = .ok (.getfield 23, 3) := by decide +kernel
theorem dX7_doCommand_137 : decode cX7_doCommand 137 = .ok (.iconst 0, 1) := by decide +kernel
theorem dX7_doCommand_138 : decode cX7_doCommand 138 = .ok (.aload_n 0, 1) := by decide +kernel
theorem dX7_doCommand_139 : decode cX7_doCommand 139 = .ok (.getfield 10, 3) := by decide +kernel
theorem dX7_doCommand_142 : decode cX7_doCommand 142 = .ok (.getfield 103, 3) := by decide +kernel
theorem dX7_doCommand_145 : decode cX7_doCommand 145 = .ok (.invokevirtual 124, 3) := by decide +kernel
theorem dX7_doCommand_148 : decode cX7_doCommand 148 = .ok (.ireturn, 1) := by decide +kernel
theorem dX7_about_0 : decode cX7_about 0 = .ok (.iload_n 1, 1) := by decide +kernel
theorem dX7_about_1 : decode cX7_about 1 = .ok (.ifCond .lt 9, 3) := by decide +kernel
theorem dX7_about_4 : decode cX7_about 4 = .ok (.iload_n 1, 1) := by decide +kernel
theorem dX7_about_5 : decode cX7_about 5 = .ok (.bipush 10, 2) := by decide +kernel
theorem dX7_about_7 : decode cX7_about 7 = .ok (.if_icmp .le 13, 3) := by decide +kernel
theorem dX7_about_10 : decode cX7_about 10 = .ok (.new 46, 3) := by decide +kernel
theorem dX7_about_13 : decode cX7_about 13 = .ok (.dup, 1) := by decide +kernel
theorem dX7_about_14 : decode cX7_about 14 = .ok (.ldc 128, 2) := by decide +kernel
theorem dX7_about_16 : decode cX7_about 16 = .ok (.invokespecial 50, 3) := by decide +kernel
theorem dX7_about_19 : decode cX7_about 19 = .ok (.athrow, 1) := by decide +kernel
theorem dX7_about_20 : decode cX7_about 20 = .ok (.aload_n 0, 1) := by decide +kernel
theorem dX7_about_21 : decode cX7_about 21 = .ok (.getfield 23, 3) := by decide +kernel
theorem dX7_about_24 : decode cX7_about 24 = .ok (.iload_n 1, 1) := by decide +kernel
theorem dX7_about_25 : decode cX7_about 25 = .ok (.invokevirtual 130, 3) := by decide +kernel
theorem dX7_about_28 : decode cX7_about 28 = .ok (.ireturn, 1) := by decide +kernel
theorem dX7_room_0 : decode cX7_room 0 = .ok (.aload_n 0, 1) := by decide +kernel
theorem dX7_room_1 : decode cX7_room 1 = .ok (.getfield 23, 3) := by decide +kernel
theorem dX7_room_4 : decode cX7_room 4 = .ok (.iload_n 1, 1) := by decide +kernel
theorem dX7_room_5 : decode cX7_room 5 = .ok (.invokevirtual 133, 3) := by decide +kernel
theorem dX7_room_8 : decode cX7_room 8 = .ok (.astore_n 3, 1) := by decide +kernel
theorem dX7_room_9 : decode cX7_room 9 = .ok (.aload_n 3, 1) := by decide +kernel
theorem dX7_room_10 : decode cX7_room 10 = .ok (.ifnonnull 13, 3) := by decide +kernel
theorem dX7_room_13 : decode cX7_room 13 = .ok (.new 137, 3) := by decide +kernel
theorem dX7_room_16 : decode cX7_room 16 = .ok (.dup, 1) := by decide +kernel
theorem dX7_room_17 : decode cX7_room 17 = .ok (.ldc 139, 2) := by decide +kernel
theorem dX7_room_19 : decode cX7_room 19 = .ok (.invokespecial 141, 3) := by decide +kernel
theorem dX7_room_22 : decode cX7_room 22 = .ok (.athrow, 1) := by decide +kernel
theorem dX7_room_23 : decode cX7_room 23 = .ok (.iload_n 2, 1) := by decide +kernel
theorem dX7_room_24 : decode cX7_room 24 = .ok (.ifCond .lt 9, 3) := by decide +kernel
theorem dX7_room_27 : decode cX7_room 27 = .ok (.iload_n 2, 1) := by decide +kernel
theorem dX7_room_28 : decode cX7_room 28 = .ok (.bipush 7, 2) := by decide +kernel
theorem dX7_room_30 : decode cX7_room 30 = .ok (.if_icmp .le 13, 3) := by decide +kernel
theorem dX7_room_33 : decode cX7_room 33 = .ok (.new 46, 3) := by decide +kernel
theorem dX7_room_36 : decode cX7_room 36 = .ok (.dup, 1) := by decide +kernel
theorem dX7_room_37 : decode cX7_room 37 = .ok (.ldc 142, 2) := by decide +kernel
theorem dX7_room_39 : decode cX7_room 39 = .ok (.invokespecial 50, 3) := by decide +kernel
theorem dX7_room_42 : decode cX7_room 42 = .ok (.athrow, 1) := by decide +kernel
theorem dX7_room_43 : decode cX7_room 43 = .ok (.aload_n 3, 1) := by decide +kernel
theorem dX7_room_44 : decode cX7_room 44 = .ok (.iload_n 2, 1) := by decide +kernel
theorem dX7_room_45 : decode cX7_room 45 = .ok (.invokevirtual 144, 3) := by decide +kernel
theorem dX7_room_48 : decode cX7_room 48 = .ok (.ireturn, 1) := by decide +kernel
theorem dX7_does_0 : decode cX7_does 0 = .ok (.aload_n 0, 1) := by decide +kernel
theorem dX7_does_1 : decode cX7_does 1 = .ok (.getfield 23, 3) := by decide +kernel
theorem dX7_does_4 : decode cX7_does 4 = .ok (.iload_n 1, 1) := by decide +kernel
theorem dX7_does_5 : decode cX7_does 5 = .ok (.invokevirtual 133, 3) := by decide +kernel
theorem dX7_does_8 : decode cX7_does 8 = .ok (.astore_n 2, 1) := by decide +kernel
theorem dX7_does_9 : decode cX7_does 9 = .ok (.aload_n 2, 1) := by decide +kernel
theorem dX7_does_10 : decode cX7_does 10 = .ok (.ifnonnull 13, 3) := by decide +kernel
theorem dX7_does_13 : decode cX7_does 13 = .ok (.new 137, 3) := by decide +kernel
theorem dX7_does_16 : decode cX7_does 16 = .ok (.dup, 1) := by decide +kernel
theorem dX7_does_17 : decode cX7_does 17 = .ok (.ldc 139, 2) := by decide +kernel
theorem dX7_does_19 : decode cX7_does 19 = .ok (.invokespecial 141, 3) := by decide +kernel
theorem dX7_does_22 : decode cX7_does 22 = .ok (.athrow, 1) := by decide +kernel
theorem dX7_does_23 : decode cX7_does 23 = .ok (.aload_n 0, 1) := by decide +kernel
theorem dX7_does_24 : decode cX7_does 24 = .ok (.getfield 23, 3) := by decide +kernel
theorem dX7_does_27 : decode cX7_does 27 = .ok (.invokevirtual 149, 3) := by decide +kernel
theorem dX7_does_30 : decode cX7_does 30 = .ok (.pop, 1) := by decide +kernel
theorem dX7_does_31 : decode cX7_does 31 = .ok (.aload_n 2, 1) := by decide +kernel
theorem dX7_does_32 : decode cX7_does 32 = .ok (.getfield 152, 3) := by decide +kernel
theorem dX7_does_35 : decode cX7_does 35 = .ok (.ireturn, 1) := by decide +kernel
theorem dX7_setting_0 : decode cX7_setting 0 = .ok (.iload_n 1, 1) := by decide +kernel
theorem dX7_setting_1 : decode cX7_setting 1 = .ok (.invokestatic 155, 3) := by decide +kernel
theorem dX7_setting_4 : decode cX7_setting 4 = .ok (.ifCond .ne 13, 3) := by decide +kernel
theorem dX7_setting_7 : decode cX7_setting 7 = .ok (.new 46, 3) := by decide +kernel
theorem dX7_setting_10 : decode cX7_setting 10 = .ok (.dup, 1) := by decide +kernel
theorem dX7_setting_11 : decode cX7_setting 11 = .ok (.ldc 160, 2) := by decide +kernel
theorem dX7_setting_13 : decode cX7_setting 13 = .ok (.invokespecial 50, 3) := by decide +kernel
theorem dX7_setting_16 : decode cX7_setting 16 = .ok (.athrow, 1) := by decide +kernel
theorem dX7_setting_17 : decode cX7_setting 17 = .ok (.aload_n 0, 1) := by decide +kernel
theorem dX7_setting_18 : decode cX7_setting 18 = .ok (.getfield 23, 3) := by decide +kernel
theorem dX7_setting_21 : decode cX7_setting 21 = .ok (.getfield 162, 3) := by decide +kernel
theorem dX7_setting_24 : decode cX7_setting 24 = .ok (.iload_n 1, 1) := by decide +kernel
theorem dX7_setting_25 : decode cX7_setting 25 = .ok (.invokevirtual 166, 3) := by decide +kernel
theorem dX7_setting_28 : decode cX7_setting 28 = .ok (.ireturn, 1) := by decide +kernel
theorem dX7_add_0 : decode cX7_add 0 = .ok (.iload_n 1, 1) := by decide +kernel
theorem dX7_add_1 : decode cX7_add 1 = .ok (.iload_n 2, 1) := by decide +kernel
theorem dX7_add_2 : decode cX7_add 2 = .ok (.iload_n 3, 1) := by decide +kernel
theorem dX7_add_3 : decode cX7_add 3 = .ok (.invokestatic 169, 3) := by decide +kernel
theorem dX7_add_6 : decode cX7_add 6 = .ok (.ifCond .ne 13, 3) := by decide +kernel
theorem dX7_add_9 : decode cX7_add 9 = .ok (.new 46, 3) := by decide +kernel
theorem dX7_add_12 : decode cX7_add 12 = .ok (.dup, 1) := by decide +kernel
theorem dX7_add_13 : decode cX7_add 13 = .ok (.ldc 173, 2) := by decide +kernel
theorem dX7_add_15 : decode cX7_add 15 = .ok (.invokespecial 50, 3) := by decide +kernel
theorem dX7_add_18 : decode cX7_add 18 = .ok (.athrow, 1) := by decide +kernel
theorem dX7_add_19 : decode cX7_add 19 = .ok (.aload_n 0, 1) := by decide +kernel
theorem dX7_add_20 : decode cX7_add 20 = .ok (.getfield 23, 3) := by decide +kernel
theorem dX7_add_23 : decode cX7_add 23 = .ok (.invokevirtual 175, 3) := by decide +kernel
theorem dX7_add_26 : decode cX7_add 26 = .ok (.ifnonnull 13, 3) := by decide +kernel
theorem dX7_add_29 : decode cX7_add 29 = .ok (.new 63, 3) := by decide +kernel
theorem dX7_add_32 : decode cX7_add 32 = .ok (.dup, 1) := by decide +kernel
theorem dX7_add_33 : decode cX7_add 33 = .ok (.ldc 179, 2) := by decide +kernel
theorem dX7_add_35 : decode cX7_add 35 = .ok (.invokespecial 67, 3) := by decide +kernel
theorem dX7_add_38 : decode cX7_add 38 = .ok (.athrow, 1) := by decide +kernel
theorem dX7_add_39 : decode cX7_add 39 = .ok (.aload_n 0, 1) := by decide +kernel
theorem dX7_add_40 : decode cX7_add 40 = .ok (.getfield 32, 3) := by decide +kernel
theorem dX7_add_43 : decode cX7_add 43 = .ok (.aload_n 0, 1) := by decide +kernel
theorem dX7_add_44 : decode cX7_add 44 = .ok (.getfield 23, 3) := by decide +kernel
theorem dX7_add_47 : decode cX7_add 47 = .ok (.invokevirtual 181, 3) := by decide +kernel
theorem dX7_add_50 : decode cX7_add 50 = .ok (.aload_n 0, 1) := by decide +kernel
theorem dX7_add_51 : decode cX7_add 51 = .ok (.getfield 23, 3) := by decide +kernel
theorem dX7_add_54 : decode cX7_add 54 = .ok (.iload_n 1, 1) := by decide +kernel
theorem dX7_add_55 : decode cX7_add 55 = .ok (.iload_n 2, 1) := by decide +kernel
theorem dX7_add_56 : decode cX7_add 56 = .ok (.iload_n 3, 1) := by decide +kernel
theorem dX7_add_57 : decode cX7_add 57 = .ok (.invokevirtual 112, 3) := by decide +kernel
theorem dX7_add_60 : decode cX7_add 60 = .ok (.ireturn, 1) := by decide +kernel
theorem dX7_door_0 : decode cX7_door 0 = .ok (.aload_n 0, 1) := by decide +kernel
theorem dX7_door_1 : decode cX7_door 1 = .ok (.getfield 23, 3) := by decide +kernel
theorem dX7_door_4 : decode cX7_door 4 = .ok (.iload_n 1, 1) := by decide +kernel
theorem dX7_door_5 : decode cX7_door 5 = .ok (.invokevirtual 133, 3) := by decide +kernel
theorem dX7_door_8 : decode cX7_door 8 = .ok (.ifnonnull 13, 3) := by decide +kernel
theorem dX7_door_11 : decode cX7_door 11 = .ok (.new 137, 3) := by decide +kernel
theorem dX7_door_14 : decode cX7_door 14 = .ok (.dup, 1) := by decide +kernel
theorem dX7_door_15 : decode cX7_door 15 = .ok (.ldc 139, 2) := by decide +kernel
theorem dX7_door_17 : decode cX7_door 17 = .ok (.invokespecial 141, 3) := by decide +kernel
theorem dX7_door_20 : decode cX7_door 20 = .ok (.athrow, 1) := by decide +kernel
theorem dX7_door_21 : decode cX7_door 21 = .ok (.aload_n 0, 1) := by decide +kernel
theorem dX7_door_22 : decode cX7_door 22 = .ok (.getfield 32, 3) := by decide +kernel
theorem dX7_door_25 : decode cX7_door 25 = .ok (.aload_n 0, 1) := by decide +kernel
theorem dX7_door_26 : decode cX7_door 26 = .ok (.getfield 23, 3) := by decide +kernel
theorem dX7_door_29 : decode cX7_door 29 = .ok (.invokevirtual 181, 3) := by decide +kernel
theorem dX7_door_32 : decode cX7_door 32 = .ok (.aload_n 0, 1) := by decide +kernel
theorem dX7_door_33 : decode cX7_door 33 = .ok (.getfield 23, 3) := by decide +kernel
theorem dX7_door_36 : decode cX7_door 36 = .ok (.iload_n 1, 1) := by decide +kernel
theorem dX7_door_37 : decode cX7_door 37 = .ok (.iload_n 2, 1) := by decide +kernel
theorem dX7_door_38 : decode cX7_door 38 = .ok (.invokevirtual 116, 3) := by decide +kernel
theorem dX7_door_41 : decode cX7_door 41 = .ok (.pop, 1) := by decide +kernel
theorem dX7_door_42 : decode cX7_door 42 = .ok (.aload_n 0, 1) := by decide +kernel
theorem dX7_door_43 : decode cX7_door 43 = .ok (.getfield 23, 3) := by decide +kernel
theorem dX7_door_46 : decode cX7_door 46 = .ok (.invokevirtual 184, 3) := by decide +kernel
theorem dX7_door_49 : decode cX7_door 49 = .ok (.ireturn, 1) := by decide +kernel
theorem dX7_goods_0 : decode cX7_goods 0 = .ok (.aload_n 0, 1) := by decide +kernel
theorem dX7_goods_1 : decode cX7_goods 1 = .ok (.getfield 23, 3) := by decide +kernel
theorem dX7_goods_4 : decode cX7_goods 4 = .ok (.iload_n 1, 1) := by decide +kernel
theorem dX7_goods_5 : decode cX7_goods 5 = .ok (.invokevirtual 133, 3) := by decide +kernel
theorem dX7_goods_8 : decode cX7_goods 8 = .ok (.astore_n 3, 1) := by decide +kernel
theorem dX7_goods_9 : decode cX7_goods 9 = .ok (.aload_n 3, 1) := by decide +kernel
theorem dX7_goods_10 : decode cX7_goods 10 = .ok (.ifnonnull 13, 3) := by decide +kernel
theorem dX7_goods_13 : decode cX7_goods 13 = .ok (.new 137, 3) := by decide +kernel
theorem dX7_goods_16 : decode cX7_goods 16 = .ok (.dup, 1) := by decide +kernel
theorem dX7_goods_17 : decode cX7_goods 17 = .ok (.ldc 139, 2) := by decide +kernel
theorem dX7_goods_19 : decode cX7_goods 19 = .ok (.invokespecial 141, 3) := by decide +kernel
theorem dX7_goods_22 : decode cX7_goods 22 = .ok (.athrow, 1) := by decide +kernel
theorem dX7_goods_23 : decode cX7_goods 23 = .ok (.iload_n 2, 1) := by decide +kernel
theorem dX7_goods_24 : decode cX7_goods 24 = .ok (.invokestatic 187, 3) := by decide +kernel
theorem dX7_goods_27 : decode cX7_goods 27 = .ok (.ifCond .ne 13, 3) := by decide +kernel
theorem dX7_goods_30 : decode cX7_goods 30 = .ok (.new 46, 3) := by decide +kernel
theorem dX7_goods_33 : decode cX7_goods 33 = .ok (.dup, 1) := by decide +kernel
theorem dX7_goods_34 : decode cX7_goods 34 = .ok (.ldc 190, 2) := by decide +kernel
theorem dX7_goods_36 : decode cX7_goods 36 = .ok (.invokespecial 50, 3) := by decide +kernel
theorem dX7_goods_39 : decode cX7_goods 39 = .ok (.athrow, 1) := by decide +kernel
theorem dX7_goods_40 : decode cX7_goods 40 = .ok (.aload_n 0, 1) := by decide +kernel
theorem dX7_goods_41 : decode cX7_goods 41 = .ok (.getfield 32, 3) := by decide +kernel
theorem dX7_goods_44 : decode cX7_goods 44 = .ok (.aload_n 0, 1) := by decide +kernel
theorem dX7_goods_45 : decode cX7_goods 45 = .ok (.getfield 23, 3) := by decide +kernel
theorem dX7_goods_48 : decode cX7_goods 48 = .ok (.invokevirtual 181, 3) := by decide +kernel
theorem dX7_goods_51 : decode cX7_goods 51 = .ok (.aload_n 3, 1) := by decide +kernel
theorem dX7_goods_52 : decode cX7_goods 52 = .ok (.getfield 192, 3) := by decide +kernel
theorem dX7_goods_55 : decode cX7_goods 55 = .ok (.istore 4, 2) := by decide +kernel
theorem dX7_goods_57 : decode cX7_goods 57 = .ok (.aload_n 0, 1) := by decide +kernel
theorem dX7_goods_58 : decode cX7_goods 58 = .ok (.getfield 23, 3) := by decide +kernel
theorem dX7_goods_61 : decode cX7_goods 61 = .ok (.iload_n 1, 1) := by decide +kernel
theorem dX7_goods_62 : decode cX7_goods 62 = .ok (.iload_n 2, 1) := by decide +kernel
theorem dX7_goods_63 : decode cX7_goods 63 = .ok (.invokevirtual 195, 3) := by decide +kernel
theorem dX7_goods_66 : decode cX7_goods 66 = .ok (.pop, 1) := by decide +kernel
theorem dX7_goods_67 : decode cX7_goods 67 = .ok (.iload 4, 2) := by decide +kernel
theorem dX7_goods_69 : decode cX7_goods 69 = .ok (.ireturn, 1) := by decide +kernel
theorem dX7_run_0 : decode cX7_run 0 = .ok (.iload_n 1, 1) := by decide +kernel
theorem dX7_run_1 : decode cX7_run 1 = .ok (.invokestatic 198, 3) := by decide +kernel
theorem dX7_run_4 : decode cX7_run 4 = .ok (.ifCond .ne 13, 3) := by decide +kernel
theorem dX7_run_7 : decode cX7_run 7 = .ok (.new 46, 3) := by decide +kernel
theorem dX7_run_10 : decode cX7_run 10 = .ok (.dup, 1) := by decide +kernel
theorem dX7_run_11 : decode cX7_run 11 = .ok (.ldc 201, 2) := by decide +kernel
theorem dX7_run_13 : decode cX7_run 13 = .ok (.invokespecial 50, 3) := by decide +kernel
theorem dX7_run_16 : decode cX7_run 16 = .ok (.athrow, 1) := by decide +kernel
theorem dX7_run_17 : decode cX7_run 17 = .ok (.aload_n 0, 1) := by decide +kernel
theorem dX7_run_18 : decode cX7_run 18 = .ok (.getfield 32, 3) := by decide +kernel
theorem dX7_run_21 : decode cX7_run 21 = .ok (.aload_n 0, 1) := by decide +kernel
theorem dX7_run_22 : decode cX7_run 22 = .ok (.getfield 23, 3) := by decide +kernel
theorem dX7_run_25 : decode cX7_run 25 = .ok (.invokevirtual 181, 3) := by decide +kernel
theorem dX7_run_28 : decode cX7_run 28 = .ok (.aload_n 0, 1) := by decide +kernel
theorem dX7_run_29 : decode cX7_run 29 = .ok (.getfield 23, 3) := by decide +kernel
theorem dX7_run_32 : decode cX7_run 32 = .ok (.getfield 203, 3) := by decide +kernel
theorem dX7_run_35 : decode cX7_run 35 = .ok (.istore_n 2, 1) := by decide +kernel
theorem dX7_run_36 : decode cX7_run 36 = .ok (.aload_n 0, 1) := by decide +kernel
theorem dX7_run_37 : decode cX7_run 37 = .ok (.getfield 23, 3) := by decide +kernel
theorem dX7_run_40 : decode cX7_run 40 = .ok (.iload_n 1, 1) := by decide +kernel
theorem dX7_run_41 : decode cX7_run 41 = .ok (.invokevirtual 120, 3) := by decide +kernel
theorem dX7_run_44 : decode cX7_run 44 = .ok (.pop, 1) := by decide +kernel
theorem dX7_run_45 : decode cX7_run 45 = .ok (.aload_n 0, 1) := by decide +kernel
theorem dX7_run_46 : decode cX7_run 46 = .ok (.getfield 23, 3) := by decide +kernel
theorem dX7_run_49 : decode cX7_run 49 = .ok (.getfield 203, 3) := by decide +kernel
theorem dX7_run_52 : decode cX7_run 52 = .ok (.iload_n 2, 1) := by decide +kernel
theorem dX7_run_53 : decode cX7_run 53 = .ok (.isub, 1) := by decide +kernel
theorem dX7_run_54 : decode cX7_run 54 = .ok (.ireturn, 1) := by decide +kernel
theorem dX7_set_0 : decode cX7_set 0 = .ok (.iload_n 1, 1) := by decide +kernel
theorem dX7_set_1 : decode cX7_set 1 = .ok (.iload_n 2, 1) := by decide +kernel
theorem dX7_set_2 : decode cX7_set 2 = .ok (.invokestatic 206, 3) := by decide +kernel
theorem dX7_set_5 : decode cX7_set 5 = .ok (.ifCond .ne 13, 3) := by decide +kernel
theorem dX7_set_8 : decode cX7_set 8 = .ok (.new 46, 3) := by decide +kernel
theorem dX7_set_11 : decode cX7_set 11 = .ok (.dup, 1) := by decide +kernel
theorem dX7_set_12 : decode cX7_set 12 = .ok (.ldc 209, 2) := by decide +kernel
theorem dX7_set_14 : decode cX7_set 14 = .ok (.invokespecial 50, 3) := by decide +kernel
theorem dX7_set_17 : decode cX7_set 17 = .ok (.athrow, 1) := by decide +kernel
theorem dX7_set_18 : decode cX7_set 18 = .ok (.aload_n 0, 1) := by decide +kernel
theorem dX7_set_19 : decode cX7_set 19 = .ok (.getfield 32, 3) := by decide +kernel
theorem dX7_set_22 : decode cX7_set 22 = .ok (.aload_n 0, 1) := by decide +kernel
theorem dX7_set_23 : decode cX7_set 23 = .ok (.getfield 23, 3) := by decide +kernel
theorem dX7_set_26 : decode cX7_set 26 = .ok (.invokevirtual 181, 3) := by decide +kernel
theorem dX7_set_29 : decode cX7_set 29 = .ok (.aload_n 0, 1) := by decide +kernel
theorem dX7_set_30 : decode cX7_set 30 = .ok (.getfield 23, 3) := by decide +kernel
theorem dX7_set_33 : decode cX7_set 33 = .ok (.getfield 162, 3) := by decide +kernel
theorem dX7_set_36 : decode cX7_set 36 = .ok (.iload_n 1, 1) := by decide +kernel
theorem dX7_set_37 : decode cX7_set 37 = .ok (.invokevirtual 166, 3) := by decide +kernel
theorem dX7_set_40 : decode cX7_set 40 = .ok (.istore_n 3, 1) := by decide +kernel
theorem dX7_set_41 : decode cX7_set 41 = .ok (.aload_n 0, 1) := by decide +kernel
theorem dX7_set_42 : decode cX7_set 42 = .ok (.getfield 23, 3) := by decide +kernel
theorem dX7_set_45 : decode cX7_set 45 = .ok (.iload_n 1, 1) := by decide +kernel
theorem dX7_set_46 : decode cX7_set 46 = .ok (.iload_n 2, 1) := by decide +kernel
theorem dX7_set_47 : decode cX7_set 47 = .ok (.invokevirtual 124, 3) := by decide +kernel
theorem dX7_set_50 : decode cX7_set 50 = .ok (.pop, 1) := by decide +kernel
theorem dX7_set_51 : decode cX7_set 51 = .ok (.iload_n 3, 1) := by decide +kernel
theorem dX7_set_52 : decode cX7_set 52 = .ok (.ireturn, 1) := by decide +kernel
theorem dX7_undo_0 : decode cX7_undo 0 = .ok (.aload_n 0, 1) := by decide +kernel
theorem dX7_undo_1 : decode cX7_undo 1 = .ok (.getfield 32, 3) := by decide +kernel
theorem dX7_undo_4 : decode cX7_undo 4 = .ok (.invokevirtual 211, 3) := by decide +kernel
theorem dX7_undo_7 : decode cX7_undo 7 = .ok (.ifCond .eq 13, 3) := by decide +kernel
theorem dX7_undo_10 : decode cX7_undo 10 = .ok (.new 63, 3) := by decide +kernel
theorem dX7_undo_13 : decode cX7_undo 13 = .ok (.dup, 1) := by decide +kernel
theorem dX7_undo_14 : decode cX7_undo 14 = .ok (.ldc 214, 2) := by decide +kernel
theorem dX7_undo_16 : decode cX7_undo 16 = .ok (.invokespecial 67, 3) := by decide +kernel
theorem dX7_undo_19 : decode cX7_undo 19 = .ok (.athrow, 1) := by decide +kernel
theorem dX7_undo_20 : decode cX7_undo 20 = .ok (.aload_n 0, 1) := by decide +kernel
theorem dX7_undo_21 : decode cX7_undo 21 = .ok (.getfield 32, 3) := by decide +kernel
theorem dX7_undo_24 : decode cX7_undo 24 = .ok (.aload_n 0, 1) := by decide +kernel
theorem dX7_undo_25 : decode cX7_undo 25 = .ok (.getfield 23, 3) := by decide +kernel
theorem dX7_undo_28 : decode cX7_undo 28 = .ok (.invokevirtual 216, 3) := by decide +kernel
theorem dX7_undo_31 : decode cX7_undo 31 = .ok (.aload_n 0, 1) := by decide +kernel
theorem dX7_undo_32 : decode cX7_undo 32 = .ok (.getfield 32, 3) := by decide +kernel
theorem dX7_undo_35 : decode cX7_undo 35 = .ok (.getfield 219, 3) := by decide +kernel
theorem dX7_undo_38 : decode cX7_undo 38 = .ok (.ireturn, 1) := by decide +kernel
theorem dX7_spare_0 : decode cX7_spare 0 = .ok (.aload_n 0, 1) := by decide +kernel
theorem dX7_spare_1 : decode cX7_spare 1 = .ok (.getfield 23, 3) := by decide +kernel
theorem dX7_spare_4 : decode cX7_spare 4 = .ok (.invokevirtual 222, 3) := by decide +kernel
theorem dX7_spare_7 : decode cX7_spare 7 = .ok (.ireturn, 1) := by decide +kernel
theorem dX7_warmIn_0 : decode cX7_warmIn 0 = .ok (.aload_n 0, 1) := by decide +kernel
theorem dX7_warmIn_1 : decode cX7_warmIn 1 = .ok (.getfield 26, 3) := by decide +kernel
theorem dX7_warmIn_4 : decode cX7_warmIn 4 = .ok (.aload_n 0, 1) := by decide +kernel
theorem dX7_warmIn_5 : decode cX7_warmIn 5 = .ok (.getfield 23, 3) := by decide +kernel
theorem dX7_warmIn_8 : decode cX7_warmIn 8 = .ok (.invokevirtual 81, 3) := by decide +kernel
theorem dX7_warmIn_11 : decode cX7_warmIn 11 = .ok (.aload_n 0, 1) := by decide +kernel
theorem dX7_warmIn_12 : decode cX7_warmIn 12 = .ok (.getfield 26, 3) := by decide +kernel
theorem dX7_warmIn_15 : decode cX7_warmIn 15 = .ok (.iload_n 1, 1) := by decide +kernel
theorem dX7_warmIn_16 : decode cX7_warmIn 16 = .ok (.invokevirtual 133, 3) := by decide +kernel
theorem dX7_warmIn_19 : decode cX7_warmIn 19 = .ok (.astore_n 2, 1) := by decide +kernel
theorem dX7_warmIn_20 : decode cX7_warmIn 20 = .ok (.aload_n 2, 1) := by decide +kernel
theorem dX7_warmIn_21 : decode cX7_warmIn 21 = .ok (.ifnonnull 13, 3) := by decide +kernel
theorem dX7_warmIn_24 : decode cX7_warmIn 24 = .ok (.new 137, 3) := by decide +kernel
theorem dX7_warmIn_27 : decode cX7_warmIn 27 = .ok (.dup, 1) := by decide +kernel
theorem dX7_warmIn_28 : decode cX7_warmIn 28 = .ok (.ldc 139, 2) := by decide +kernel
theorem dX7_warmIn_30 : decode cX7_warmIn 30 = .ok (.invokespecial 141, 3) := by decide +kernel
theorem dX7_warmIn_33 : decode cX7_warmIn 33 = .ok (.athrow, 1) := by decide +kernel
theorem dX7_warmIn_34 : decode cX7_warmIn 34 = .ok (.iconst 0, 1) := by decide +kernel
theorem dX7_warmIn_35 : decode cX7_warmIn 35 = .ok (.istore_n 3, 1) := by decide +kernel
theorem dX7_warmIn_36 : decode cX7_warmIn 36 = .ok (.iload_n 3, 1) := by decide +kernel
theorem dX7_warmIn_37 : decode cX7_warmIn 37 = .ok (.sipush 240, 3) := by decide +kernel
theorem dX7_warmIn_40 : decode cX7_warmIn 40 = .ok (.if_icmp .ge 23, 3) := by decide +kernel
theorem dX7_warmIn_43 : decode cX7_warmIn 43 = .ok (.aload_n 2, 1) := by decide +kernel
theorem dX7_warmIn_44 : decode cX7_warmIn 44 = .ok (.invokevirtual 225, 3) := by decide +kernel
theorem dX7_warmIn_47 : decode cX7_warmIn 47 = .ok (.ifCond .ne 16, 3) := by decide +kernel
theorem dX7_warmIn_50 : decode cX7_warmIn 50 = .ok (.aload_n 0, 1) := by decide +kernel
theorem dX7_warmIn_51 : decode cX7_warmIn 51 = .ok (.getfield 26, 3) := by decide +kernel
theorem dX7_warmIn_54 : decode cX7_warmIn 54 = .ok (.invokevirtual 228, 3) := by decide +kernel
theorem dX7_warmIn_57 : decode cX7_warmIn 57 = .ok (.iinc 3 1, 3) := by decide +kernel
theorem dX7_warmIn_60 : decode cX7_warmIn 60 = .ok (.goto (-24), 3) := by decide +kernel
theorem dX7_warmIn_63 : decode cX7_warmIn 63 = .ok (.aload_n 2, 1) := by decide +kernel
theorem dX7_warmIn_64 : decode cX7_warmIn 64 = .ok (.invokevirtual 225, 3) := by decide +kernel
theorem dX7_warmIn_67 : decode cX7_warmIn 67 = .ok (.ifCond .eq 7, 3) := by decide +kernel
theorem dX7_warmIn_70 : decode cX7_warmIn 70 = .ok (.iload_n 3, 1) := by decide +kernel
theorem dX7_warmIn_71 : decode cX7_warmIn 71 = .ok (.goto 4, 3) := by decide +kernel
theorem dX7_warmIn_74 : decode cX7_warmIn 74 = .ok (.iconst (-1), 1) := by decide +kernel
theorem dX7_warmIn_75 : decode cX7_warmIn 75 = .ok (.ireturn, 1) := by decide +kernel
theorem dX7_coming_0 : decode cX7_coming 0 = .ok (.iload_n 1, 1) := by decide +kernel
theorem dX7_coming_1 : decode cX7_coming 1 = .ok (.iconst 1, 1) := by decide +kernel
theorem dX7_coming_2 : decode cX7_coming 2 = .ok (.if_icmp .lt 19, 3) := by decide +kernel
theorem dX7_coming_5 : decode cX7_coming 5 = .ok (.iload_n 1, 1) := by decide +kernel
theorem dX7_coming_6 : decode cX7_coming 6 = .ok (.sipush 240, 3) := by decide +kernel
theorem dX7_coming_9 : decode cX7_coming 9 = .ok (.if_icmp .gt 12, 3) := by decide +kernel
theorem dX7_coming_12 : decode cX7_coming 12 = .ok (.iload_n 2, 1) := by decide +kernel
theorem dX7_coming_13 : decode cX7_coming 13 = .ok (.ifCond .lt 8, 3) := by decide +kernel
theorem dX7_coming_16 : decode cX7_coming 16 = .ok (.iload_n 2, 1) := by decide +kernel
theorem dX7_coming_17 : decode cX7_coming 17 = .ok (.iconst 4, 1) := by decide +kernel
theorem dX7_coming_18 : decode cX7_coming 18 = .ok (.if_icmp .le 13, 3) := by decide +kernel
theorem dX7_coming_21 : decode cX7_coming 21 = .ok (.new 46, 3) := by decide +kernel
theorem dX7_coming_24 : decode cX7_coming 24 = .ok (.dup, 1) := by decide +kernel
theorem dX7_coming_25 : decode cX7_coming 25 = .ok (.ldc 231, 2) := by decide +kernel
theorem dX7_coming_27 : decode cX7_coming 27 = .ok (.invokespecial 50, 3) := by decide +kernel
theorem dX7_coming_30 : decode cX7_coming 30 = .ok (.athrow, 1) := by decide +kernel
theorem dX7_coming_31 : decode cX7_coming 31 = .ok (.aload_n 0, 1) := by decide +kernel
theorem dX7_coming_32 : decode cX7_coming 32 = .ok (.getfield 26, 3) := by decide +kernel
theorem dX7_coming_35 : decode cX7_coming 35 = .ok (.aload_n 0, 1) := by decide +kernel
theorem dX7_coming_36 : decode cX7_coming 36 = .ok (.getfield 23, 3) := by decide +kernel
theorem dX7_coming_39 : decode cX7_coming 39 = .ok (.invokevirtual 81, 3) := by decide +kernel
theorem dX7_coming_42 : decode cX7_coming 42 = .ok (.iconst 0, 1) := by decide +kernel
theorem dX7_coming_43 : decode cX7_coming 43 = .ok (.istore_n 3, 1) := by decide +kernel
theorem dX7_coming_44 : decode cX7_coming 44 = .ok (.iload_n 3, 1) := by decide +kernel
theorem dX7_coming_45 : decode cX7_coming 45 = .ok (.iload_n 1, 1) := by decide +kernel
theorem dX7_coming_46 : decode cX7_coming 46 = .ok (.if_icmp .ge 16, 3) := by decide +kernel
theorem dX7_coming_49 : decode cX7_coming 49 = .ok (.aload_n 0, 1) := by decide +kernel
theorem dX7_coming_50 : decode cX7_coming 50 = .ok (.getfield 26, 3) := by decide +kernel
theorem dX7_coming_53 : decode cX7_coming 53 = .ok (.invokevirtual 228, 3) := by decide +kernel
theorem dX7_coming_56 : decode cX7_coming 56 = .ok (.iinc 3 1, 3) := by decide +kernel
theorem dX7_coming_59 : decode cX7_coming 59 = .ok (.goto (-15), 3) := by decide +kernel
theorem dX7_coming_62 : decode cX7_coming 62 = .ok (.iload_n 2, 1) := by decide +kernel
theorem dX7_coming_63 : decode cX7_coming 63 = .ok (.tableswitch 93 0 3 #[29, 45, 61, 77], 29) := by decide +kernel
theorem dX7_coming_92 : decode cX7_coming 92 = .ok (.aload_n 0, 1) := by decide +kernel
theorem dX7_coming_93 : decode cX7_coming 93 = .ok (.getfield 26, 3) := by decide +kernel
theorem dX7_coming_96 : decode cX7_coming 96 = .ok (.getfield 203, 3) := by decide +kernel
theorem dX7_coming_99 : decode cX7_coming 99 = .ok (.aload_n 0, 1) := by decide +kernel
theorem dX7_coming_100 : decode cX7_coming 100 = .ok (.getfield 23, 3) := by decide +kernel
theorem dX7_coming_103 : decode cX7_coming 103 = .ok (.getfield 203, 3) := by decide +kernel
theorem dX7_coming_106 : decode cX7_coming 106 = .ok (.isub, 1) := by decide +kernel
theorem dX7_coming_107 : decode cX7_coming 107 = .ok (.ireturn, 1) := by decide +kernel
theorem dX7_coming_108 : decode cX7_coming 108 = .ok (.aload_n 0, 1) := by decide +kernel
theorem dX7_coming_109 : decode cX7_coming 109 = .ok (.getfield 26, 3) := by decide +kernel
theorem dX7_coming_112 : decode cX7_coming 112 = .ok (.getfield 233, 3) := by decide +kernel
theorem dX7_coming_115 : decode cX7_coming 115 = .ok (.aload_n 0, 1) := by decide +kernel
theorem dX7_coming_116 : decode cX7_coming 116 = .ok (.getfield 23, 3) := by decide +kernel
theorem dX7_coming_119 : decode cX7_coming 119 = .ok (.getfield 233, 3) := by decide +kernel
theorem dX7_coming_122 : decode cX7_coming 122 = .ok (.isub, 1) := by decide +kernel
theorem dX7_coming_123 : decode cX7_coming 123 = .ok (.ireturn, 1) := by decide +kernel
theorem dX7_coming_124 : decode cX7_coming 124 = .ok (.aload_n 0, 1) := by decide +kernel
theorem dX7_coming_125 : decode cX7_coming 125 = .ok (.getfield 26, 3) := by decide +kernel
theorem dX7_coming_128 : decode cX7_coming 128 = .ok (.getfield 236, 3) := by decide +kernel
theorem dX7_coming_131 : decode cX7_coming 131 = .ok (.aload_n 0, 1) := by decide +kernel
theorem dX7_coming_132 : decode cX7_coming 132 = .ok (.getfield 23, 3) := by decide +kernel
theorem dX7_coming_135 : decode cX7_coming 135 = .ok (.getfield 236, 3) := by decide +kernel
theorem dX7_coming_138 : decode cX7_coming 138 = .ok (.isub, 1) := by decide +kernel
theorem dX7_coming_139 : decode cX7_coming 139 = .ok (.ireturn, 1) := by decide +kernel
theorem dX7_coming_140 : decode cX7_coming 140 = .ok (.aload_n 0, 1) := by decide +kernel
theorem dX7_coming_141 : decode cX7_coming 141 = .ok (.getfield 26, 3) := by decide +kernel
theorem dX7_coming_144 : decode cX7_coming 144 = .ok (.getfield 239, 3) := by decide +kernel
theorem dX7_coming_147 : decode cX7_coming 147 = .ok (.aload_n 0, 1) := by decide +kernel
theorem dX7_coming_148 : decode cX7_coming 148 = .ok (.getfield 23, 3) := by decide +kernel
theorem dX7_coming_151 : decode cX7_coming 151 = .ok (.getfield 239, 3) := by decide +kernel
theorem dX7_coming_154 : decode cX7_coming 154 = .ok (.isub, 1) := by decide +kernel
theorem dX7_coming_155 : decode cX7_coming 155 = .ok (.ireturn, 1) := by decide +kernel
theorem dX7_coming_156 : decode cX7_coming 156 = .ok (.aload_n 0, 1) := by decide +kernel
theorem dX7_coming_157 : decode cX7_coming 157 = .ok (.getfield 26, 3) := by decide +kernel
theorem dX7_coming_160 : decode cX7_coming 160 = .ok (.invokevirtual 242, 3) := by decide +kernel
theorem dX7_coming_163 : decode cX7_coming 163 = .ok (.ireturn, 1) := by decide +kernel
theorem dX7_leastLimit_0 : decode cX7_leastLimit 0 = .ok (.iload_n 1, 1) := by decide +kernel
theorem dX7_leastLimit_1 : decode cX7_leastLimit 1 = .ok (.invokestatic 198, 3) := by decide +kernel
theorem dX7_leastLimit_4 : decode cX7_leastLimit 4 = .ok (.ifCond .ne 13, 3) := by decide +kernel
theorem dX7_leastLimit_7 : decode cX7_leastLimit 7 = .ok (.new 46, 3) := by decide +kernel
theorem dX7_leastLimit_10 : decode cX7_leastLimit 10 = .ok (.dup, 1) := by decide +kernel
theorem dX7_leastLimit_11 : decode cX7_leastLimit 11 = .ok (.ldc 201, 2) := by decide +kernel
theorem dX7_leastLimit_13 : decode cX7_leastLimit 13 = .ok (.invokespecial 50, 3) := by decide +kernel
theorem dX7_leastLimit_16 : decode cX7_leastLimit 16 = .ok (.athrow, 1) := by decide +kernel
theorem dX7_leastLimit_17 : decode cX7_leastLimit 17 = .ok (.iconst 0, 1) := by decide +kernel
theorem dX7_leastLimit_18 : decode cX7_leastLimit 18 = .ok (.istore_n 2, 1) := by decide +kernel
theorem dX7_leastLimit_19 : decode cX7_leastLimit 19 = .ok (.iload_n 2, 1) := by decide +kernel
theorem dX7_leastLimit_20 : decode cX7_leastLimit 20 = .ok (.sipush 9900, 3) := by decide +kernel
theorem dX7_leastLimit_23 : decode cX7_leastLimit 23 = .ok (.if_icmp .gt 20, 3) := by decide +kernel
theorem dX7_leastLimit_26 : decode cX7_leastLimit 26 = .ok (.aload_n 0, 1) := by decide +kernel
theorem dX7_leastLimit_27 : decode cX7_leastLimit 27 = .ok (.iload_n 2, 1) := by decide +kernel
theorem dX7_leastLimit_28 : decode cX7_leastLimit 28 = .ok (.iload_n 1, 1) := by decide +kernel
theorem dX7_leastLimit_29 : decode cX7_leastLimit 29 = .ok (.invokevirtual 245, 3) := by decide +kernel
theorem dX7_leastLimit_32 : decode cX7_leastLimit 32 = .ok (.ifCond .eq 5, 3) := by decide +kernel
theorem dX7_leastLimit_35 : decode cX7_leastLimit 35 = .ok (.iload_n 2, 1) := by decide +kernel
theorem dX7_leastLimit_36 : decode cX7_leastLimit 36 = .ok (.ireturn, 1) := by decide +kernel
theorem dX7_leastLimit_37 : decode cX7_leastLimit 37 = .ok (.iinc 2 100, 3) := by decide +kernel
theorem dX7_leastLimit_40 : decode cX7_leastLimit 40 = .ok (.goto (-21), 3) := by decide +kernel
theorem dX7_leastLimit_43 : decode cX7_leastLimit 43 = .ok (.iconst (-1), 1) := by decide +kernel
theorem dX7_leastLimit_44 : decode cX7_leastLimit 44 = .ok (.ireturn, 1) := by decide +kernel
theorem dX7_isKept_0 : decode cX7_isKept 0 = .ok (.aload_n 0, 1) := by decide +kernel
theorem dX7_isKept_1 : decode cX7_isKept 1 = .ok (.getfield 26, 3) := by decide +kernel
theorem dX7_isKept_4 : decode cX7_isKept 4 = .ok (.aload_n 0, 1) := by decide +kernel
theorem dX7_isKept_5 : decode cX7_isKept 5 = .ok (.getfield 23, 3) := by decide +kernel
theorem dX7_isKept_8 : decode cX7_isKept 8 = .ok (.invokevirtual 81, 3) := by decide +kernel
theorem dX7_isKept_11 : decode cX7_isKept 11 = .ok (.aload_n 0, 1) := by decide +kernel
theorem dX7_isKept_12 : decode cX7_isKept 12 = .ok (.getfield 26, 3) := by decide +kernel
theorem dX7_isKept_15 : decode cX7_isKept 15 = .ok (.iconst 0, 1) := by decide +kernel
theorem dX7_isKept_16 : decode cX7_isKept 16 = .ok (.iload_n 1, 1) := by decide +kernel
theorem dX7_isKept_17 : decode cX7_isKept 17 = .ok (.invokevirtual 124, 3) := by decide +kernel
theorem dX7_isKept_20 : decode cX7_isKept 20 = .ok (.pop, 1) := by decide +kernel
theorem dX7_isKept_21 : decode cX7_isKept 21 = .ok (.iconst 0, 1) := by decide +kernel
theorem dX7_isKept_22 : decode cX7_isKept 22 = .ok (.istore_n 3, 1) := by decide +kernel
theorem dX7_isKept_23 : decode cX7_isKept 23 = .ok (.iload_n 3, 1) := by decide +kernel
theorem dX7_isKept_24 : decode cX7_isKept 24 = .ok (.iload_n 2, 1) := by decide +kernel
theorem dX7_isKept_25 : decode cX7_isKept 25 = .ok (.if_icmp .ge 33, 3) := by decide +kernel
theorem dX7_isKept_28 : decode cX7_isKept 28 = .ok (.aload_n 0, 1) := by decide +kernel
theorem dX7_isKept_29 : decode cX7_isKept 29 = .ok (.getfield 26, 3) := by decide +kernel
theorem dX7_isKept_32 : decode cX7_isKept 32 = .ok (.getfield 233, 3) := by decide +kernel
theorem dX7_isKept_35 : decode cX7_isKept 35 = .ok (.aload_n 0, 1) := by decide +kernel
theorem dX7_isKept_36 : decode cX7_isKept 36 = .ok (.getfield 23, 3) := by decide +kernel
theorem dX7_isKept_39 : decode cX7_isKept 39 = .ok (.getfield 233, 3) := by decide +kernel
theorem dX7_isKept_42 : decode cX7_isKept 42 = .ok (.if_icmp .ne 16, 3) := by decide +kernel
theorem dX7_isKept_45 : decode cX7_isKept 45 = .ok (.aload_n 0, 1) := by decide +kernel
theorem dX7_isKept_46 : decode cX7_isKept 46 = .ok (.getfield 26, 3) := by decide +kernel
theorem dX7_isKept_49 : decode cX7_isKept 49 = .ok (.invokevirtual 228, 3) := by decide +kernel
theorem dX7_isKept_52 : decode cX7_isKept 52 = .ok (.iinc 3 1, 3) := by decide +kernel
theorem dX7_isKept_55 : decode cX7_isKept 55 = .ok (.goto (-32), 3) := by decide +kernel
theorem dX7_isKept_58 : decode cX7_isKept 58 = .ok (.aload_n 0, 1) := by decide +kernel
theorem dX7_isKept_59 : decode cX7_isKept 59 = .ok (.getfield 26, 3) := by decide +kernel
theorem dX7_isKept_62 : decode cX7_isKept 62 = .ok (.getfield 233, 3) := by decide +kernel
theorem dX7_isKept_65 : decode cX7_isKept 65 = .ok (.aload_n 0, 1) := by decide +kernel
theorem dX7_isKept_66 : decode cX7_isKept 66 = .ok (.getfield 23, 3) := by decide +kernel
theorem dX7_isKept_69 : decode cX7_isKept 69 = .ok (.getfield 233, 3) := by decide +kernel
theorem dX7_isKept_72 : decode cX7_isKept 72 = .ok (.if_icmp .ne 7, 3) := by decide +kernel
theorem dX7_isKept_75 : decode cX7_isKept 75 = .ok (.iconst 1, 1) := by decide +kernel
theorem dX7_isKept_76 : decode cX7_isKept 76 = .ok (.goto 4, 3) := by decide +kernel
theorem dX7_isKept_79 : decode cX7_isKept 79 = .ok (.iconst 0, 1) := by decide +kernel
theorem dX7_isKept_80 : decode cX7_isKept 80 = .ok (.ireturn, 1) := by decide +kernel
theorem dX7_bestShut_0 : decode cX7_bestShut 0 = .ok (.iconst (-1), 1) := by decide +kernel
theorem dX7_bestShut_1 : decode cX7_bestShut 1 = .ok (.istore_n 1, 1) := by decide +kernel
theorem dX7_bestShut_2 : decode cX7_bestShut 2 = .ok (.iconst 0, 1) := by decide +kernel
theorem dX7_bestShut_3 : decode cX7_bestShut 3 = .ok (.istore_n 2, 1) := by decide +kernel
theorem dX7_bestShut_4 : decode cX7_bestShut 4 = .ok (.iconst 0, 1) := by decide +kernel
theorem dX7_bestShut_5 : decode cX7_bestShut 5 = .ok (.istore_n 3, 1) := by decide +kernel
theorem dX7_bestShut_6 : decode cX7_bestShut 6 = .ok (.iload_n 3, 1) := by decide +kernel
theorem dX7_bestShut_7 : decode cX7_bestShut 7 = .ok (.bipush 6, 2) := by decide +kernel
theorem dX7_bestShut_9 : decode cX7_bestShut 9 = .ok (.if_icmp .ge 58, 3) := by decide +kernel
theorem dX7_bestShut_12 : decode cX7_bestShut 12 = .ok (.aload_n 0, 1) := by decide +kernel
theorem dX7_bestShut_13 : decode cX7_bestShut 13 = .ok (.getfield 23, 3) := by decide +kernel
theorem dX7_bestShut_16 : decode cX7_bestShut 16 = .ok (.iload_n 3, 1) := by decide +kernel
theorem dX7_bestShut_17 : decode cX7_bestShut 17 = .ok (.invokevirtual 133, 3) := by decide +kernel
theorem dX7_bestShut_20 : decode cX7_bestShut 20 = .ok (.astore 4, 2) := by decide +kernel
theorem dX7_bestShut_22 : decode cX7_bestShut 22 = .ok (.aload 4, 2) := by decide +kernel
theorem dX7_bestShut_24 : decode cX7_bestShut 24 = .ok (.ifnull 37, 3) := by decide +kernel
theorem dX7_bestShut_27 : decode cX7_bestShut 27 = .ok (.aload 4, 2) := by decide +kernel
theorem dX7_bestShut_29 : decode cX7_bestShut 29 = .ok (.getfield 248, 3) := by decide +kernel
theorem dX7_bestShut_32 : decode cX7_bestShut 32 = .ok (.ifCond .ne 6, 3) := by decide +kernel
theorem dX7_bestShut_35 : decode cX7_bestShut 35 = .ok (.goto 26, 3) := by decide +kernel
theorem dX7_bestShut_38 : decode cX7_bestShut 38 = .ok (.aload_n 0, 1) := by decide +kernel
theorem dX7_bestShut_39 : decode cX7_bestShut 39 = .ok (.iload_n 3, 1) := by decide +kernel
theorem dX7_bestShut_40 : decode cX7_bestShut 40 = .ok (.invokevirtual 252, 3) := by decide +kernel
theorem dX7_bestShut_43 : decode cX7_bestShut 43 = .ok (.istore 5, 2) := by decide +kernel
theorem dX7_bestShut_45 : decode cX7_bestShut 45 = .ok (.iload_n 1, 1) := by decide +kernel
theorem dX7_bestShut_46 : decode cX7_bestShut 46 = .ok (.iconst (-1), 1) := by decide +kernel
theorem dX7_bestShut_47 : decode cX7_bestShut 47 = .ok (.if_icmp .eq 9, 3) := by decide +kernel
theorem dX7_bestShut_50 : decode cX7_bestShut 50 = .ok (.iload 5, 2) := by decide +kernel
theorem dX7_bestShut_52 : decode cX7_bestShut 52 = .ok (.iload_n 2, 1) := by decide +kernel
theorem dX7_bestShut_53 : decode cX7_bestShut 53 = .ok (.if_icmp .ge 8, 3) := by decide +kernel
theorem dX7_bestShut_56 : decode cX7_bestShut 56 = .ok (.iload_n 3, 1) := by decide +kernel
theorem dX7_bestShut_57 : decode cX7_bestShut 57 = .ok (.istore_n 1, 1) := by decide +kernel
theorem dX7_bestShut_58 : decode cX7_bestShut 58 = .ok (.iload 5, 2) := by decide +kernel
theorem dX7_bestShut_60 : decode cX7_bestShut 60 = .ok (.istore_n 2, 1) := by decide +kernel
theorem dX7_bestShut_61 : decode cX7_bestShut 61 = .ok (.iinc 3 1, 3) := by decide +kernel
theorem dX7_bestShut_64 : decode cX7_bestShut 64 = .ok (.goto (-58), 3) := by decide +kernel
theorem dX7_bestShut_67 : decode cX7_bestShut 67 = .ok (.iload_n 1, 1) := by decide +kernel
theorem dX7_bestShut_68 : decode cX7_bestShut 68 = .ok (.ireturn, 1) := by decide +kernel
theorem dX7_warmthIfShut_0 : decode cX7_warmthIfShut 0 = .ok (.aload_n 0, 1) := by decide +kernel
theorem dX7_warmthIfShut_1 : decode cX7_warmthIfShut 1 = .ok (.getfield 26, 3) := by decide +kernel
theorem dX7_warmthIfShut_4 : decode cX7_warmthIfShut 4 = .ok (.aload_n 0, 1) := by decide +kernel
theorem dX7_warmthIfShut_5 : decode cX7_warmthIfShut 5 = .ok (.getfield 23, 3) := by decide +kernel
theorem dX7_warmthIfShut_8 : decode cX7_warmthIfShut 8 = .ok (.invokevirtual 81, 3) := by decide +kernel
theorem dX7_warmthIfShut_11 : decode cX7_warmthIfShut 11 = .ok (.aload_n 0, 1) := by decide +kernel
theorem dX7_warmthIfShut_12 : decode cX7_warmthIfShut 12 = .ok (.getfield 26, 3) := by decide +kernel
theorem dX7_warmthIfShut_15 : decode cX7_warmthIfShut 15 = .ok (.iload_n 1, 1) := by decide +kernel
theorem dX7_warmthIfShut_16 : decode cX7_warmthIfShut 16 = .ok (.iconst 0, 1) := by decide +kernel
theorem dX7_warmthIfShut_17 : decode cX7_warmthIfShut 17 = .ok (.invokevirtual 116, 3) := by decide +kernel
theorem dX7_warmthIfShut_20 : decode cX7_warmthIfShut 20 = .ok (.pop, 1) := by decide +kernel
theorem dX7_warmthIfShut_21 : decode cX7_warmthIfShut 21 = .ok (.aload_n 0, 1) := by decide +kernel
theorem dX7_warmthIfShut_22 : decode cX7_warmthIfShut 22 = .ok (.getfield 26, 3) := by decide +kernel
theorem dX7_warmthIfShut_25 : decode cX7_warmthIfShut 25 = .ok (.bipush 15, 2) := by decide +kernel
theorem dX7_warmthIfShut_27 : decode cX7_warmthIfShut 27 = .ok (.invokevirtual 120, 3) := by decide +kernel
theorem dX7_warmthIfShut_30 : decode cX7_warmthIfShut 30 = .ok (.pop, 1) := by decide +kernel
theorem dX7_warmthIfShut_31 : decode cX7_warmthIfShut 31 = .ok (.aload_n 0, 1) := by decide +kernel
theorem dX7_warmthIfShut_32 : decode cX7_warmthIfShut 32 = .ok (.getfield 26, 3) := by decide +kernel
theorem dX7_warmthIfShut_35 : decode cX7_warmthIfShut 35 = .ok (.iload_n 1, 1) := by decide +kernel
theorem dX7_warmthIfShut_36 : decode cX7_warmthIfShut 36 = .ok (.invokevirtual 133, 3) := by decide +kernel
theorem dX7_warmthIfShut_39 : decode cX7_warmthIfShut 39 = .ok (.astore_n 2, 1) := by decide +kernel
theorem dX7_warmthIfShut_40 : decode cX7_warmthIfShut 40 = .ok (.aload_n 2, 1) := by decide +kernel
theorem dX7_warmthIfShut_41 : decode cX7_warmthIfShut 41 = .ok (.ifnonnull 7, 3) := by decide +kernel
theorem dX7_warmthIfShut_44 : decode cX7_warmthIfShut 44 = .ok (.iconst 0, 1) := by decide +kernel
theorem dX7_warmthIfShut_45 : decode cX7_warmthIfShut 45 = .ok (.goto 7, 3) := by decide +kernel
theorem dX7_warmthIfShut_48 : decode cX7_warmthIfShut 48 = .ok (.aload_n 2, 1) := by decide +kernel
theorem dX7_warmthIfShut_49 : decode cX7_warmthIfShut 49 = .ok (.invokevirtual 255, 3) := by decide +kernel
theorem dX7_warmthIfShut_52 : decode cX7_warmthIfShut 52 = .ok (.ireturn, 1) := by decide +kernel
theorem dX7_runScript_0 : decode cX7_runScript 0 = .ok (.iload_n 1, 1) := by decide +kernel
theorem dX7_runScript_1 : decode cX7_runScript 1 = .ok (.iconst 1, 1) := by decide +kernel
theorem dX7_runScript_2 : decode cX7_runScript 2 = .ok (.if_icmp .lt 24, 3) := by decide +kernel
theorem dX7_runScript_5 : decode cX7_runScript 5 = .ok (.iload_n 1, 1) := by decide +kernel
theorem dX7_runScript_6 : decode cX7_runScript 6 = .ok (.iconst 3, 1) := by decide +kernel
theorem dX7_runScript_7 : decode cX7_runScript 7 = .ok (.if_icmp .gt 19, 3) := by decide +kernel
theorem dX7_runScript_10 : decode cX7_runScript 10 = .ok (.lload_n 2, 1) := by decide +kernel
theorem dX7_runScript_11 : decode cX7_runScript 11 = .ok (.lconst 0, 1) := by decide +kernel
theorem dX7_runScript_12 : decode cX7_runScript 12 = .ok (.lcmp, 1) := by decide +kernel
theorem dX7_runScript_13 : decode cX7_runScript 13 = .ok (.ifCond .lt 13, 3) := by decide +kernel
theorem dX7_runScript_16 : decode cX7_runScript 16 = .ok (.lload_n 2, 1) := by decide +kernel
theorem dX7_runScript_17 : decode cX7_runScript 17 = .ok (.iload_n 1, 1) := by decide +kernel
theorem dX7_runScript_18 : decode cX7_runScript 18 = .ok (.invokestatic 258, 3) := by decide +kernel
theorem dX7_runScript_21 : decode cX7_runScript 21 = .ok (.lconst 0, 1) := by decide +kernel
theorem dX7_runScript_22 : decode cX7_runScript 22 = .ok (.lcmp, 1) := by decide +kernel
theorem dX7_runScript_23 : decode cX7_runScript 23 = .ok (.ifCond .eq 14, 3) := by decide +kernel
theorem dX7_runScript_26 : decode cX7_runScript 26 = .ok (.new 46, 3) := by decide +kernel
theorem dX7_runScript_29 : decode cX7_runScript 29 = .ok (.dup, 1) := by decide +kernel
theorem dX7_runScript_30 : decode cX7_runScript 30 = .ok (.ldc_w 262, 3) := by decide +kernel
theorem dX7_runScript_33 : decode cX7_runScript 33 = .ok (.invokespecial 50, 3) := by decide +kernel
theorem dX7_runScript_36 : decode cX7_runScript 36 = .ok (.athrow, 1) := by decide +kernel
theorem dX7_runScript_37 : decode cX7_runScript 37 = .ok (.aload_n 0, 1) := by decide +kernel
theorem dX7_runScript_38 : decode cX7_runScript 38 = .ok (.getfield 26, 3) := by decide +kernel
theorem dX7_runScript_41 : decode cX7_runScript 41 = .ok (.aload_n 0, 1) := by decide +kernel
theorem dX7_runScript_42 : decode cX7_runScript 42 = .ok (.getfield 23, 3) := by decide +kernel
theorem dX7_runScript_45 : decode cX7_runScript 45 = .ok (.invokevirtual 81, 3) := by decide +kernel
theorem dX7_runScript_48 : decode cX7_runScript 48 = .ok (.iconst 0, 1) := by decide +kernel
theorem dX7_runScript_49 : decode cX7_runScript 49 = .ok (.istore 4, 2) := by decide +kernel
theorem dX7_runScript_51 : decode cX7_runScript 51 = .ok (.iload 4, 2) := by decide +kernel
theorem dX7_runScript_53 : decode cX7_runScript 53 = .ok (.iload_n 1, 1) := by decide +kernel
theorem dX7_runScript_54 : decode cX7_runScript 54 = .ok (.if_icmp .ge 34, 3) := by decide +kernel
theorem dX7_runScript_57 : decode cX7_runScript 57 = .ok (.aload_n 0, 1) := by decide +kernel
theorem dX7_runScript_58 : decode cX7_runScript 58 = .ok (.lload_n 2, 1) := by decide +kernel
theorem dX7_runScript_59 : decode cX7_runScript 59 = .ok (.iload_n 1, 1) := by decide +kernel
theorem dX7_runScript_60 : decode cX7_runScript 60 = .ok (.iconst 1, 1) := by decide +kernel
theorem dX7_runScript_61 : decode cX7_runScript 61 = .ok (.isub, 1) := by decide +kernel
theorem dX7_runScript_62 : decode cX7_runScript 62 = .ok (.iload 4, 2) := by decide +kernel
theorem dX7_runScript_64 : decode cX7_runScript 64 = .ok (.isub, 1) := by decide +kernel
theorem dX7_runScript_65 : decode cX7_runScript 65 = .ok (.invokestatic 258, 3) := by decide +kernel
theorem dX7_runScript_68 : decode cX7_runScript 68 = .ok (.ldc2_w 264, 3) := by decide +kernel
theorem dX7_runScript_71 : decode cX7_runScript 71 = .ok (.lrem, 1) := by decide +kernel
theorem dX7_runScript_72 : decode cX7_runScript 72 = .ok (.l2i, 1) := by decide +kernel
theorem dX7_runScript_73 : decode cX7_runScript 73 = .ok (.invokevirtual 266, 3) := by decide +kernel
theorem dX7_runScript_76 : decode cX7_runScript 76 = .ok (.ifCond .ne 6, 3) := by decide +kernel
theorem dX7_runScript_79 : decode cX7_runScript 79 = .ok (.iload 4, 2) := by decide +kernel
theorem dX7_runScript_81 : decode cX7_runScript 81 = .ok (.ireturn, 1) := by decide +kernel
theorem dX7_runScript_82 : decode cX7_runScript 82 = .ok (.iinc 4 1, 3) := by decide +kernel
theorem dX7_runScript_85 : decode cX7_runScript 85 = .ok (.goto (-34), 3) := by decide +kernel
theorem dX7_runScript_88 : decode cX7_runScript 88 = .ok (.iconst (-1), 1) := by decide +kernel
theorem dX7_runScript_89 : decode cX7_runScript 89 = .ok (.ireturn, 1) := by decide +kernel
theorem dX7_withoutGroups_0 : decode cX7_withoutGroups 0 = .ok (.lload_n 0, 1) := by decide +kernel
theorem dX7_withoutGroups_1 : decode cX7_withoutGroups 1 = .ok (.lstore_n 3, 1) := by decide +kernel
theorem dX7_withoutGroups_2 : decode cX7_withoutGroups 2 = .ok (.iconst 0, 1) := by decide +kernel
theorem dX7_withoutGroups_3 : decode cX7_withoutGroups 3 = .ok (.istore 5, 2) := by decide +kernel
theorem dX7_withoutGroups_5 : decode cX7_withoutGroups 5 = .ok (.iload 5, 2) := by decide +kernel
theorem dX7_withoutGroups_7 : decode cX7_withoutGroups 7 = .ok (.iload_n 2, 1) := by decide +kernel
theorem dX7_withoutGroups_8 : decode cX7_withoutGroups 8 = .ok (.if_icmp .ge 15, 3) := by decide +kernel
theorem dX7_withoutGroups_11 : decode cX7_withoutGroups 11 = .ok (.lload_n 3, 1) := by decide +kernel
theorem dX7_withoutGroups_12 : decode cX7_withoutGroups 12 = .ok (.ldc2_w 264, 3) := by decide +kernel
theorem dX7_withoutGroups_15 : decode cX7_withoutGroups 15 = .ok (.ldiv, 1) := by decide +kernel
theorem dX7_withoutGroups_16 : decode cX7_withoutGroups 16 = .ok (.lstore_n 3, 1) := by decide +kernel
theorem dX7_withoutGroups_17 : decode cX7_withoutGroups 17 = .ok (.iinc 5 1, 3) := by decide +kernel
theorem dX7_withoutGroups_20 : decode cX7_withoutGroups 20 = .ok (.goto (-15), 3) := by decide +kernel
theorem dX7_withoutGroups_23 : decode cX7_withoutGroups 23 = .ok (.lload_n 3, 1) := by decide +kernel
theorem dX7_withoutGroups_24 : decode cX7_withoutGroups 24 = .ok (.lreturn, 1) := by decide +kernel
theorem dX7_doGroup_0 : decode cX7_doGroup 0 = .ok (.iload_n 1, 1) := by decide +kernel
theorem dX7_doGroup_1 : decode cX7_doGroup 1 = .ok (.sipush 1000, 3) := by decide +kernel
theorem dX7_doGroup_4 : decode cX7_doGroup 4 = .ok (.idiv, 1) := by decide +kernel
theorem dX7_doGroup_5 : decode cX7_doGroup 5 = .ok (.bipush 10, 2) := by decide +kernel
theorem dX7_doGroup_7 : decode cX7_doGroup 7 = .ok (.irem, 1) := by decide +kernel
theorem dX7_doGroup_8 : decode cX7_doGroup 8 = .ok (.istore_n 2, 1) := by decide +kernel
theorem dX7_doGroup_9 : decode cX7_doGroup 9 = .ok (.iload_n 1, 1) := by decide +kernel
theorem dX7_doGroup_10 : decode cX7_doGroup 10 = .ok (.sipush 1000, 3) := by decide +kernel
theorem dX7_doGroup_13 : decode cX7_doGroup 13 = .ok (.irem, 1) := by decide +kernel
theorem dX7_doGroup_14 : decode cX7_doGroup 14 = .ok (.istore_n 3, 1) := by decide +kernel
theorem dX7_doGroup_15 : decode cX7_doGroup 15 = .ok (.iload_n 1, 1) := by decide +kernel
theorem dX7_doGroup_16 : decode cX7_doGroup 16 = .ok (.sipush 10000, 3) := by decide +kernel
theorem dX7_doGroup_19 : decode cX7_doGroup 19 = .ok (.idiv, 1) := by decide +kernel
theorem dX7_doGroup_20 : decode cX7_doGroup 20 = .ok (.tableswitch 216 1 8 #[48, 86, 107, 133, 161, 216, 216, 189], 48) := by decide +kernel
theorem dX7_doGroup_68 : decode cX7_doGroup 68 = .ok (.iload_n 3, 1) := by decide +kernel
theorem dX7_doGroup_69 : decode cX7_doGroup 69 = .ok (.ifCond .eq 9, 3) := by decide +kernel
theorem dX7_doGroup_72 : decode cX7_doGroup 72 = .ok (.iload_n 3, 1) := by decide +kernel
theorem dX7_doGroup_73 : decode cX7_doGroup 73 = .ok (.bipush 100, 2) := by decide +kernel
theorem dX7_doGroup_75 : decode cX7_doGroup 75 = .ok (.if_icmp .ne 29, 3) := by decide +kernel
theorem dX7_doGroup_78 : decode cX7_doGroup 78 = .ok (.aload_n 0, 1) := by decide +kernel
theorem dX7_doGroup_79 : decode cX7_doGroup 79 = .ok (.getfield 26, 3) := by decide +kernel
theorem dX7_doGroup_82 : decode cX7_doGroup 82 = .ok (.iload_n 2, 1) := by decide +kernel
theorem dX7_doGroup_83 : decode cX7_doGroup 83 = .ok (.iload_n 3, 1) := by decide +kernel
theorem dX7_doGroup_84 : decode cX7_doGroup 84 = .ok (.bipush 100, 2) := by decide +kernel
theorem dX7_doGroup_86 : decode cX7_doGroup 86 = .ok (.if_icmp .ne 7, 3) := by decide +kernel
theorem dX7_doGroup_89 : decode cX7_doGroup 89 = .ok (.iconst 1, 1) := by decide +kernel
theorem dX7_doGroup_90 : decode cX7_doGroup 90 = .ok (.goto 4, 3) := by decide +kernel
theorem dX7_doGroup_93 : decode cX7_doGroup 93 = .ok (.iconst 0, 1) := by decide +kernel
theorem dX7_doGroup_94 : decode cX7_doGroup 94 = .ok (.invokevirtual 116, 3) := by decide +kernel
theorem dX7_doGroup_97 : decode cX7_doGroup 97 = .ok (.ifCond .eq 7, 3) := by decide +kernel
theorem dX7_doGroup_100 : decode cX7_doGroup 100 = .ok (.iconst 1, 1) := by decide +kernel
theorem dX7_doGroup_101 : decode cX7_doGroup 101 = .ok (.goto 4, 3) := by decide +kernel
theorem dX7_doGroup_104 : decode cX7_doGroup 104 = .ok (.iconst 0, 1) := by decide +kernel
theorem dX7_doGroup_105 : decode cX7_doGroup 105 = .ok (.ireturn, 1) := by decide +kernel
theorem dX7_doGroup_106 : decode cX7_doGroup 106 = .ok (.iload_n 2, 1) := by decide +kernel
theorem dX7_doGroup_107 : decode cX7_doGroup 107 = .ok (.ifCond .ne 18, 3) := by decide +kernel
theorem dX7_doGroup_110 : decode cX7_doGroup 110 = .ok (.aload_n 0, 1) := by decide +kernel
theorem dX7_doGroup_111 : decode cX7_doGroup 111 = .ok (.getfield 26, 3) := by decide +kernel
theorem dX7_doGroup_114 : decode cX7_doGroup 114 = .ok (.iload_n 3, 1) := by decide +kernel
theorem dX7_doGroup_115 : decode cX7_doGroup 115 = .ok (.invokevirtual 120, 3) := by decide +kernel
theorem dX7_doGroup_118 : decode cX7_doGroup 118 = .ok (.ifCond .eq 7, 3) := by decide +kernel
theorem dX7_doGroup_121 : decode cX7_doGroup 121 = .ok (.iconst 1, 1) := by decide +kernel
theorem dX7_doGroup_122 : decode cX7_doGroup 122 = .ok (.goto 4, 3) := by decide +kernel
theorem dX7_doGroup_125 : decode cX7_doGroup 125 = .ok (.iconst 0, 1) := by decide +kernel
theorem dX7_doGroup_126 : decode cX7_doGroup 126 = .ok (.ireturn, 1) := by decide +kernel
theorem dX7_doGroup_127 : decode cX7_doGroup 127 = .ok (.iload_n 2, 1) := by decide +kernel
theorem dX7_doGroup_128 : decode cX7_doGroup 128 = .ok (.ifCond .ne 23, 3) := by decide +kernel
theorem dX7_doGroup_131 : decode cX7_doGroup 131 = .ok (.iload_n 3, 1) := by decide +kernel
theorem dX7_doGroup_132 : decode cX7_doGroup 132 = .ok (.ifCond .ne 19, 3) := by decide +kernel
theorem dX7_doGroup_135 : decode cX7_doGroup 135 = .ok (.aload_n 0, 1) := by decide +kernel
theorem dX7_doGroup_136 : decode cX7_doGroup 136 = .ok (.getfield 26, 3) := by decide +kernel
theorem dX7_doGroup_139 : decode cX7_doGroup 139 = .ok (.bipush 15, 2) := by decide +kernel
theorem dX7_doGroup_141 : decode cX7_doGroup 141 = .ok (.invokevirtual 120, 3) := by decide +kernel
theorem dX7_doGroup_144 : decode cX7_doGroup 144 = .ok (.ifCond .eq 7, 3) := by decide +kernel
theorem dX7_doGroup_147 : decode cX7_doGroup 147 = .ok (.iconst 1, 1) := by decide +kernel
theorem dX7_doGroup_148 : decode cX7_doGroup 148 = .ok (.goto 4, 3) := by decide +kernel
theorem dX7_doGroup_151 : decode cX7_doGroup 151 = .ok (.iconst 0, 1) := by decide +kernel
theorem dX7_doGroup_152 : decode cX7_doGroup 152 = .ok (.ireturn, 1) := by decide +kernel
theorem dX7_doGroup_153 : decode cX7_doGroup 153 = .ok (.iload_n 3, 1) := by decide +kernel
theorem dX7_doGroup_154 : decode cX7_doGroup 154 = .ok (.bipush 10, 2) := by decide +kernel
theorem dX7_doGroup_156 : decode cX7_doGroup 156 = .ok (.irem, 1) := by decide +kernel
theorem dX7_doGroup_157 : decode cX7_doGroup 157 = .ok (.ifCond .ne 22, 3) := by decide +kernel
theorem dX7_doGroup_160 : decode cX7_doGroup 160 = .ok (.aload_n 0, 1) := by decide +kernel
theorem dX7_doGroup_161 : decode cX7_doGroup 161 = .ok (.getfield 26, 3) := by decide +kernel
theorem dX7_doGroup_164 : decode cX7_doGroup 164 = .ok (.iload_n 2, 1) := by decide +kernel
theorem dX7_doGroup_165 : decode cX7_doGroup 165 = .ok (.iload_n 3, 1) := by decide +kernel
theorem dX7_doGroup_166 : decode cX7_doGroup 166 = .ok (.bipush 10, 2) := by decide +kernel
theorem dX7_doGroup_168 : decode cX7_doGroup 168 = .ok (.idiv, 1) := by decide +kernel
theorem dX7_doGroup_169 : decode cX7_doGroup 169 = .ok (.invokevirtual 124, 3) := by decide +kernel
theorem dX7_doGroup_172 : decode cX7_doGroup 172 = .ok (.ifCond .eq 7, 3) := by decide +kernel
theorem dX7_doGroup_175 : decode cX7_doGroup 175 = .ok (.iconst 1, 1) := by decide +kernel
theorem dX7_doGroup_176 : decode cX7_doGroup 176 = .ok (.goto 4, 3) := by decide +kernel
theorem dX7_doGroup_179 : decode cX7_doGroup 179 = .ok (.iconst 0, 1) := by decide +kernel
theorem dX7_doGroup_180 : decode cX7_doGroup 180 = .ok (.ireturn, 1) := by decide +kernel
theorem dX7_doGroup_181 : decode cX7_doGroup 181 = .ok (.iload_n 3, 1) := by decide +kernel
theorem dX7_doGroup_182 : decode cX7_doGroup 182 = .ok (.bipush 10, 2) := by decide +kernel
theorem dX7_doGroup_184 : decode cX7_doGroup 184 = .ok (.irem, 1) := by decide +kernel
theorem dX7_doGroup_185 : decode cX7_doGroup 185 = .ok (.ifCond .ne 22, 3) := by decide +kernel
theorem dX7_doGroup_188 : decode cX7_doGroup 188 = .ok (.aload_n 0, 1) := by decide +kernel
theorem dX7_doGroup_189 : decode cX7_doGroup 189 = .ok (.getfield 26, 3) := by decide +kernel
theorem dX7_doGroup_192 : decode cX7_doGroup 192 = .ok (.iload_n 2, 1) := by decide +kernel
theorem dX7_doGroup_193 : decode cX7_doGroup 193 = .ok (.iload_n 3, 1) := by decide +kernel
theorem dX7_doGroup_194 : decode cX7_doGroup 194 = .ok (.bipush 10, 2) := by decide +kernel
theorem dX7_doGroup_196 : decode cX7_doGroup 196 = .ok (.idiv, 1) := by decide +kernel
theorem dX7_doGroup_197 : decode cX7_doGroup 197 = .ok (.invokevirtual 195, 3) := by decide +kernel
theorem dX7_doGroup_200 : decode cX7_doGroup 200 = .ok (.ifCond .eq 7, 3) := by decide +kernel
theorem dX7_doGroup_203 : decode cX7_doGroup 203 = .ok (.iconst 1, 1) := by decide +kernel
theorem dX7_doGroup_204 : decode cX7_doGroup 204 = .ok (.goto 4, 3) := by decide +kernel
theorem dX7_doGroup_207 : decode cX7_doGroup 207 = .ok (.iconst 0, 1) := by decide +kernel
theorem dX7_doGroup_208 : decode cX7_doGroup 208 = .ok (.ireturn, 1) := by decide +kernel
theorem dX7_doGroup_209 : decode cX7_doGroup 209 = .ok (.iload_n 2, 1) := by decide +kernel
theorem dX7_doGroup_210 : decode cX7_doGroup 210 = .ok (.ifCond .ne 24, 3) := by decide +kernel
theorem dX7_doGroup_213 : decode cX7_doGroup 213 = .ok (.iload_n 3, 1) := by decide +kernel
theorem dX7_doGroup_214 : decode cX7_doGroup 214 = .ok (.bipush 100, 2) := by decide +kernel
theorem dX7_doGroup_216 : decode cX7_doGroup 216 = .ok (.if_icmp .ge 18, 3) := by decide +kernel
theorem dX7_doGroup_219 : decode cX7_doGroup 219 = .ok (.aload_n 0, 1) := by decide +kernel
theorem dX7_doGroup_220 : decode cX7_doGroup 220 = .ok (.getfield 26, 3) := by decide +kernel
theorem dX7_doGroup_223 : decode cX7_doGroup 223 = .ok (.getfield 233, 3) := by decide +kernel
theorem dX7_doGroup_226 : decode cX7_doGroup 226 = .ok (.iload_n 3, 1) := by decide +kernel
theorem dX7_doGroup_227 : decode cX7_doGroup 227 = .ok (.if_icmp .gt 7, 3) := by decide +kernel
theorem dX7_doGroup_230 : decode cX7_doGroup 230 = .ok (.iconst 1, 1) := by decide +kernel
theorem dX7_doGroup_231 : decode cX7_doGroup 231 = .ok (.goto 4, 3) := by decide +kernel
theorem dX7_doGroup_234 : decode cX7_doGroup 234 = .ok (.iconst 0, 1) := by decide +kernel
theorem dX7_doGroup_235 : decode cX7_doGroup 235 = .ok (.ireturn, 1) := by decide +kernel
theorem dX7_doGroup_236 : decode cX7_doGroup 236 = .ok (.aload_n 0, 1) := by decide +kernel
theorem dX7_doGroup_237 : decode cX7_doGroup 237 = .ok (.iload_n 1, 1) := by decide +kernel
theorem dX7_doGroup_238 : decode cX7_doGroup 238 = .ok (.sipush 10000, 3) := by decide +kernel
theorem dX7_doGroup_241 : decode cX7_doGroup 241 = .ok (.idiv, 1) := by decide +kernel
theorem dX7_doGroup_242 : decode cX7_doGroup 242 = .ok (.aload_n 0, 1) := by decide +kernel
theorem dX7_doGroup_243 : decode cX7_doGroup 243 = .ok (.getfield 26, 3) := by decide +kernel
theorem dX7_doGroup_246 : decode cX7_doGroup 246 = .ok (.iload_n 2, 1) := by decide +kernel
theorem dX7_doGroup_247 : decode cX7_doGroup 247 = .ok (.invokevirtual 133, 3) := by decide +kernel
theorem dX7_doGroup_250 : decode cX7_doGroup 250 = .ok (.iload_n 3, 1) := by decide +kernel
theorem dX7_doGroup_251 : decode cX7_doGroup 251 = .ok (.invokevirtual 269, 3) := by decide +kernel
theorem dX7_doGroup_254 : decode cX7_doGroup 254 = .ok (.ireturn, 1) := by decide +kernel
theorem dX7_isSo_0 : decode cX7_isSo 0 = .ok (.aload_n 2, 1) := by decide +kernel
theorem dX7_isSo_1 : decode cX7_isSo 1 = .ok (.ifnonnull 5, 3) := by decide +kernel
theorem dX7_isSo_4 : decode cX7_isSo 4 = .ok (.iconst 0, 1) := by decide +kernel
theorem dX7_isSo_5 : decode cX7_isSo 5 = .ok (.ireturn, 1) := by decide +kernel
theorem dX7_isSo_6 : decode cX7_isSo 6 = .ok (.iload_n 1, 1) := by decide +kernel
theorem dX7_isSo_7 : decode cX7_isSo 7 = .ok (.tableswitch 97 6 9 #[29, 53, 97, 75], 29) := by decide +kernel
theorem dX7_isSo_36 : decode cX7_isSo 36 = .ok (.iload_n 3, 1) := by decide +kernel
theorem dX7_isSo_37 : decode cX7_isSo 37 = .ok (.bipush 10, 2) := by decide +kernel
theorem dX7_isSo_39 : decode cX7_isSo 39 = .ok (.irem, 1) := by decide +kernel
theorem dX7_isSo_40 : decode cX7_isSo 40 = .ok (.ifCond .ne 18, 3) := by decide +kernel
theorem dX7_isSo_43 : decode cX7_isSo 43 = .ok (.aload_n 2, 1) := by decide +kernel
theorem dX7_isSo_44 : decode cX7_isSo 44 = .ok (.getfield 273, 3) := by decide +kernel
theorem dX7_isSo_47 : decode cX7_isSo 47 = .ok (.iload_n 3, 1) := by decide +kernel
theorem dX7_isSo_48 : decode cX7_isSo 48 = .ok (.bipush 10, 2) := by decide +kernel
theorem dX7_isSo_50 : decode cX7_isSo 50 = .ok (.idiv, 1) := by decide +kernel
theorem dX7_isSo_51 : decode cX7_isSo 51 = .ok (.if_icmp .gt 7, 3) := by decide +kernel
theorem dX7_isSo_54 : decode cX7_isSo 54 = .ok (.iconst 1, 1) := by decide +kernel
theorem dX7_isSo_55 : decode cX7_isSo 55 = .ok (.goto 4, 3) := by decide +kernel
theorem dX7_isSo_58 : decode cX7_isSo 58 = .ok (.iconst 0, 1) := by decide +kernel
theorem dX7_isSo_59 : decode cX7_isSo 59 = .ok (.ireturn, 1) := by decide +kernel
theorem dX7_isSo_60 : decode cX7_isSo 60 = .ok (.aload_n 0, 1) := by decide +kernel
theorem dX7_isSo_61 : decode cX7_isSo 61 = .ok (.getfield 26, 3) := by decide +kernel
theorem dX7_isSo_64 : decode cX7_isSo 64 = .ok (.invokevirtual 149, 3) := by decide +kernel
theorem dX7_isSo_67 : decode cX7_isSo 67 = .ok (.pop, 1) := by decide +kernel
theorem dX7_isSo_68 : decode cX7_isSo 68 = .ok (.aload_n 2, 1) := by decide +kernel
theorem dX7_isSo_69 : decode cX7_isSo 69 = .ok (.getfield 152, 3) := by decide +kernel
theorem dX7_isSo_72 : decode cX7_isSo 72 = .ok (.iload_n 3, 1) := by decide +kernel
theorem dX7_isSo_73 : decode cX7_isSo 73 = .ok (.if_icmp .ne 7, 3) := by decide +kernel
theorem dX7_isSo_76 : decode cX7_isSo 76 = .ok (.iconst 1, 1) := by decide +kernel
theorem dX7_isSo_77 : decode cX7_isSo 77 = .ok (.goto 4, 3) := by decide +kernel
theorem dX7_isSo_80 : decode cX7_isSo 80 = .ok (.iconst 0, 1) := by decide +kernel
theorem dX7_isSo_81 : decode cX7_isSo 81 = .ok (.ireturn, 1) := by decide +kernel
theorem dX7_isSo_82 : decode cX7_isSo 82 = .ok (.iload_n 3, 1) := by decide +kernel
theorem dX7_isSo_83 : decode cX7_isSo 83 = .ok (.aload_n 2, 1) := by decide +kernel
theorem dX7_isSo_84 : decode cX7_isSo 84 = .ok (.invokevirtual 225, 3) := by decide +kernel
theorem dX7_isSo_87 : decode cX7_isSo 87 = .ok (.ifCond .eq 7, 3) := by decide +kernel
theorem dX7_isSo_90 : decode cX7_isSo 90 = .ok (.iconst 1, 1) := by decide +kernel
theorem dX7_isSo_91 : decode cX7_isSo 91 = .ok (.goto 4, 3) := by decide +kernel
theorem dX7_isSo_94 : decode cX7_isSo 94 = .ok (.iconst 0, 1) := by decide +kernel
theorem dX7_isSo_95 : decode cX7_isSo 95 = .ok (.if_icmp .ne 7, 3) := by decide +kernel
theorem dX7_isSo_98 : decode cX7_isSo 98 = .ok (.iconst 1, 1) := by decide +kernel
theorem dX7_isSo_99 : decode cX7_isSo 99 = .ok (.goto 4, 3) := by decide +kernel
theorem dX7_isSo_102 : decode cX7_isSo 102 = .ok (.iconst 0, 1) := by decide +kernel
theorem dX7_isSo_103 : decode cX7_isSo 103 = .ok (.ireturn, 1) := by decide +kernel
theorem dX7_isSo_104 : decode cX7_isSo 104 = .ok (.iconst 0, 1) := by decide +kernel
theorem dX7_isSo_105 : decode cX7_isSo 105 = .ok (.ireturn, 1) := by decide +kernel
theorem dX7_simulate_0 : decode cX7_simulate 0 = .ok (.iload_n 3, 1) := by decide +kernel
theorem dX7_simulate_1 : decode cX7_simulate 1 = .ok (.iconst 1, 1) := by decide +kernel
theorem dX7_simulate_2 : decode cX7_simulate 2 = .ok (.if_icmp .lt 9, 3) := by decide +kernel
theorem dX7_simulate_5 : decode cX7_simulate 5 = .ok (.iload_n 3, 1) := by decide +kernel
theorem dX7_simulate_6 : decode cX7_simulate 6 = .ok (.bipush 60, 2) := by decide +kernel
theorem dX7_simulate_8 : decode cX7_simulate 8 = .ok (.if_icmp .le 14, 3) := by decide +kernel
theorem dX7_simulate_11 : decode cX7_simulate 11 = .ok (.new 46, 3) := by decide +kernel
theorem dX7_simulate_14 : decode cX7_simulate 14 = .ok (.dup, 1) := by decide +kernel
theorem dX7_simulate_15 : decode cX7_simulate 15 = .ok (.ldc_w 276, 3) := by decide +kernel
theorem dX7_simulate_18 : decode cX7_simulate 18 = .ok (.invokespecial 50, 3) := by decide +kernel
theorem dX7_simulate_21 : decode cX7_simulate 21 = .ok (.athrow, 1) := by decide +kernel
theorem dX7_simulate_22 : decode cX7_simulate 22 = .ok (.aload_n 0, 1) := by decide +kernel
theorem dX7_simulate_23 : decode cX7_simulate 23 = .ok (.getfield 26, 3) := by decide +kernel
theorem dX7_simulate_26 : decode cX7_simulate 26 = .ok (.aload_n 0, 1) := by decide +kernel
theorem dX7_simulate_27 : decode cX7_simulate 27 = .ok (.getfield 23, 3) := by decide +kernel
theorem dX7_simulate_30 : decode cX7_simulate 30 = .ok (.invokevirtual 81, 3) := by decide +kernel
theorem dX7_simulate_33 : decode cX7_simulate 33 = .ok (.lload_n 1, 1) := by decide +kernel
theorem dX7_simulate_34 : decode cX7_simulate 34 = .ok (.lstore 4, 2) := by decide +kernel
theorem dX7_simulate_36 : decode cX7_simulate 36 = .ok (.iconst 0, 1) := by decide +kernel
theorem dX7_simulate_37 : decode cX7_simulate 37 = .ok (.istore 6, 2) := by decide +kernel
theorem dX7_simulate_39 : decode cX7_simulate 39 = .ok (.iload 6, 2) := by decide +kernel
theorem dX7_simulate_41 : decode cX7_simulate 41 = .ok (.iload_n 3, 1) := by decide +kernel
theorem dX7_simulate_42 : decode cX7_simulate 42 = .ok (.if_icmp .ge 31, 3) := by decide +kernel
theorem dX7_simulate_45 : decode cX7_simulate 45 = .ok (.lload 4, 2) := by decide +kernel
theorem dX7_simulate_47 : decode cX7_simulate 47 = .ok (.ldc2_w 278, 3) := by decide +kernel
theorem dX7_simulate_50 : decode cX7_simulate 50 = .ok (.lmul, 1) := by decide +kernel
theorem dX7_simulate_51 : decode cX7_simulate 51 = .ok (.ldc2_w 280, 3) := by decide +kernel
theorem dX7_simulate_54 : decode cX7_simulate 54 = .ok (.ladd, 1) := by decide +kernel
theorem dX7_simulate_55 : decode cX7_simulate 55 = .ok (.lstore 4, 2) := by decide +kernel
theorem dX7_simulate_57 : decode cX7_simulate 57 = .ok (.aload_n 0, 1) := by decide +kernel
theorem dX7_simulate_58 : decode cX7_simulate 58 = .ok (.lload 4, 2) := by decide +kernel
theorem dX7_simulate_60 : decode cX7_simulate 60 = .ok (.bipush 33, 2) := by decide +kernel
theorem dX7_simulate_62 : decode cX7_simulate 62 = .ok (.lushr, 1) := by decide +kernel
theorem dX7_simulate_63 : decode cX7_simulate 63 = .ok (.l2i, 1) := by decide +kernel
theorem dX7_simulate_64 : decode cX7_simulate 64 = .ok (.invokevirtual 282, 3) := by decide +kernel
theorem dX7_simulate_67 : decode cX7_simulate 67 = .ok (.iinc 6 1, 3) := by decide +kernel
theorem dX7_simulate_70 : decode cX7_simulate 70 = .ok (.goto (-31), 3) := by decide +kernel
theorem dX7_simulate_73 : decode cX7_simulate 73 = .ok (.sipush 1000, 3) := by decide +kernel
theorem dX7_simulate_76 : decode cX7_simulate 76 = .ok (.aload_n 0, 1) := by decide +kernel
theorem dX7_simulate_77 : decode cX7_simulate 77 = .ok (.getfield 26, 3) := by decide +kernel
theorem dX7_simulate_80 : decode cX7_simulate 80 = .ok (.getfield 233, 3) := by decide +kernel
theorem dX7_simulate_83 : decode cX7_simulate 83 = .ok (.aload_n 0, 1) := by decide +kernel
theorem dX7_simulate_84 : decode cX7_simulate 84 = .ok (.getfield 23, 3) := by decide +kernel
theorem dX7_simulate_87 : decode cX7_simulate 87 = .ok (.getfield 233, 3) := by decide +kernel
theorem dX7_simulate_90 : decode cX7_simulate 90 = .ok (.isub, 1) := by decide +kernel
theorem dX7_simulate_91 : decode cX7_simulate 91 = .ok (.imul, 1) := by decide +kernel
theorem dX7_simulate_92 : decode cX7_simulate 92 = .ok (.aload_n 0, 1) := by decide +kernel
theorem dX7_simulate_93 : decode cX7_simulate 93 = .ok (.getfield 26, 3) := by decide +kernel
theorem dX7_simulate_96 : decode cX7_simulate 96 = .ok (.getfield 236, 3) := by decide +kernel
theorem dX7_simulate_99 : decode cX7_simulate 99 = .ok (.aload_n 0, 1) := by decide +kernel
theorem dX7_simulate_100 : decode cX7_simulate 100 = .ok (.getfield 23, 3) := by decide +kernel
theorem dX7_simulate_103 : decode cX7_simulate 103 = .ok (.getfield 236, 3) := by decide +kernel
theorem dX7_simulate_106 : decode cX7_simulate 106 = .ok (.isub, 1) := by decide +kernel
theorem dX7_simulate_107 : decode cX7_simulate 107 = .ok (.iadd, 1) := by decide +kernel
theorem dX7_simulate_108 : decode cX7_simulate 108 = .ok (.ireturn, 1) := by decide +kernel
theorem dX7_doTurn_0 : decode cX7_doTurn 0 = .ok (.iload_n 1, 1) := by decide +kernel
theorem dX7_doTurn_1 : decode cX7_doTurn 1 = .ok (.bipush 8, 2) := by decide +kernel
theorem dX7_doTurn_3 : decode cX7_doTurn 3 = .ok (.idiv, 1) := by decide +kernel
theorem dX7_doTurn_4 : decode cX7_doTurn 4 = .ok (.istore_n 2, 1) := by decide +kernel
theorem dX7_doTurn_5 : decode cX7_doTurn 5 = .ok (.iload_n 1, 1) := by decide +kernel
theorem dX7_doTurn_6 : decode cX7_doTurn 6 = .ok (.bipush 8, 2) := by decide +kernel
theorem dX7_doTurn_8 : decode cX7_doTurn 8 = .ok (.irem, 1) := by decide +kernel
theorem dX7_doTurn_9 : decode cX7_doTurn 9 = .ok (.tableswitch 126 0 4 #[35, 35, 64, 91, 108], 35) := by decide +kernel
theorem dX7_doTurn_44 : decode cX7_doTurn 44 = .ok (.aload_n 0, 1) := by decide +kernel
theorem dX7_doTurn_45 : decode cX7_doTurn 45 = .ok (.getfield 26, 3) := by decide +kernel
theorem dX7_doTurn_48 : decode cX7_doTurn 48 = .ok (.iload_n 2, 1) := by decide +kernel
theorem dX7_doTurn_49 : decode cX7_doTurn 49 = .ok (.bipush 6, 2) := by decide +kernel
theorem dX7_doTurn_51 : decode cX7_doTurn 51 = .ok (.irem, 1) := by decide +kernel
theorem dX7_doTurn_52 : decode cX7_doTurn 52 = .ok (.iload_n 2, 1) := by decide +kernel
theorem dX7_doTurn_53 : decode cX7_doTurn 53 = .ok (.bipush 8, 2) := by decide +kernel
theorem dX7_doTurn_55 : decode cX7_doTurn 55 = .ok (.idiv, 1) := by decide +kernel
theorem dX7_doTurn_56 : decode cX7_doTurn 56 = .ok (.iconst 3, 1) := by decide +kernel
theorem dX7_doTurn_57 : decode cX7_doTurn 57 = .ok (.irem, 1) := by decide +kernel
theorem dX7_doTurn_58 : decode cX7_doTurn 58 = .ok (.ifCond .ne 7, 3) := by decide +kernel
theorem dX7_doTurn_61 : decode cX7_doTurn 61 = .ok (.iconst 1, 1) := by decide +kernel
theorem dX7_doTurn_62 : decode cX7_doTurn 62 = .ok (.goto 4, 3) := by decide +kernel
theorem dX7_doTurn_65 : decode cX7_doTurn 65 = .ok (.iconst 0, 1) := by decide +kernel
theorem dX7_doTurn_66 : decode cX7_doTurn 66 = .ok (.invokevirtual 116, 3) := by decide +kernel
theorem dX7_doTurn_69 : decode cX7_doTurn 69 = .ok (.pop, 1) := by decide +kernel
theorem dX7_doTurn_70 : decode cX7_doTurn 70 = .ok (.goto 79, 3) := by decide +kernel
theorem dX7_doTurn_73 : decode cX7_doTurn 73 = .ok (.aload_n 0, 1) := by decide +kernel
theorem dX7_doTurn_74 : decode cX7_doTurn 74 = .ok (.getfield 26, 3) := by decide +kernel
theorem dX7_doTurn_77 : decode cX7_doTurn 77 = .ok (.iload_n 2, 1) := by decide +kernel
theorem dX7_doTurn_78 : decode cX7_doTurn 78 = .ok (.bipush 6, 2) := by decide +kernel
theorem dX7_doTurn_80 : decode cX7_doTurn 80 = .ok (.irem, 1) := by decide +kernel
theorem dX7_doTurn_81 : decode cX7_doTurn 81 = .ok (.iload_n 2, 1) := by decide +kernel
theorem dX7_doTurn_82 : decode cX7_doTurn 82 = .ok (.bipush 8, 2) := by decide +kernel
theorem dX7_doTurn_84 : decode cX7_doTurn 84 = .ok (.idiv, 1) := by decide +kernel
theorem dX7_doTurn_85 : decode cX7_doTurn 85 = .ok (.sipush 401, 3) := by decide +kernel
theorem dX7_doTurn_88 : decode cX7_doTurn 88 = .ok (.irem, 1) := by decide +kernel
theorem dX7_doTurn_89 : decode cX7_doTurn 89 = .ok (.sipush 200, 3) := by decide +kernel
theorem dX7_doTurn_92 : decode cX7_doTurn 92 = .ok (.isub, 1) := by decide +kernel
theorem dX7_doTurn_93 : decode cX7_doTurn 93 = .ok (.invokevirtual 195, 3) := by decide +kernel
theorem dX7_doTurn_96 : decode cX7_doTurn 96 = .ok (.pop, 1) := by decide +kernel
theorem dX7_doTurn_97 : decode cX7_doTurn 97 = .ok (.goto 52, 3) := by decide +kernel
theorem dX7_doTurn_100 : decode cX7_doTurn 100 = .ok (.aload_n 0, 1) := by decide +kernel
theorem dX7_doTurn_101 : decode cX7_doTurn 101 = .ok (.getfield 26, 3) := by decide +kernel
theorem dX7_doTurn_104 : decode cX7_doTurn 104 = .ok (.iconst 0, 1) := by decide +kernel
theorem dX7_doTurn_105 : decode cX7_doTurn 105 = .ok (.iload_n 2, 1) := by decide +kernel
theorem dX7_doTurn_106 : decode cX7_doTurn 106 = .ok (.sipush 1000, 3) := by decide +kernel
theorem dX7_doTurn_109 : decode cX7_doTurn 109 = .ok (.irem, 1) := by decide +kernel
theorem dX7_doTurn_110 : decode cX7_doTurn 110 = .ok (.invokevirtual 124, 3) := by decide +kernel
theorem dX7_doTurn_113 : decode cX7_doTurn 113 = .ok (.pop, 1) := by decide +kernel
theorem dX7_doTurn_114 : decode cX7_doTurn 114 = .ok (.goto 35, 3) := by decide +kernel
theorem dX7_doTurn_117 : decode cX7_doTurn 117 = .ok (.aload_n 0, 1) := by decide +kernel
theorem dX7_doTurn_118 : decode cX7_doTurn 118 = .ok (.getfield 26, 3) := by decide +kernel
theorem dX7_doTurn_121 : decode cX7_doTurn 121 = .ok (.iconst 4, 1) := by decide +kernel
theorem dX7_doTurn_122 : decode cX7_doTurn 122 = .ok (.iconst 1, 1) := by decide +kernel
theorem dX7_doTurn_123 : decode cX7_doTurn 123 = .ok (.iload_n 2, 1) := by decide +kernel
theorem dX7_doTurn_124 : decode cX7_doTurn 124 = .ok (.bipush 100, 2) := by decide +kernel
theorem dX7_doTurn_126 : decode cX7_doTurn 126 = .ok (.irem, 1) := by decide +kernel
theorem dX7_doTurn_127 : decode cX7_doTurn 127 = .ok (.iadd, 1) := by decide +kernel
theorem dX7_doTurn_128 : decode cX7_doTurn 128 = .ok (.invokevirtual 124, 3) := by decide +kernel
theorem dX7_doTurn_131 : decode cX7_doTurn 131 = .ok (.pop, 1) := by decide +kernel
theorem dX7_doTurn_132 : decode cX7_doTurn 132 = .ok (.goto 17, 3) := by decide +kernel
theorem dX7_doTurn_135 : decode cX7_doTurn 135 = .ok (.aload_n 0, 1) := by decide +kernel
theorem dX7_doTurn_136 : decode cX7_doTurn 136 = .ok (.getfield 26, 3) := by decide +kernel
theorem dX7_doTurn_139 : decode cX7_doTurn 139 = .ok (.iconst 1, 1) := by decide +kernel
theorem dX7_doTurn_140 : decode cX7_doTurn 140 = .ok (.iload_n 2, 1) := by decide +kernel
theorem dX7_doTurn_141 : decode cX7_doTurn 141 = .ok (.bipush 15, 2) := by decide +kernel
theorem dX7_doTurn_143 : decode cX7_doTurn 143 = .ok (.irem, 1) := by decide +kernel
theorem dX7_doTurn_144 : decode cX7_doTurn 144 = .ok (.iadd, 1) := by decide +kernel
theorem dX7_doTurn_145 : decode cX7_doTurn 145 = .ok (.invokevirtual 120, 3) := by decide +kernel
theorem dX7_doTurn_148 : decode cX7_doTurn 148 = .ok (.pop, 1) := by decide +kernel
theorem dX7_doTurn_149 : decode cX7_doTurn 149 = .ok (.return_, 1) := by decide +kernel
theorem dX7_save_0 : decode cX7_save 0 = .ok (.aload_n 0, 1) := by decide +kernel
theorem dX7_save_1 : decode cX7_save 1 = .ok (.iload_n 1, 1) := by decide +kernel
theorem dX7_save_2 : decode cX7_save 2 = .ok (.invokevirtual 286, 3) := by decide +kernel
theorem dX7_save_5 : decode cX7_save 5 = .ok (.astore_n 2, 1) := by decide +kernel
theorem dX7_save_6 : decode cX7_save 6 = .ok (.aload_n 2, 1) := by decide +kernel
theorem dX7_save_7 : decode cX7_save 7 = .ok (.ifnonnull 14, 3) := by decide +kernel
theorem dX7_save_10 : decode cX7_save 10 = .ok (.new 137, 3) := by decide +kernel
theorem dX7_save_13 : decode cX7_save 13 = .ok (.dup, 1) := by decide +kernel
theorem dX7_save_14 : decode cX7_save 14 = .ok (.ldc_w 290, 3) := by decide +kernel
theorem dX7_save_17 : decode cX7_save 17 = .ok (.invokespecial 141, 3) := by decide +kernel
theorem dX7_save_20 : decode cX7_save 20 = .ok (.athrow, 1) := by decide +kernel
theorem dX7_save_21 : decode cX7_save 21 = .ok (.aload_n 2, 1) := by decide +kernel
theorem dX7_save_22 : decode cX7_save 22 = .ok (.aload_n 0, 1) := by decide +kernel
theorem dX7_save_23 : decode cX7_save 23 = .ok (.getfield 23, 3) := by decide +kernel
theorem dX7_save_26 : decode cX7_save 26 = .ok (.invokevirtual 292, 3) := by decide +kernel
theorem dX7_save_29 : decode cX7_save 29 = .ok (.aload_n 0, 1) := by decide +kernel
theorem dX7_save_30 : decode cX7_save 30 = .ok (.getfield 23, 3) := by decide +kernel
theorem dX7_save_33 : decode cX7_save 33 = .ok (.getfield 295, 3) := by decide +kernel
theorem dX7_save_36 : decode cX7_save 36 = .ok (.ireturn, 1) := by decide +kernel
theorem dX7_restore_0 : decode cX7_restore 0 = .ok (.aload_n 0, 1) := by decide +kernel
theorem dX7_restore_1 : decode cX7_restore 1 = .ok (.iload_n 1, 1) := by decide +kernel
theorem dX7_restore_2 : decode cX7_restore 2 = .ok (.invokevirtual 286, 3) := by decide +kernel
theorem dX7_restore_5 : decode cX7_restore 5 = .ok (.astore_n 2, 1) := by decide +kernel
theorem dX7_restore_6 : decode cX7_restore 6 = .ok (.aload_n 2, 1) := by decide +kernel
theorem dX7_restore_7 : decode cX7_restore 7 = .ok (.ifnonnull 14, 3) := by decide +kernel
theorem dX7_restore_10 : decode cX7_restore 10 = .ok (.new 137, 3) := by decide +kernel
theorem dX7_restore_13 : decode cX7_restore 13 = .ok (.dup, 1) := by decide +kernel
theorem dX7_restore_14 : decode cX7_restore 14 = .ok (.ldc_w 290, 3) := by decide +kernel
theorem dX7_restore_17 : decode cX7_restore 17 = .ok (.invokespecial 141, 3) := by decide +kernel
theorem dX7_restore_20 : decode cX7_restore 20 = .ok (.athrow, 1) := by decide +kernel
theorem dX7_restore_21 : decode cX7_restore 21 = .ok (.aload_n 2, 1) := by decide +kernel
theorem dX7_restore_22 : decode cX7_restore 22 = .ok (.getfield 298, 3) := by decide +kernel
theorem dX7_restore_25 : decode cX7_restore 25 = .ok (.ifCond .ne 14, 3) := by decide +kernel
theorem dX7_restore_28 : decode cX7_restore 28 = .ok (.new 63, 3) := by decide +kernel
theorem dX7_restore_31 : decode cX7_restore 31 = .ok (.dup, 1) := by decide +kernel
theorem dX7_restore_32 : decode cX7_restore 32 = .ok (.ldc_w 301, 3) := by decide +kernel
theorem dX7_restore_35 : decode cX7_restore 35 = .ok (.invokespecial 67, 3) := by decide +kernel
theorem dX7_restore_38 : decode cX7_restore 38 = .ok (.athrow, 1) := by decide +kernel
theorem dX7_restore_39 : decode cX7_restore 39 = .ok (.aload_n 0, 1) := by decide +kernel
theorem dX7_restore_40 : decode cX7_restore 40 = .ok (.getfield 23, 3) := by decide +kernel
theorem dX7_restore_43 : decode cX7_restore 43 = .ok (.aload_n 2, 1) := by decide +kernel
theorem dX7_restore_44 : decode cX7_restore 44 = .ok (.getfield 303, 3) := by decide +kernel
theorem dX7_restore_47 : decode cX7_restore 47 = .ok (.invokevirtual 81, 3) := by decide +kernel
theorem dX7_restore_50 : decode cX7_restore 50 = .ok (.aload_n 0, 1) := by decide +kernel
theorem dX7_restore_51 : decode cX7_restore 51 = .ok (.getfield 32, 3) := by decide +kernel
theorem dX7_restore_54 : decode cX7_restore 54 = .ok (.invokevirtual 85, 3) := by decide +kernel
theorem dX7_restore_57 : decode cX7_restore 57 = .ok (.aload_n 0, 1) := by decide +kernel
theorem dX7_restore_58 : decode cX7_restore 58 = .ok (.getfield 23, 3) := by decide +kernel
theorem dX7_restore_61 : decode cX7_restore 61 = .ok (.getfield 295, 3) := by decide +kernel
theorem dX7_restore_64 : decode cX7_restore 64 = .ok (.ireturn, 1) := by decide +kernel
theorem dX7_slotAt_0 : decode cX7_slotAt 0 = .ok (.iload_n 1, 1) := by decide +kernel
theorem dX7_slotAt_1 : decode cX7_slotAt 1 = .ok (.ifCond .ne 8, 3) := by decide +kernel
theorem dX7_slotAt_4 : decode cX7_slotAt 4 = .ok (.aload_n 0, 1) := by decide +kernel
theorem dX7_slotAt_5 : decode cX7_slotAt 5 = .ok (.getfield 39, 3) := by decide +kernel
theorem dX7_slotAt_8 : decode cX7_slotAt 8 = .ok (.areturn, 1) := by decide +kernel
theorem dX7_slotAt_9 : decode cX7_slotAt 9 = .ok (.iload_n 1, 1) := by decide +kernel
theorem dX7_slotAt_10 : decode cX7_slotAt 10 = .ok (.iconst 1, 1) := by decide +kernel
theorem dX7_slotAt_11 : decode cX7_slotAt 11 = .ok (.if_icmp .ne 10, 3) := by decide +kernel
theorem dX7_slotAt_14 : decode cX7_slotAt 14 = .ok (.aload_n 0, 1) := by decide +kernel
theorem dX7_slotAt_15 : decode cX7_slotAt 15 = .ok (.getfield 43, 3) := by decide +kernel
theorem dX7_slotAt_18 : decode cX7_slotAt 18 = .ok (.goto 4, 3) := by decide +kernel
theorem dX7_slotAt_21 : decode cX7_slotAt 21 = .ok (.aconst_null, 1) := by decide +kernel
theorem dX7_slotAt_22 : decode cX7_slotAt 22 = .ok (.areturn, 1) := by decide +kernel
theorem dX8_init_0 : decode cX8_init 0 = .ok (.aload_n 0, 1) := by decide +kernel
theorem dX8_init_1 : decode cX8_init 1 = .ok (.invokespecial 1, 3) := by decide +kernel
theorem dX8_init_4 : decode cX8_init 4 = .ok (.aload_n 0, 1) := by decide +kernel
theorem dX8_init_5 : decode cX8_init 5 = .ok (.bipush 120, 2) := by decide +kernel
theorem dX8_init_7 : decode cX8_init 7 = .ok (.newarray .int, 2) := by decide +kernel
theorem dX8_init_9 : decode cX8_init 9 = .ok (.putfield 7, 3) := by decide +kernel
theorem dX8_init_12 : decode cX8_init 12 = .ok (.aload_n 0, 1) := by decide +kernel
theorem dX8_init_13 : decode cX8_init 13 = .ok (.bipush 64, 2) := by decide +kernel
theorem dX8_init_15 : decode cX8_init 15 = .ok (.newarray .int, 2) := by decide +kernel
theorem dX8_init_17 : decode cX8_init 17 = .ok (.putfield 13, 3) := by decide +kernel
theorem dX8_init_20 : decode cX8_init 20 = .ok (.aload_n 0, 1) := by decide +kernel
theorem dX8_init_21 : decode cX8_init 21 = .ok (.bipush 64, 2) := by decide +kernel
theorem dX8_init_23 : decode cX8_init 23 = .ok (.newarray .int, 2) := by decide +kernel
theorem dX8_init_25 : decode cX8_init 25 = .ok (.putfield 16, 3) := by decide +kernel
theorem dX8_init_28 : decode cX8_init 28 = .ok (.aload_n 0, 1) := by decide +kernel
theorem dX8_init_29 : decode cX8_init 29 = .ok (.sipush 896, 3) := by decide +kernel
theorem dX8_init_32 : decode cX8_init 32 = .ok (.newarray .int, 2) := by decide +kernel
theorem dX8_init_34 : decode cX8_init 34 = .ok (.putfield 19, 3) := by decide +kernel
theorem dX8_init_37 : decode cX8_init 37 = .ok (.aload_n 0, 1) := by decide +kernel
theorem dX8_init_38 : decode cX8_init 38 = .ok (.sipush 128, 3) := by decide +kernel
theorem dX8_init_41 : decode cX8_init 41 = .ok (.newarray .int, 2) := by decide +kernel
theorem dX8_init_43 : decode cX8_init 43 = .ok (.putfield 22, 3) := by decide +kernel
theorem dX8_init_46 : decode cX8_init 46 = .ok (.aload_n 0, 1) := by decide +kernel
theorem dX8_init_47 : decode cX8_init 47 = .ok (.iconst 2, 1) := by decide +kernel
theorem dX8_init_48 : decode cX8_init 48 = .ok (.newarray .boolean, 2) := by decide +kernel
theorem dX8_init_50 : decode cX8_init 50 = .ok (.putfield 25, 3) := by decide +kernel
theorem dX8_init_53 : decode cX8_init 53 = .ok (.aload_n 0, 1) := by decide +kernel
theorem dX8_init_54 : decode cX8_init 54 = .ok (.bipush 6, 2) := by decide +kernel
theorem dX8_init_56 : decode cX8_init 56 = .ok (.newarray .int, 2) := by decide +kernel
theorem dX8_init_58 : decode cX8_init 58 = .ok (.putfield 29, 3) := by decide +kernel
theorem dX8_init_61 : decode cX8_init 61 = .ok (.aload_n 0, 1) := by decide +kernel
theorem dX8_init_62 : decode cX8_init 62 = .ok (.getfield 13, 3) := by decide +kernel
theorem dX8_init_65 : decode cX8_init 65 = .ok (.invokestatic 32, 3) := by decide +kernel
theorem dX8_init_68 : decode cX8_init 68 = .ok (.return_, 1) := by decide +kernel
theorem dX8_thrown_0 : decode cX8_thrown 0 = .ok (.aload_n 0, 1) := by decide +kernel
theorem dX8_thrown_1 : decode cX8_thrown 1 = .ok (.getfield 36, 3) := by decide +kernel
theorem dX8_thrown_4 : decode cX8_thrown 4 = .ok (.ireturn, 1) := by decide +kernel
theorem dX8_refused_0 : decode cX8_refused 0 = .ok (.aload_n 0, 1) := by decide +kernel
theorem dX8_refused_1 : decode cX8_refused 1 = .ok (.iload_n 1, 1) := by decide +kernel
theorem dX8_refused_2 : decode cX8_refused 2 = .ok (.putfield 36, 3) := by decide +kernel
theorem dX8_refused_5 : decode cX8_refused 5 = .ok (.iload_n 1, 1) := by decide +kernel
theorem dX8_refused_6 : decode cX8_refused 6 = .ok (.ifCond .le 7, 3) := by decide +kernel
theorem dX8_refused_9 : decode cX8_refused 9 = .ok (.iconst 1, 1) := by decide +kernel
theorem dX8_refused_10 : decode cX8_refused 10 = .ok (.goto 4, 3) := by decide +kernel
theorem dX8_refused_13 : decode cX8_refused 13 = .ok (.iconst 0, 1) := by decide +kernel
theorem dX8_refused_14 : decode cX8_refused 14 = .ok (.ireturn, 1) := by decide +kernel
theorem dX8_in_0 : decode cX8_in 0 = .ok (.lload_n 0, 1) := by decide +kernel
theorem dX8_in_1 : decode cX8_in 1 = .ok (.lload_n 2, 1) := by decide +kernel
theorem dX8_in_2 : decode cX8_in 2 = .ok (.lcmp, 1) := by decide +kernel
theorem dX8_in_3 : decode cX8_in 3 = .ok (.ifCond .lt 14, 3) := by decide +kernel
theorem dX8_in_6 : decode cX8_in 6 = .ok (.lload_n 0, 1) := by decide +kernel
theorem dX8_in_7 : decode cX8_in 7 = .ok (.lload 4, 2) := by decide +kernel
theorem dX8_in_9 : decode cX8_in 9 = .ok (.lcmp, 1) := by decide +kernel
theorem dX8_in_10 : decode cX8_in 10 = .ok (.ifCond .gt 7, 3) := by decide +kernel
theorem dX8_in_13 : decode cX8_in 13 = .ok (.iconst 1, 1) := by decide +kernel
theorem dX8_in_14 : decode cX8_in 14 = .ok (.goto 4, 3) := by decide +kernel
theorem dX8_in_17 : decode cX8_in 17 = .ok (.iconst 0, 1) := by decide +kernel
theorem dX8_in_18 : decode cX8_in 18 = .ok (.ireturn, 1) := by decide +kernel
theorem dX8_copyState_0 : decode cX8_copyState 0 = .ok (.iconst 0, 1) := by decide +kernel
theorem dX8_copyState_1 : decode cX8_copyState 1 = .ok (.istore 4, 2) := by decide +kernel
theorem dX8_copyState_3 : decode cX8_copyState 3 = .ok (.iload 4, 2) := by decide +kernel
theorem dX8_copyState_5 : decode cX8_copyState 5 = .ok (.bipush 64, 2) := by decide +kernel
theorem dX8_copyState_7 : decode cX8_copyState 7 = .ok (.if_icmp .ge 21, 3) := by decide +kernel
theorem dX8_copyState_10 : decode cX8_copyState 10 = .ok (.aload_n 2, 1) := by decide +kernel
theorem dX8_copyState_11 : decode cX8_copyState 11 = .ok (.iload_n 3, 1) := by decide +kernel
theorem dX8_copyState_12 : decode cX8_copyState 12 = .ok (.iload 4, 2) := by decide +kernel
theorem dX8_copyState_14 : decode cX8_copyState 14 = .ok (.iadd, 1) := by decide +kernel
theorem dX8_copyState_15 : decode cX8_copyState 15 = .ok (.aload_n 0, 1) := by decide +kernel
theorem dX8_copyState_16 : decode cX8_copyState 16 = .ok (.iload_n 1, 1) := by decide +kernel
theorem dX8_copyState_17 : decode cX8_copyState 17 = .ok (.iload 4, 2) := by decide +kernel
theorem dX8_copyState_19 : decode cX8_copyState 19 = .ok (.iadd, 1) := by decide +kernel
theorem dX8_copyState_20 : decode cX8_copyState 20 = .ok (.iaload, 1) := by decide +kernel
theorem dX8_copyState_21 : decode cX8_copyState 21 = .ok (.iastore, 1) := by decide +kernel
theorem dX8_copyState_22 : decode cX8_copyState 22 = .ok (.iinc 4 1, 3) := by decide +kernel
theorem dX8_copyState_25 : decode cX8_copyState 25 = .ok (.goto (-22), 3) := by decide +kernel
theorem dX8_copyState_28 : decode cX8_copyState 28 = .ok (.return_, 1) := by decide +kernel
theorem dX8_clear_0 : decode cX8_clear 0 = .ok (.iconst 0, 1) := by decide +kernel
theorem dX8_clear_1 : decode cX8_clear 1 = .ok (.istore_n 1, 1) := by decide +kernel
theorem dX8_clear_2 : decode cX8_clear 2 = .ok (.iload_n 1, 1) := by decide +kernel
theorem dX8_clear_3 : decode cX8_clear 3 = .ok (.bipush 64, 2) := by decide +kernel
theorem dX8_clear_5 : decode cX8_clear 5 = .ok (.if_icmp .ge 13, 3) := by decide +kernel
theorem dX8_clear_8 : decode cX8_clear 8 = .ok (.aload_n 0, 1) := by decide +kernel
theorem dX8_clear_9 : decode cX8_clear 9 = .ok (.iload_n 1, 1) := by decide +kernel
theorem dX8_clear_10 : decode cX8_clear 10 = .ok (.iconst 0, 1) := by decide +kernel
theorem dX8_clear_11 : decode cX8_clear 11 = .ok (.iastore, 1) := by decide +kernel
theorem dX8_clear_12 : decode cX8_clear 12 = .ok (.iinc 1 1, 3) := by decide +kernel
theorem dX8_clear_15 : decode cX8_clear 15 = .ok (.goto (-13), 3) := by decide +kernel
theorem dX8_clear_18 : decode cX8_clear 18 = .ok (.aload_n 0, 1) := by decide +kernel
theorem dX8_clear_19 : decode cX8_clear 19 = .ok (.bipush 10, 2) := by decide +kernel
theorem dX8_clear_21 : decode cX8_clear 21 = .ok (.sipush 600, 3) := by decide +kernel
theorem dX8_clear_24 : decode cX8_clear 24 = .ok (.iastore, 1) := by decide +kernel
theorem dX8_clear_25 : decode cX8_clear 25 = .ok (.aload_n 0, 1) := by decide +kernel
theorem dX8_clear_26 : decode cX8_clear 26 = .ok (.bipush 12, 2) := by decide +kernel
theorem dX8_clear_28 : decode cX8_clear 28 = .ok (.bipush 10, 2) := by decide +kernel
theorem dX8_clear_30 : decode cX8_clear 30 = .ok (.iastore, 1) := by decide +kernel
theorem dX8_clear_31 : decode cX8_clear 31 = .ok (.aload_n 0, 1) := by decide +kernel
theorem dX8_clear_32 : decode cX8_clear 32 = .ok (.bipush 13, 2) := by decide +kernel
theorem dX8_clear_34 : decode cX8_clear 34 = .ok (.bipush 12, 2) := by decide +kernel
theorem dX8_clear_36 : decode cX8_clear 36 = .ok (.iastore, 1) := by decide +kernel
theorem dX8_clear_37 : decode cX8_clear 37 = .ok (.aload_n 0, 1) := by decide +kernel
theorem dX8_clear_38 : decode cX8_clear 38 = .ok (.bipush 14, 2) := by decide +kernel
theorem dX8_clear_40 : decode cX8_clear 40 = .ok (.bipush 30, 2) := by decide +kernel
theorem dX8_clear_42 : decode cX8_clear 42 = .ok (.iastore, 1) := by decide +kernel
theorem dX8_clear_43 : decode cX8_clear 43 = .ok (.aload_n 0, 1) := by decide +kernel
theorem dX8_clear_44 : decode cX8_clear 44 = .ok (.bipush 15, 2) := by decide +kernel
theorem dX8_clear_46 : decode cX8_clear 46 = .ok (.bipush 6, 2) := by decide +kernel
theorem dX8_clear_48 : decode cX8_clear 48 = .ok (.iastore, 1) := by decide +kernel
theorem dX8_clear_49 : decode cX8_clear 49 = .ok (.return_, 1) := by decide +kernel
theorem dX8_isRoom_0 : decode cX8_isRoom 0 = .ok (.iload_n 1, 1) := by decide +kernel
theorem dX8_isRoom_1 : decode cX8_isRoom 1 = .ok (.i2l, 1) := by decide +kernel
theorem dX8_isRoom_2 : decode cX8_isRoom 2 = .ok (.lconst 0, 1) := by decide +kernel
theorem dX8_isRoom_3 : decode cX8_isRoom 3 = .ok (.aload_n 0, 1) := by decide +kernel
theorem dX8_isRoom_4 : decode cX8_isRoom 4 = .ok (.iconst 0, 1) := by decide +kernel
theorem dX8_isRoom_5 : decode cX8_isRoom 5 = .ok (.iaload, 1) := by decide +kernel
theorem dX8_isRoom_6 : decode cX8_isRoom 6 = .ok (.iconst 1, 1) := by decide +kernel
theorem dX8_isRoom_7 : decode cX8_isRoom 7 = .ok (.isub, 1) := by decide +kernel
theorem dX8_isRoom_8 : decode cX8_isRoom 8 = .ok (.i2l, 1) := by decide +kernel
theorem dX8_isRoom_9 : decode cX8_isRoom 9 = .ok (.invokestatic 40, 3) := by decide +kernel
theorem dX8_isRoom_12 : decode cX8_isRoom 12 = .ok (.ireturn, 1) := by decide +kernel
theorem dX8_of_0 : decode cX8_of 0 = .ok (.aload_n 0, 1) := by decide +kernel
theorem dX8_of_1 : decode cX8_of 1 = .ok (.bipush 16, 2) := by decide +kernel
theorem dX8_of_3 : decode cX8_of 3 = .ok (.bipush 8, 2) := by decide +kernel
theorem dX8_of_5 : decode cX8_of 5 = .ok (.iload_n 1, 1) := by decide +kernel
theorem dX8_of_6 : decode cX8_of 6 = .ok (.imul, 1) := by decide +kernel
theorem dX8_of_7 : decode cX8_of 7 = .ok (.iadd, 1) := by decide +kernel
theorem dX8_of_8 : decode cX8_of 8 = .ok (.iload_n 2, 1) := by decide +kernel
theorem dX8_of_9 : decode cX8_of 9 = .ok (.iadd, 1) := by decide +kernel
theorem dX8_of_10 : decode cX8_of 10 = .ok (.iaload, 1) := by decide +kernel
theorem dX8_of_11 : decode cX8_of 11 = .ok (.ireturn, 1) := by decide +kernel
theorem dX8_lay_0 : decode cX8_lay 0 = .ok (.aload_n 0, 1) := by decide +kernel
theorem dX8_lay_1 : decode cX8_lay 1 = .ok (.bipush 16, 2) := by decide +kernel
theorem dX8_lay_3 : decode cX8_lay 3 = .ok (.bipush 8, 2) := by decide +kernel
theorem dX8_lay_5 : decode cX8_lay 5 = .ok (.iload_n 1, 1) := by decide +kernel
theorem dX8_lay_6 : decode cX8_lay 6 = .ok (.imul, 1) := by decide +kernel
theorem dX8_lay_7 : decode cX8_lay 7 = .ok (.iadd, 1) := by decide +kernel
theorem dX8_lay_8 : decode cX8_lay 8 = .ok (.iload_n 2, 1) := by decide +kernel
theorem dX8_lay_9 : decode cX8_lay 9 = .ok (.iadd, 1) := by decide +kernel
theorem dX8_lay_10 : decode cX8_lay 10 = .ok (.iload_n 3, 1) := by decide +kernel
theorem dX8_lay_11 : decode cX8_lay 11 = .ok (.iastore, 1) := by decide +kernel
theorem dX8_lay_12 : decode cX8_lay 12 = .ok (.return_, 1) := by decide +kernel
theorem dX8_isWarm_0 : decode cX8_isWarm 0 = .ok (.aload_n 0, 1) := by decide +kernel
theorem dX8_isWarm_1 : decode cX8_isWarm 1 = .ok (.iload_n 1, 1) := by decide +kernel
theorem dX8_isWarm_2 : decode cX8_isWarm 2 = .ok (.iconst 3, 1) := by decide +kernel
theorem dX8_isWarm_3 : decode cX8_isWarm 3 = .ok (.invokestatic 44, 3) := by decide +kernel
theorem dX8_isWarm_6 : decode cX8_isWarm 6 = .ok (.aload_n 0, 1) := by decide +kernel
theorem dX8_isWarm_7 : decode cX8_isWarm 7 = .ok (.iload_n 1, 1) := by decide +kernel
theorem dX8_isWarm_8 : decode cX8_isWarm 8 = .ok (.iconst 2, 1) := by decide +kernel
theorem dX8_isWarm_9 : decode cX8_isWarm 9 = .ok (.invokestatic 44, 3) := by decide +kernel
theorem dX8_isWarm_12 : decode cX8_isWarm 12 = .ok (.if_icmp .lt 7, 3) := by decide +kernel
theorem dX8_isWarm_15 : decode cX8_isWarm 15 = .ok (.iconst 1, 1) := by decide +kernel
theorem dX8_isWarm_16 : decode cX8_isWarm 16 = .ok (.goto 4, 3) := by decide +kernel
theorem dX8_isWarm_19 : decode cX8_isWarm 19 = .ok (.iconst 0, 1) := by decide +kernel
theorem dX8_isWarm_20 : decode cX8_isWarm 20 = .ok (.ireturn, 1) := by decide +kernel
theorem dX8_over_0 : decode cX8_over 0 = .ok (.aload_n 0, 1) := by decide +kernel
theorem dX8_over_1 : decode cX8_over 1 = .ok (.iload_n 1, 1) := by decide +kernel
theorem dX8_over_2 : decode cX8_over 2 = .ok (.iconst 3, 1) := by decide +kernel
theorem dX8_over_3 : decode cX8_over 3 = .ok (.invokestatic 44, 3) := by decide +kernel
theorem dX8_over_6 : decode cX8_over 6 = .ok (.aload_n 0, 1) := by decide +kernel
theorem dX8_over_7 : decode cX8_over 7 = .ok (.iload_n 1, 1) := by decide +kernel
theorem dX8_over_8 : decode cX8_over 8 = .ok (.iconst 1, 1) := by decide +kernel
theorem dX8_over_9 : decode cX8_over 9 = .ok (.invokestatic 44, 3) := by decide +kernel
theorem dX8_over_12 : decode cX8_over 12 = .ok (.isub, 1) := by decide +kernel
theorem dX8_over_13 : decode cX8_over 13 = .ok (.ireturn, 1) := by decide +kernel
theorem dX8_minutesLeft_0 : decode cX8_minutesLeft 0 = .ok (.bipush 15, 2) := by decide +kernel
theorem dX8_minutesLeft_2 : decode cX8_minutesLeft 2 = .ok (.aload_n 0, 1) := by decide +kernel
theorem dX8_minutesLeft_3 : decode cX8_minutesLeft 3 = .ok (.iconst 1, 1) := by decide +kernel
theorem dX8_minutesLeft_4 : decode cX8_minutesLeft 4 = .ok (.iaload, 1) := by decide +kernel
theorem dX8_minutesLeft_5 : decode cX8_minutesLeft 5 = .ok (.aload_n 0, 1) := by decide +kernel
theorem dX8_minutesLeft_6 : decode cX8_minutesLeft 6 = .ok (.bipush 11, 2) := by decide +kernel
theorem dX8_minutesLeft_8 : decode cX8_minutesLeft 8 = .ok (.iaload, 1) := by decide +kernel
theorem dX8_minutesLeft_9 : decode cX8_minutesLeft 9 = .ok (.iadd, 1) := by decide +kernel
theorem dX8_minutesLeft_10 : decode cX8_minutesLeft 10 = .ok (.bipush 15, 2) := by decide +kernel
theorem dX8_minutesLeft_12 : decode cX8_minutesLeft 12 = .ok (.irem, 1) := by decide +kernel
theorem dX8_minutesLeft_13 : decode cX8_minutesLeft 13 = .ok (.isub, 1) := by decide +kernel
theorem dX8_minutesLeft_14 : decode cX8_minutesLeft 14 = .ok (.ireturn, 1) := by decide +kernel
theorem dX8_fits_0 : decode cX8_fits 0 = .ok (.aload_n 1, 1) := by decide +kernel
theorem dX8_fits_1 : decode cX8_fits 1 = .ok (.iconst 2, 1) := by decide +kernel
theorem dX8_fits_2 : decode cX8_fits 2 = .ok (.iaload, 1) := by decide +kernel
theorem dX8_fits_3 : decode cX8_fits 3 = .ok (.iload_n 2, 1) := by decide +kernel
theorem dX8_fits_4 : decode cX8_fits 4 = .ok (.aload_n 0, 1) := by decide +kernel
theorem dX8_fits_5 : decode cX8_fits 5 = .ok (.getfield 48, 3) := by decide +kernel
theorem dX8_fits_8 : decode cX8_fits 8 = .ok (.iadd, 1) := by decide +kernel
theorem dX8_fits_9 : decode cX8_fits 9 = .ok (.aload_n 1, 1) := by decide +kernel
theorem dX8_fits_10 : decode cX8_fits 10 = .ok (.bipush 12, 2) := by decide +kernel
theorem dX8_fits_12 : decode cX8_fits 12 = .ok (.iaload, 1) := by decide +kernel
theorem dX8_fits_13 : decode cX8_fits 13 = .ok (.iadd, 1) := by decide +kernel
theorem dX8_fits_14 : decode cX8_fits 14 = .ok (.aload_n 1, 1) := by decide +kernel
theorem dX8_fits_15 : decode cX8_fits 15 = .ok (.invokestatic 51, 3) := by decide +kernel
theorem dX8_fits_18 : decode cX8_fits 18 = .ok (.imul, 1) := by decide +kernel
theorem dX8_fits_19 : decode cX8_fits 19 = .ok (.iadd, 1) := by decide +kernel
theorem dX8_fits_20 : decode cX8_fits 20 = .ok (.aload_n 1, 1) := by decide +kernel
theorem dX8_fits_21 : decode cX8_fits 21 = .ok (.bipush 10, 2) := by decide +kernel
theorem dX8_fits_23 : decode cX8_fits 23 = .ok (.iaload, 1) := by decide +kernel
theorem dX8_fits_24 : decode cX8_fits 24 = .ok (.if_icmp .gt 7, 3) := by decide +kernel
theorem dX8_fits_27 : decode cX8_fits 27 = .ok (.iconst 1, 1) := by decide +kernel
theorem dX8_fits_28 : decode cX8_fits 28 = .ok (.goto 4, 3) := by decide +kernel
theorem dX8_fits_31 : decode cX8_fits 31 = .ok (.iconst 0, 1) := by decide +kernel
theorem dX8_fits_32 : decode cX8_fits 32 = .ok (.ireturn, 1) := by decide +kernel
theorem dX8_measure_0 : decode cX8_measure 0 = .ok (.iload_n 1, 1) := by decide +kernel
theorem dX8_measure_1 : decode cX8_measure 1 = .ok (.aload_n 0, 1) := by decide +kernel
theorem dX8_measure_2 : decode cX8_measure 2 = .ok (.bipush 12, 2) := by decide +kernel
theorem dX8_measure_4 : decode cX8_measure 4 = .ok (.iaload, 1) := by decide +kernel
theorem dX8_measure_5 : decode cX8_measure 5 = .ok (.iadd, 1) := by decide +kernel
theorem dX8_measure_6 : decode cX8_measure 6 = .ok (.istore_n 2, 1) := by decide +kernel
theorem dX8_measure_7 : decode cX8_measure 7 = .ok (.aload_n 0, 1) := by decide +kernel
theorem dX8_measure_8 : decode cX8_measure 8 = .ok (.invokestatic 51, 3) := by decide +kernel
theorem dX8_measure_11 : decode cX8_measure 11 = .ok (.iconst 1, 1) := by decide +kernel
theorem dX8_measure_12 : decode cX8_measure 12 = .ok (.if_icmp .ne 7, 3) := by decide +kernel
theorem dX8_measure_15 : decode cX8_measure 15 = .ok (.iconst 1, 1) := by decide +kernel
theorem dX8_measure_16 : decode cX8_measure 16 = .ok (.goto 4, 3) := by decide +kernel
theorem dX8_measure_19 : decode cX8_measure 19 = .ok (.iconst 0, 1) := by decide +kernel
theorem dX8_measure_20 : decode cX8_measure 20 = .ok (.istore_n 3, 1) := by decide +kernel
theorem dX8_measure_21 : decode cX8_measure 21 = .ok (.aload_n 0, 1) := by decide +kernel
theorem dX8_measure_22 : decode cX8_measure 22 = .ok (.iconst 2, 1) := by decide +kernel
theorem dX8_measure_23 : decode cX8_measure 23 = .ok (.dup2, 1) := by decide +kernel
theorem dX8_measure_24 : decode cX8_measure 24 = .ok (.iaload, 1) := by decide +kernel
theorem dX8_measure_25 : decode cX8_measure 25 = .ok (.iload_n 2, 1) := by decide +kernel
theorem dX8_measure_26 : decode cX8_measure 26 = .ok (.iadd, 1) := by decide +kernel
theorem dX8_measure_27 : decode cX8_measure 27 = .ok (.iastore, 1) := by decide +kernel
theorem dX8_measure_28 : decode cX8_measure 28 = .ok (.aload_n 0, 1) := by decide +kernel
theorem dX8_measure_29 : decode cX8_measure 29 = .ok (.iconst 5, 1) := by decide +kernel
theorem dX8_measure_30 : decode cX8_measure 30 = .ok (.dup2, 1) := by decide +kernel
theorem dX8_measure_31 : decode cX8_measure 31 = .ok (.iaload, 1) := by decide +kernel
theorem dX8_measure_32 : decode cX8_measure 32 = .ok (.iload_n 2, 1) := by decide +kernel
theorem dX8_measure_33 : decode cX8_measure 33 = .ok (.iadd, 1) := by decide +kernel
theorem dX8_measure_34 : decode cX8_measure 34 = .ok (.iastore, 1) := by decide +kernel
theorem dX8_measure_35 : decode cX8_measure 35 = .ok (.aload_n 0, 1) := by decide +kernel
theorem dX8_measure_36 : decode cX8_measure 36 = .ok (.iconst 1, 1) := by decide +kernel
theorem dX8_measure_37 : decode cX8_measure 37 = .ok (.dup2, 1) := by decide +kernel
theorem dX8_measure_38 : decode cX8_measure 38 = .ok (.iaload, 1) := by decide +kernel
theorem dX8_measure_39 : decode cX8_measure 39 = .ok (.iconst 1, 1) := by decide +kernel
theorem dX8_measure_40 : decode cX8_measure 40 = .ok (.iadd, 1) := by decide +kernel
theorem dX8_measure_41 : decode cX8_measure 41 = .ok (.iastore, 1) := by decide +kernel
theorem dX8_measure_42 : decode cX8_measure 42 = .ok (.iload_n 3, 1) := by decide +kernel
theorem dX8_measure_43 : decode cX8_measure 43 = .ok (.ifCond .eq 49, 3) := by decide +kernel
theorem dX8_measure_46 : decode cX8_measure 46 = .ok (.aload_n 0, 1) := by decide +kernel
theorem dX8_measure_47 : decode cX8_measure 47 = .ok (.iconst 3, 1) := by decide +kernel
theorem dX8_measure_48 : decode cX8_measure 48 = .ok (.dup2, 1) := by decide +kernel
theorem dX8_measure_49 : decode cX8_measure 49 = .ok (.iaload, 1) := by decide +kernel
theorem dX8_measure_50 : decode cX8_measure 50 = .ok (.aload_n 0, 1) := by decide +kernel
theorem dX8_measure_51 : decode cX8_measure 51 = .ok (.iconst 2, 1) := by decide +kernel
theorem dX8_measure_52 : decode cX8_measure 52 = .ok (.iaload, 1) := by decide +kernel
theorem dX8_measure_53 : decode cX8_measure 53 = .ok (.aload_n 0, 1) := by decide +kernel
theorem dX8_measure_54 : decode cX8_measure 54 = .ok (.bipush 10, 2) := by decide +kernel
theorem dX8_measure_56 : decode cX8_measure 56 = .ok (.iaload, 1) := by decide +kernel
theorem dX8_measure_57 : decode cX8_measure 57 = .ok (.if_icmp .le 7, 3) := by decide +kernel
theorem dX8_measure_60 : decode cX8_measure 60 = .ok (.iconst 1, 1) := by decide +kernel
theorem dX8_measure_61 : decode cX8_measure 61 = .ok (.goto 4, 3) := by decide +kernel
theorem dX8_measure_64 : decode cX8_measure 64 = .ok (.iconst 0, 1) := by decide +kernel
theorem dX8_measure_65 : decode cX8_measure 65 = .ok (.iadd, 1) := by decide +kernel
theorem dX8_measure_66 : decode cX8_measure 66 = .ok (.iastore, 1) := by decide +kernel
theorem dX8_measure_67 : decode cX8_measure 67 = .ok (.aload_n 0, 1) := by decide +kernel
theorem dX8_measure_68 : decode cX8_measure 68 = .ok (.iconst 4, 1) := by decide +kernel
theorem dX8_measure_69 : decode cX8_measure 69 = .ok (.aload_n 0, 1) := by decide +kernel
theorem dX8_measure_70 : decode cX8_measure 70 = .ok (.iconst 2, 1) := by decide +kernel
theorem dX8_measure_71 : decode cX8_measure 71 = .ok (.iaload, 1) := by decide +kernel
theorem dX8_measure_72 : decode cX8_measure 72 = .ok (.aload_n 0, 1) := by decide +kernel
theorem dX8_measure_73 : decode cX8_measure 73 = .ok (.iconst 4, 1) := by decide +kernel
theorem dX8_measure_74 : decode cX8_measure 74 = .ok (.iaload, 1) := by decide +kernel
theorem dX8_measure_75 : decode cX8_measure 75 = .ok (.if_icmp .le 9, 3) := by decide +kernel
theorem dX8_measure_78 : decode cX8_measure 78 = .ok (.aload_n 0, 1) := by decide +kernel
theorem dX8_measure_79 : decode cX8_measure 79 = .ok (.iconst 2, 1) := by decide +kernel
theorem dX8_measure_80 : decode cX8_measure 80 = .ok (.iaload, 1) := by decide +kernel
theorem dX8_measure_81 : decode cX8_measure 81 = .ok (.goto 6, 3) := by decide +kernel
theorem dX8_measure_84 : decode cX8_measure 84 = .ok (.aload_n 0, 1) := by decide +kernel
theorem dX8_measure_85 : decode cX8_measure 85 = .ok (.iconst 4, 1) := by decide +kernel
theorem dX8_measure_86 : decode cX8_measure 86 = .ok (.iaload, 1) := by decide +kernel
theorem dX8_measure_87 : decode cX8_measure 87 = .ok (.iastore, 1) := by decide +kernel
theorem dX8_measure_88 : decode cX8_measure 88 = .ok (.aload_n 0, 1) := by decide +kernel
theorem dX8_measure_89 : decode cX8_measure 89 = .ok (.iconst 2, 1) := by decide +kernel
theorem dX8_measure_90 : decode cX8_measure 90 = .ok (.iconst 0, 1) := by decide +kernel
theorem dX8_measure_91 : decode cX8_measure 91 = .ok (.iastore, 1) := by decide +kernel
theorem dX8_measure_92 : decode cX8_measure 92 = .ok (.return_, 1) := by decide +kernel
theorem dX8_must_0 : decode cX8_must 0 = .ok (.iconst 0, 1) := by decide +kernel
theorem dX8_must_1 : decode cX8_must 1 = .ok (.istore_n 2, 1) := by decide +kernel
theorem dX8_must_2 : decode cX8_must 2 = .ok (.iload_n 2, 1) := by decide +kernel
theorem dX8_must_3 : decode cX8_must 3 = .ok (.aload_n 1, 1) := by decide +kernel
theorem dX8_must_4 : decode cX8_must 4 = .ok (.iconst 0, 1) := by decide +kernel
theorem dX8_must_5 : decode cX8_must 5 = .ok (.iaload, 1) := by decide +kernel
theorem dX8_must_6 : decode cX8_must 6 = .ok (.if_icmp .ge 115, 3) := by decide +kernel
theorem dX8_must_9 : decode cX8_must 9 = .ok (.aload_n 1, 1) := by decide +kernel
theorem dX8_must_10 : decode cX8_must 10 = .ok (.iload_n 2, 1) := by decide +kernel
theorem dX8_must_11 : decode cX8_must 11 = .ok (.bipush 6, 2) := by decide +kernel
theorem dX8_must_13 : decode cX8_must 13 = .ok (.invokestatic 44, 3) := by decide +kernel
theorem dX8_must_16 : decode cX8_must 16 = .ok (.ifCond .le 7, 3) := by decide +kernel
theorem dX8_must_19 : decode cX8_must 19 = .ok (.iconst 1, 1) := by decide +kernel
theorem dX8_must_20 : decode cX8_must 20 = .ok (.goto 4, 3) := by decide +kernel
theorem dX8_must_23 : decode cX8_must 23 = .ok (.iconst 0, 1) := by decide +kernel
theorem dX8_must_24 : decode cX8_must 24 = .ok (.istore_n 3, 1) := by decide +kernel
theorem dX8_must_25 : decode cX8_must 25 = .ok (.aload_n 0, 1) := by decide +kernel
theorem dX8_must_26 : decode cX8_must 26 = .ok (.getfield 29, 3) := by decide +kernel
theorem dX8_must_29 : decode cX8_must 29 = .ok (.iload_n 2, 1) := by decide +kernel
theorem dX8_must_30 : decode cX8_must 30 = .ok (.iload_n 3, 1) := by decide +kernel
theorem dX8_must_31 : decode cX8_must 31 = .ok (.ifCond .eq 7, 3) := by decide +kernel
theorem dX8_must_34 : decode cX8_must 34 = .ok (.iconst 0, 1) := by decide +kernel
theorem dX8_must_35 : decode cX8_must 35 = .ok (.goto 32, 3) := by decide +kernel
theorem dX8_must_38 : decode cX8_must 38 = .ok (.aload_n 1, 1) := by decide +kernel
theorem dX8_must_39 : decode cX8_must 39 = .ok (.iload_n 2, 1) := by decide +kernel
theorem dX8_must_40 : decode cX8_must 40 = .ok (.invokestatic 55, 3) := by decide +kernel
theorem dX8_must_43 : decode cX8_must 43 = .ok (.ifCond .eq 7, 3) := by decide +kernel
theorem dX8_must_46 : decode cX8_must 46 = .ok (.iconst 1, 1) := by decide +kernel
theorem dX8_must_47 : decode cX8_must 47 = .ok (.goto 20, 3) := by decide +kernel
theorem dX8_must_50 : decode cX8_must 50 = .ok (.aload_n 1, 1) := by decide +kernel
theorem dX8_must_51 : decode cX8_must 51 = .ok (.iload_n 2, 1) := by decide +kernel
theorem dX8_must_52 : decode cX8_must 52 = .ok (.iconst 5, 1) := by decide +kernel
theorem dX8_must_53 : decode cX8_must 53 = .ok (.invokestatic 44, 3) := by decide +kernel
theorem dX8_must_56 : decode cX8_must 56 = .ok (.bipush 100, 2) := by decide +kernel
theorem dX8_must_58 : decode cX8_must 58 = .ok (.if_icmp .ne 7, 3) := by decide +kernel
theorem dX8_must_61 : decode cX8_must 61 = .ok (.iconst 2, 1) := by decide +kernel
theorem dX8_must_62 : decode cX8_must 62 = .ok (.goto 5, 3) := by decide +kernel
theorem dX8_must_65 : decode cX8_must 65 = .ok (.bipush 8, 2) := by decide +kernel
theorem dX8_must_67 : decode cX8_must 67 = .ok (.iastore, 1) := by decide +kernel
theorem dX8_must_68 : decode cX8_must 68 = .ok (.aload_n 0, 1) := by decide +kernel
theorem dX8_must_69 : decode cX8_must 69 = .ok (.dup, 1) := by decide +kernel
theorem dX8_must_70 : decode cX8_must 70 = .ok (.getfield 48, 3) := by decide +kernel
theorem dX8_must_73 : decode cX8_must 73 = .ok (.aload_n 0, 1) := by decide +kernel
theorem dX8_must_74 : decode cX8_must 74 = .ok (.getfield 29, 3) := by decide +kernel
theorem dX8_must_77 : decode cX8_must 77 = .ok (.iload_n 2, 1) := by decide +kernel
theorem dX8_must_78 : decode cX8_must 78 = .ok (.iaload, 1) := by decide +kernel
theorem dX8_must_79 : decode cX8_must 79 = .ok (.bipush 8, 2) := by decide +kernel
theorem dX8_must_81 : decode cX8_must 81 = .ok (.if_icmp .ne 7, 3) := by decide +kernel
theorem dX8_must_84 : decode cX8_must 84 = .ok (.iconst 0, 1) := by decide +kernel
theorem dX8_must_85 : decode cX8_must 85 = .ok (.goto 26, 3) := by decide +kernel
theorem dX8_must_88 : decode cX8_must 88 = .ok (.aload_n 0, 1) := by decide +kernel
theorem dX8_must_89 : decode cX8_must 89 = .ok (.getfield 29, 3) := by decide +kernel
theorem dX8_must_92 : decode cX8_must 92 = .ok (.iload_n 2, 1) := by decide +kernel
theorem dX8_must_93 : decode cX8_must 93 = .ok (.iaload, 1) := by decide +kernel
theorem dX8_must_94 : decode cX8_must 94 = .ok (.iconst 1, 1) := by decide +kernel
theorem dX8_must_95 : decode cX8_must 95 = .ok (.if_icmp .ne 12, 3) := by decide +kernel
theorem dX8_must_98 : decode cX8_must 98 = .ok (.aload_n 1, 1) := by decide +kernel
theorem dX8_must_99 : decode cX8_must 99 = .ok (.iload_n 2, 1) := by decide +kernel
theorem dX8_must_100 : decode cX8_must 100 = .ok (.iconst 0, 1) := by decide +kernel
theorem dX8_must_101 : decode cX8_must 101 = .ok (.invokestatic 44, 3) := by decide +kernel
theorem dX8_must_104 : decode cX8_must 104 = .ok (.goto 7, 3) := by decide +kernel
theorem dX8_must_107 : decode cX8_must 107 = .ok (.aload_n 1, 1) := by decide +kernel
theorem dX8_must_108 : decode cX8_must 108 = .ok (.bipush 13, 2) := by decide +kernel
theorem dX8_must_110 : decode cX8_must 110 = .ok (.iaload, 1) := by decide +kernel
theorem dX8_must_111 : decode cX8_must 111 = .ok (.iadd, 1) := by decide +kernel
theorem dX8_must_112 : decode cX8_must 112 = .ok (.putfield 48, 3) := by decide +kernel
theorem dX8_must_115 : decode cX8_must 115 = .ok (.iinc 2 1, 3) := by decide +kernel
theorem dX8_must_118 : decode cX8_must 118 = .ok (.goto (-116), 3) := by decide +kernel
theorem dX8_must_121 : decode cX8_must 121 = .ok (.return_, 1) := by decide +kernel
theorem dX8_nextWarm_0 : decode cX8_nextWarm 0 = .ok (.iconst (-1), 1) := by decide +kernel
theorem dX8_nextWarm_1 : decode cX8_nextWarm 1 = .ok (.istore_n 2, 1) := by decide +kernel
theorem dX8_nextWarm_2 : decode cX8_nextWarm 2 = .ok (.iconst 0, 1) := by decide +kernel
theorem dX8_nextWarm_3 : decode cX8_nextWarm 3 = .ok (.istore_n 3, 1) := by decide +kernel
theorem dX8_nextWarm_4 : decode cX8_nextWarm 4 = .ok (.iload_n 3, 1) := by decide +kernel
theorem dX8_nextWarm_5 : decode cX8_nextWarm 5 = .ok (.aload_n 1, 1) := by decide +kernel
theorem dX8_nextWarm_6 : decode cX8_nextWarm 6 = .ok (.iconst 0, 1) := by decide +kernel
theorem dX8_nextWarm_7 : decode cX8_nextWarm 7 = .ok (.iaload, 1) := by decide +kernel
theorem dX8_nextWarm_8 : decode cX8_nextWarm 8 = .ok (.if_icmp .ge 64, 3) := by decide +kernel
theorem dX8_nextWarm_11 : decode cX8_nextWarm 11 = .ok (.aload_n 0, 1) := by decide +kernel
theorem dX8_nextWarm_12 : decode cX8_nextWarm 12 = .ok (.getfield 29, 3) := by decide +kernel
theorem dX8_nextWarm_15 : decode cX8_nextWarm 15 = .ok (.iload_n 3, 1) := by decide +kernel
theorem dX8_nextWarm_16 : decode cX8_nextWarm 16 = .ok (.iaload, 1) := by decide +kernel
theorem dX8_nextWarm_17 : decode cX8_nextWarm 17 = .ok (.bipush 8, 2) := by decide +kernel
theorem dX8_nextWarm_19 : decode cX8_nextWarm 19 = .ok (.if_icmp .ne 15, 3) := by decide +kernel
theorem dX8_nextWarm_22 : decode cX8_nextWarm 22 = .ok (.aload_n 1, 1) := by decide +kernel
theorem dX8_nextWarm_23 : decode cX8_nextWarm 23 = .ok (.iload_n 3, 1) := by decide +kernel
theorem dX8_nextWarm_24 : decode cX8_nextWarm 24 = .ok (.invokestatic 59, 3) := by decide +kernel
theorem dX8_nextWarm_27 : decode cX8_nextWarm 27 = .ok (.ifCond .le 7, 3) := by decide +kernel
theorem dX8_nextWarm_30 : decode cX8_nextWarm 30 = .ok (.iconst 1, 1) := by decide +kernel
theorem dX8_nextWarm_31 : decode cX8_nextWarm 31 = .ok (.goto 4, 3) := by decide +kernel
theorem dX8_nextWarm_34 : decode cX8_nextWarm 34 = .ok (.iconst 0, 1) := by decide +kernel
theorem dX8_nextWarm_35 : decode cX8_nextWarm 35 = .ok (.istore 4, 2) := by decide +kernel
theorem dX8_nextWarm_37 : decode cX8_nextWarm 37 = .ok (.iload 4, 2) := by decide +kernel
theorem dX8_nextWarm_39 : decode cX8_nextWarm 39 = .ok (.ifCond .eq 25, 3) := by decide +kernel
theorem dX8_nextWarm_42 : decode cX8_nextWarm 42 = .ok (.iload_n 2, 1) := by decide +kernel
theorem dX8_nextWarm_43 : decode cX8_nextWarm 43 = .ok (.iconst (-1), 1) := by decide +kernel
theorem dX8_nextWarm_44 : decode cX8_nextWarm 44 = .ok (.if_icmp .eq 16, 3) := by decide +kernel
theorem dX8_nextWarm_47 : decode cX8_nextWarm 47 = .ok (.aload_n 1, 1) := by decide +kernel
theorem dX8_nextWarm_48 : decode cX8_nextWarm 48 = .ok (.iload_n 3, 1) := by decide +kernel
theorem dX8_nextWarm_49 : decode cX8_nextWarm 49 = .ok (.invokestatic 59, 3) := by decide +kernel
theorem dX8_nextWarm_52 : decode cX8_nextWarm 52 = .ok (.aload_n 1, 1) := by decide +kernel
theorem dX8_nextWarm_53 : decode cX8_nextWarm 53 = .ok (.iload_n 2, 1) := by decide +kernel
theorem dX8_nextWarm_54 : decode cX8_nextWarm 54 = .ok (.invokestatic 59, 3) := by decide +kernel
theorem dX8_nextWarm_57 : decode cX8_nextWarm 57 = .ok (.if_icmp .le 7, 3) := by decide +kernel
theorem dX8_nextWarm_60 : decode cX8_nextWarm 60 = .ok (.iload_n 3, 1) := by decide +kernel
theorem dX8_nextWarm_61 : decode cX8_nextWarm 61 = .ok (.goto 4, 3) := by decide +kernel
theorem dX8_nextWarm_64 : decode cX8_nextWarm 64 = .ok (.iload_n 2, 1) := by decide +kernel
theorem dX8_nextWarm_65 : decode cX8_nextWarm 65 = .ok (.istore_n 2, 1) := by decide +kernel
theorem dX8_nextWarm_66 : decode cX8_nextWarm 66 = .ok (.iinc 3 1, 3) := by decide +kernel
theorem dX8_nextWarm_69 : decode cX8_nextWarm 69 = .ok (.goto (-65), 3) := by decide +kernel
theorem dX8_nextWarm_72 : decode cX8_nextWarm 72 = .ok (.iload_n 2, 1) := by decide +kernel
theorem dX8_nextWarm_73 : decode cX8_nextWarm 73 = .ok (.ireturn, 1) := by decide +kernel
theorem dX8_nextFrost_0 : decode cX8_nextFrost 0 = .ok (.iconst (-1), 1) := by decide +kernel
theorem dX8_nextFrost_1 : decode cX8_nextFrost 1 = .ok (.istore_n 2, 1) := by decide +kernel
theorem dX8_nextFrost_2 : decode cX8_nextFrost 2 = .ok (.iconst 0, 1) := by decide +kernel
theorem dX8_nextFrost_3 : decode cX8_nextFrost 3 = .ok (.istore_n 3, 1) := by decide +kernel
theorem dX8_nextFrost_4 : decode cX8_nextFrost 4 = .ok (.iload_n 3, 1) := by decide +kernel
theorem dX8_nextFrost_5 : decode cX8_nextFrost 5 = .ok (.aload_n 1, 1) := by decide +kernel
theorem dX8_nextFrost_6 : decode cX8_nextFrost 6 = .ok (.iconst 0, 1) := by decide +kernel
theorem dX8_nextFrost_7 : decode cX8_nextFrost 7 = .ok (.iaload, 1) := by decide +kernel
theorem dX8_nextFrost_8 : decode cX8_nextFrost 8 = .ok (.if_icmp .ge 71, 3) := by decide +kernel
theorem dX8_nextFrost_11 : decode cX8_nextFrost 11 = .ok (.aload_n 0, 1) := by decide +kernel
theorem dX8_nextFrost_12 : decode cX8_nextFrost 12 = .ok (.getfield 29, 3) := by decide +kernel
theorem dX8_nextFrost_15 : decode cX8_nextFrost 15 = .ok (.iload_n 3, 1) := by decide +kernel
theorem dX8_nextFrost_16 : decode cX8_nextFrost 16 = .ok (.iaload, 1) := by decide +kernel
theorem dX8_nextFrost_17 : decode cX8_nextFrost 17 = .ok (.bipush 8, 2) := by decide +kernel
theorem dX8_nextFrost_19 : decode cX8_nextFrost 19 = .ok (.if_icmp .ne 20, 3) := by decide +kernel
theorem dX8_nextFrost_22 : decode cX8_nextFrost 22 = .ok (.aload_n 1, 1) := by decide +kernel
theorem dX8_nextFrost_23 : decode cX8_nextFrost 23 = .ok (.iload_n 3, 1) := by decide +kernel
theorem dX8_nextFrost_24 : decode cX8_nextFrost 24 = .ok (.iconst 5, 1) := by decide +kernel
theorem dX8_nextFrost_25 : decode cX8_nextFrost 25 = .ok (.invokestatic 44, 3) := by decide +kernel
theorem dX8_nextFrost_28 : decode cX8_nextFrost 28 = .ok (.aload_n 1, 1) := by decide +kernel
theorem dX8_nextFrost_29 : decode cX8_nextFrost 29 = .ok (.bipush 14, 2) := by decide +kernel
theorem dX8_nextFrost_31 : decode cX8_nextFrost 31 = .ok (.iaload, 1) := by decide +kernel
theorem dX8_nextFrost_32 : decode cX8_nextFrost 32 = .ok (.if_icmp .lt 7, 3) := by decide +kernel
theorem dX8_nextFrost_35 : decode cX8_nextFrost 35 = .ok (.iconst 1, 1) := by decide +kernel
theorem dX8_nextFrost_36 : decode cX8_nextFrost 36 = .ok (.goto 4, 3) := by decide +kernel
theorem dX8_nextFrost_39 : decode cX8_nextFrost 39 = .ok (.iconst 0, 1) := by decide +kernel
theorem dX8_nextFrost_40 : decode cX8_nextFrost 40 = .ok (.istore 4, 2) := by decide +kernel
theorem dX8_nextFrost_42 : decode cX8_nextFrost 42 = .ok (.iload 4, 2) := by decide +kernel
theorem dX8_nextFrost_44 : decode cX8_nextFrost 44 = .ok (.ifCond .eq 27, 3) := by decide +kernel
theorem dX8_nextFrost_47 : decode cX8_nextFrost 47 = .ok (.iload_n 2, 1) := by decide +kernel
theorem dX8_nextFrost_48 : decode cX8_nextFrost 48 = .ok (.iconst (-1), 1) := by decide +kernel
theorem dX8_nextFrost_49 : decode cX8_nextFrost 49 = .ok (.if_icmp .eq 18, 3) := by decide +kernel
theorem dX8_nextFrost_52 : decode cX8_nextFrost 52 = .ok (.aload_n 1, 1) := by decide +kernel
theorem dX8_nextFrost_53 : decode cX8_nextFrost 53 = .ok (.iload_n 3, 1) := by decide +kernel
theorem dX8_nextFrost_54 : decode cX8_nextFrost 54 = .ok (.iconst 5, 1) := by decide +kernel
theorem dX8_nextFrost_55 : decode cX8_nextFrost 55 = .ok (.invokestatic 44, 3) := by decide +kernel
theorem dX8_nextFrost_58 : decode cX8_nextFrost 58 = .ok (.aload_n 1, 1) := by decide +kernel
theorem dX8_nextFrost_59 : decode cX8_nextFrost 59 = .ok (.iload_n 2, 1) := by decide +kernel
theorem dX8_nextFrost_60 : decode cX8_nextFrost 60 = .ok (.iconst 5, 1) := by decide +kernel
theorem dX8_nextFrost_61 : decode cX8_nextFrost 61 = .ok (.invokestatic 44, 3) := by decide +kernel
theorem dX8_nextFrost_64 : decode cX8_nextFrost 64 = .ok (.if_icmp .le 7, 3) := by decide +kernel
theorem dX8_nextFrost_67 : decode cX8_nextFrost 67 = .ok (.iload_n 3, 1) := by decide +kernel
theorem dX8_nextFrost_68 : decode cX8_nextFrost 68 = .ok (.goto 4, 3) := by decide +kernel
theorem dX8_nextFrost_71 : decode cX8_nextFrost 71 = .ok (.iload_n 2, 1) := by decide +kernel
theorem dX8_nextFrost_72 : decode cX8_nextFrost 72 = .ok (.istore_n 2, 1) := by decide +kernel
theorem dX8_nextFrost_73 : decode cX8_nextFrost 73 = .ok (.iinc 3 1, 3) := by decide +kernel
theorem dX8_nextFrost_76 : decode cX8_nextFrost 76 = .ok (.goto (-72), 3) := by decide +kernel
theorem dX8_nextFrost_79 : decode cX8_nextFrost 79 = .ok (.iload_n 2, 1) := by decide +kernel
theorem dX8_nextFrost_80 : decode cX8_nextFrost 80 = .ok (.ireturn, 1) := by decide +kernel
theorem dX8_find_0 : decode cX8_find 0 = .ok (.aload_n 0, 1) := by decide +kernel
theorem dX8_find_1 : decode cX8_find 1 = .ok (.iconst 0, 1) := by decide +kernel
theorem dX8_find_2 : decode cX8_find 2 = .ok (.putfield 48, 3) := by decide +kernel
theorem dX8_find_5 : decode cX8_find 5 = .ok (.aload_n 0, 1) := by decide +kernel
theorem dX8_find_6 : decode cX8_find 6 = .ok (.aload_n 1, 1) := by decide +kernel
theorem dX8_find_7 : decode cX8_find 7 = .ok (.invokevirtual 63, 3) := by decide +kernel
theorem dX8_find_10 : decode cX8_find 10 = .ok (.aload_n 0, 1) := by decide +kernel
theorem dX8_find_11 : decode cX8_find 11 = .ok (.aload_n 1, 1) := by decide +kernel
theorem dX8_find_12 : decode cX8_find 12 = .ok (.invokevirtual 66, 3) := by decide +kernel
theorem dX8_find_15 : decode cX8_find 15 = .ok (.istore_n 2, 1) := by decide +kernel
theorem dX8_find_16 : decode cX8_find 16 = .ok (.iload_n 2, 1) := by decide +kernel
theorem dX8_find_17 : decode cX8_find 17 = .ok (.iconst (-1), 1) := by decide +kernel
theorem dX8_find_18 : decode cX8_find 18 = .ok (.if_icmp .eq 62, 3) := by decide +kernel
theorem dX8_find_21 : decode cX8_find 21 = .ok (.aload_n 0, 1) := by decide +kernel
theorem dX8_find_22 : decode cX8_find 22 = .ok (.aload_n 1, 1) := by decide +kernel
theorem dX8_find_23 : decode cX8_find 23 = .ok (.aload_n 1, 1) := by decide +kernel
theorem dX8_find_24 : decode cX8_find 24 = .ok (.iload_n 2, 1) := by decide +kernel
theorem dX8_find_25 : decode cX8_find 25 = .ok (.iconst 0, 1) := by decide +kernel
theorem dX8_find_26 : decode cX8_find 26 = .ok (.invokestatic 44, 3) := by decide +kernel
theorem dX8_find_29 : decode cX8_find 29 = .ok (.invokevirtual 69, 3) := by decide +kernel
theorem dX8_find_32 : decode cX8_find 32 = .ok (.istore_n 3, 1) := by decide +kernel
theorem dX8_find_33 : decode cX8_find 33 = .ok (.aload_n 0, 1) := by decide +kernel
theorem dX8_find_34 : decode cX8_find 34 = .ok (.getfield 29, 3) := by decide +kernel
theorem dX8_find_37 : decode cX8_find 37 = .ok (.iload_n 2, 1) := by decide +kernel
theorem dX8_find_38 : decode cX8_find 38 = .ok (.iload_n 3, 1) := by decide +kernel
theorem dX8_find_39 : decode cX8_find 39 = .ok (.ifCond .eq 7, 3) := by decide +kernel
theorem dX8_find_42 : decode cX8_find 42 = .ok (.iconst 3, 1) := by decide +kernel
theorem dX8_find_43 : decode cX8_find 43 = .ok (.goto 4, 3) := by decide +kernel
theorem dX8_find_46 : decode cX8_find 46 = .ok (.iconst 4, 1) := by decide +kernel
theorem dX8_find_47 : decode cX8_find 47 = .ok (.iastore, 1) := by decide +kernel
theorem dX8_find_48 : decode cX8_find 48 = .ok (.aload_n 0, 1) := by decide +kernel
theorem dX8_find_49 : decode cX8_find 49 = .ok (.dup, 1) := by decide +kernel
theorem dX8_find_50 : decode cX8_find 50 = .ok (.getfield 48, 3) := by decide +kernel
theorem dX8_find_53 : decode cX8_find 53 = .ok (.iload_n 3, 1) := by decide +kernel
theorem dX8_find_54 : decode cX8_find 54 = .ok (.ifCond .eq 12, 3) := by decide +kernel
theorem dX8_find_57 : decode cX8_find 57 = .ok (.aload_n 1, 1) := by decide +kernel
theorem dX8_find_58 : decode cX8_find 58 = .ok (.iload_n 2, 1) := by decide +kernel
theorem dX8_find_59 : decode cX8_find 59 = .ok (.iconst 0, 1) := by decide +kernel
theorem dX8_find_60 : decode cX8_find 60 = .ok (.invokestatic 44, 3) := by decide +kernel
theorem dX8_find_63 : decode cX8_find 63 = .ok (.goto 4, 3) := by decide +kernel
theorem dX8_find_66 : decode cX8_find 66 = .ok (.iconst 0, 1) := by decide +kernel
theorem dX8_find_67 : decode cX8_find 67 = .ok (.iadd, 1) := by decide +kernel
theorem dX8_find_68 : decode cX8_find 68 = .ok (.putfield 48, 3) := by decide +kernel
theorem dX8_find_71 : decode cX8_find 71 = .ok (.aload_n 0, 1) := by decide +kernel
theorem dX8_find_72 : decode cX8_find 72 = .ok (.aload_n 1, 1) := by decide +kernel
theorem dX8_find_73 : decode cX8_find 73 = .ok (.invokevirtual 66, 3) := by decide +kernel
theorem dX8_find_76 : decode cX8_find 76 = .ok (.istore_n 2, 1) := by decide +kernel
theorem dX8_find_77 : decode cX8_find 77 = .ok (.goto (-61), 3) := by decide +kernel
theorem dX8_find_80 : decode cX8_find 80 = .ok (.aload_n 0, 1) := by decide +kernel
theorem dX8_find_81 : decode cX8_find 81 = .ok (.aload_n 1, 1) := by decide +kernel
theorem dX8_find_82 : decode cX8_find 82 = .ok (.invokevirtual 72, 3) := by decide +kernel
theorem dX8_find_85 : decode cX8_find 85 = .ok (.istore_n 2, 1) := by decide +kernel
theorem dX8_find_86 : decode cX8_find 86 = .ok (.iload_n 2, 1) := by decide +kernel
theorem dX8_find_87 : decode cX8_find 87 = .ok (.iconst (-1), 1) := by decide +kernel
theorem dX8_find_88 : decode cX8_find 88 = .ok (.if_icmp .eq 59, 3) := by decide +kernel
theorem dX8_find_91 : decode cX8_find 91 = .ok (.aload_n 0, 1) := by decide +kernel
theorem dX8_find_92 : decode cX8_find 92 = .ok (.aload_n 1, 1) := by decide +kernel
theorem dX8_find_93 : decode cX8_find 93 = .ok (.aload_n 1, 1) := by decide +kernel
theorem dX8_find_94 : decode cX8_find 94 = .ok (.bipush 13, 2) := by decide +kernel
theorem dX8_find_96 : decode cX8_find 96 = .ok (.iaload, 1) := by decide +kernel
theorem dX8_find_97 : decode cX8_find 97 = .ok (.invokevirtual 69, 3) := by decide +kernel
theorem dX8_find_100 : decode cX8_find 100 = .ok (.istore_n 3, 1) := by decide +kernel
theorem dX8_find_101 : decode cX8_find 101 = .ok (.aload_n 0, 1) := by decide +kernel
theorem dX8_find_102 : decode cX8_find 102 = .ok (.getfield 29, 3) := by decide +kernel
theorem dX8_find_105 : decode cX8_find 105 = .ok (.iload_n 2, 1) := by decide +kernel
theorem dX8_find_106 : decode cX8_find 106 = .ok (.iload_n 3, 1) := by decide +kernel
theorem dX8_find_107 : decode cX8_find 107 = .ok (.ifCond .eq 7, 3) := by decide +kernel
theorem dX8_find_110 : decode cX8_find 110 = .ok (.iconst 5, 1) := by decide +kernel
theorem dX8_find_111 : decode cX8_find 111 = .ok (.goto 5, 3) := by decide +kernel
theorem dX8_find_114 : decode cX8_find 114 = .ok (.bipush 6, 2) := by decide +kernel
theorem dX8_find_116 : decode cX8_find 116 = .ok (.iastore, 1) := by decide +kernel
theorem dX8_find_117 : decode cX8_find 117 = .ok (.aload_n 0, 1) := by decide +kernel
theorem dX8_find_118 : decode cX8_find 118 = .ok (.dup, 1) := by decide +kernel
theorem dX8_find_119 : decode cX8_find 119 = .ok (.getfield 48, 3) := by decide +kernel
theorem dX8_find_122 : decode cX8_find 122 = .ok (.iload_n 3, 1) := by decide +kernel
theorem dX8_find_123 : decode cX8_find 123 = .ok (.ifCond .eq 10, 3) := by decide +kernel
theorem dX8_find_126 : decode cX8_find 126 = .ok (.aload_n 1, 1) := by decide +kernel
theorem dX8_find_127 : decode cX8_find 127 = .ok (.bipush 13, 2) := by decide +kernel
theorem dX8_find_129 : decode cX8_find 129 = .ok (.iaload, 1) := by decide +kernel
theorem dX8_find_130 : decode cX8_find 130 = .ok (.goto 4, 3) := by decide +kernel
theorem dX8_find_133 : decode cX8_find 133 = .ok (.iconst 0, 1) := by decide +kernel
theorem dX8_find_134 : decode cX8_find 134 = .ok (.iadd, 1) := by decide +kernel
theorem dX8_find_135 : decode cX8_find 135 = .ok (.putfield 48, 3) := by decide +kernel
theorem dX8_find_138 : decode cX8_find 138 = .ok (.aload_n 0, 1) := by decide +kernel
theorem dX8_find_139 : decode cX8_find 139 = .ok (.aload_n 1, 1) := by decide +kernel
theorem dX8_find_140 : decode cX8_find 140 = .ok (.invokevirtual 72, 3) := by decide +kernel
theorem dX8_find_143 : decode cX8_find 143 = .ok (.istore_n 2, 1) := by decide +kernel
theorem dX8_find_144 : decode cX8_find 144 = .ok (.goto (-58), 3) := by decide +kernel
theorem dX8_find_147 : decode cX8_find 147 = .ok (.iconst 0, 1) := by decide +kernel
theorem dX8_find_148 : decode cX8_find 148 = .ok (.istore_n 3, 1) := by decide +kernel
theorem dX8_find_149 : decode cX8_find 149 = .ok (.iload_n 3, 1) := by decide +kernel
theorem dX8_find_150 : decode cX8_find 150 = .ok (.aload_n 1, 1) := by decide +kernel
theorem dX8_find_151 : decode cX8_find 151 = .ok (.iconst 0, 1) := by decide +kernel
theorem dX8_find_152 : decode cX8_find 152 = .ok (.iaload, 1) := by decide +kernel
theorem dX8_find_153 : decode cX8_find 153 = .ok (.if_icmp .ge 37, 3) := by decide +kernel
theorem dX8_find_156 : decode cX8_find 156 = .ok (.aload_n 0, 1) := by decide +kernel
theorem dX8_find_157 : decode cX8_find 157 = .ok (.getfield 29, 3) := by decide +kernel
theorem dX8_find_160 : decode cX8_find 160 = .ok (.iload_n 3, 1) := by decide +kernel
theorem dX8_find_161 : decode cX8_find 161 = .ok (.aload_n 0, 1) := by decide +kernel
theorem dX8_find_162 : decode cX8_find 162 = .ok (.getfield 29, 3) := by decide +kernel
theorem dX8_find_165 : decode cX8_find 165 = .ok (.iload_n 3, 1) := by decide +kernel
theorem dX8_find_166 : decode cX8_find 166 = .ok (.iaload, 1) := by decide +kernel
theorem dX8_find_167 : decode cX8_find 167 = .ok (.bipush 8, 2) := by decide +kernel
theorem dX8_find_169 : decode cX8_find 169 = .ok (.if_icmp .ne 8, 3) := by decide +kernel
theorem dX8_find_172 : decode cX8_find 172 = .ok (.bipush 7, 2) := by decide +kernel
theorem dX8_find_174 : decode cX8_find 174 = .ok (.goto 9, 3) := by decide +kernel
theorem dX8_find_177 : decode cX8_find 177 = .ok (.aload_n 0, 1) := by decide +kernel
theorem dX8_find_178 : decode cX8_find 178 = .ok (.getfield 29, 3) := by decide +kernel
theorem dX8_find_181 : decode cX8_find 181 = .ok (.iload_n 3, 1) := by decide +kernel
theorem dX8_find_182 : decode cX8_find 182 = .ok (.iaload, 1) := by decide +kernel
theorem dX8_find_183 : decode cX8_find 183 = .ok (.iastore, 1) := by decide +kernel
theorem dX8_find_184 : decode cX8_find 184 = .ok (.iinc 3 1, 3) := by decide +kernel
theorem dX8_find_187 : decode cX8_find 187 = .ok (.goto (-38), 3) := by decide +kernel
theorem dX8_find_190 : decode cX8_find 190 = .ok (.return_, 1) := by decide +kernel
theorem dX8_clamp_0 : decode cX8_clamp 0 = .ok (.iload_n 0, 1) := by decide +kernel
theorem dX8_clamp_1 : decode cX8_clamp 1 = .ok (.iload_n 1, 1) := by decide +kernel
theorem dX8_clamp_2 : decode cX8_clamp 2 = .ok (.if_icmp .ge 7, 3) := by decide +kernel
theorem dX8_clamp_5 : decode cX8_clamp 5 = .ok (.iload_n 1, 1) := by decide +kernel
theorem dX8_clamp_6 : decode cX8_clamp 6 = .ok (.goto 13, 3) := by decide +kernel
theorem dX8_clamp_9 : decode cX8_clamp 9 = .ok (.iload_n 0, 1) := by decide +kernel
theorem dX8_clamp_10 : decode cX8_clamp 10 = .ok (.iload_n 2, 1) := by decide +kernel
theorem dX8_clamp_11 : decode cX8_clamp 11 = .ok (.if_icmp .le 7, 3) := by decide +kernel
theorem dX8_clamp_14 : decode cX8_clamp 14 = .ok (.iload_n 2, 1) := by decide +kernel
theorem dX8_clamp_15 : decode cX8_clamp 15 = .ok (.goto 4, 3) := by decide +kernel
theorem dX8_clamp_18 : decode cX8_clamp 18 = .ok (.iload_n 0, 1) := by decide +kernel
theorem dX8_clamp_19 : decode cX8_clamp 19 = .ok (.ireturn, 1) := by decide +kernel
theorem dX8_roomOn_0 : decode cX8_roomOn 0 = .ok (.aload_n 1, 1) := by decide +kernel
theorem dX8_roomOn_1 : decode cX8_roomOn 1 = .ok (.iload_n 2, 1) := by decide +kernel
theorem dX8_roomOn_2 : decode cX8_roomOn 2 = .ok (.iconst 4, 1) := by decide +kernel
theorem dX8_roomOn_3 : decode cX8_roomOn 3 = .ok (.invokestatic 44, 3) := by decide +kernel
theorem dX8_roomOn_6 : decode cX8_roomOn 6 = .ok (.iconst 1, 1) := by decide +kernel
theorem dX8_roomOn_7 : decode cX8_roomOn 7 = .ok (.if_icmp .ne 7, 3) := by decide +kernel
theorem dX8_roomOn_10 : decode cX8_roomOn 10 = .ok (.iconst 1, 1) := by decide +kernel
theorem dX8_roomOn_11 : decode cX8_roomOn 11 = .ok (.goto 4, 3) := by decide +kernel
theorem dX8_roomOn_14 : decode cX8_roomOn 14 = .ok (.iconst 0, 1) := by decide +kernel
theorem dX8_roomOn_15 : decode cX8_roomOn 15 = .ok (.istore_n 3, 1) := by decide +kernel
theorem dX8_roomOn_16 : decode cX8_roomOn 16 = .ok (.aload_n 0, 1) := by decide +kernel
theorem dX8_roomOn_17 : decode cX8_roomOn 17 = .ok (.getfield 29, 3) := by decide +kernel
theorem dX8_roomOn_20 : decode cX8_roomOn 20 = .ok (.iload_n 2, 1) := by decide +kernel
theorem dX8_roomOn_21 : decode cX8_roomOn 21 = .ok (.iaload, 1) := by decide +kernel
theorem dX8_roomOn_22 : decode cX8_roomOn 22 = .ok (.iconst 3, 1) := by decide +kernel
theorem dX8_roomOn_23 : decode cX8_roomOn 23 = .ok (.if_icmp .eq 13, 3) := by decide +kernel
theorem dX8_roomOn_26 : decode cX8_roomOn 26 = .ok (.aload_n 0, 1) := by decide +kernel
theorem dX8_roomOn_27 : decode cX8_roomOn 27 = .ok (.getfield 29, 3) := by decide +kernel
theorem dX8_roomOn_30 : decode cX8_roomOn 30 = .ok (.iload_n 2, 1) := by decide +kernel
theorem dX8_roomOn_31 : decode cX8_roomOn 31 = .ok (.iaload, 1) := by decide +kernel
theorem dX8_roomOn_32 : decode cX8_roomOn 32 = .ok (.iconst 1, 1) := by decide +kernel
theorem dX8_roomOn_33 : decode cX8_roomOn 33 = .ok (.if_icmp .ne 7, 3) := by decide +kernel
theorem dX8_roomOn_36 : decode cX8_roomOn 36 = .ok (.iconst 1, 1) := by decide +kernel
theorem dX8_roomOn_37 : decode cX8_roomOn 37 = .ok (.goto 4, 3) := by decide +kernel
theorem dX8_roomOn_40 : decode cX8_roomOn 40 = .ok (.iconst 0, 1) := by decide +kernel
theorem dX8_roomOn_41 : decode cX8_roomOn 41 = .ok (.istore 4, 2) := by decide +kernel
theorem dX8_roomOn_43 : decode cX8_roomOn 43 = .ok (.aload_n 0, 1) := by decide +kernel
theorem dX8_roomOn_44 : decode cX8_roomOn 44 = .ok (.getfield 29, 3) := by decide +kernel
theorem dX8_roomOn_47 : decode cX8_roomOn 47 = .ok (.iload_n 2, 1) := by decide +kernel
theorem dX8_roomOn_48 : decode cX8_roomOn 48 = .ok (.iaload, 1) := by decide +kernel
theorem dX8_roomOn_49 : decode cX8_roomOn 49 = .ok (.iconst 5, 1) := by decide +kernel
theorem dX8_roomOn_50 : decode cX8_roomOn 50 = .ok (.if_icmp .eq 13, 3) := by decide +kernel
theorem dX8_roomOn_53 : decode cX8_roomOn 53 = .ok (.aload_n 0, 1) := by decide +kernel
theorem dX8_roomOn_54 : decode cX8_roomOn 54 = .ok (.getfield 29, 3) := by decide +kernel
theorem dX8_roomOn_57 : decode cX8_roomOn 57 = .ok (.iload_n 2, 1) := by decide +kernel
theorem dX8_roomOn_58 : decode cX8_roomOn 58 = .ok (.iaload, 1) := by decide +kernel
theorem dX8_roomOn_59 : decode cX8_roomOn 59 = .ok (.iconst 2, 1) := by decide +kernel
theorem dX8_roomOn_60 : decode cX8_roomOn 60 = .ok (.if_icmp .ne 7, 3) := by decide +kernel
theorem dX8_roomOn_63 : decode cX8_roomOn 63 = .ok (.iconst 1, 1) := by decide +kernel
theorem dX8_roomOn_64 : decode cX8_roomOn 64 = .ok (.goto 4, 3) := by decide +kernel
theorem dX8_roomOn_67 : decode cX8_roomOn 67 = .ok (.iconst 0, 1) := by decide +kernel
theorem dX8_roomOn_68 : decode cX8_roomOn 68 = .ok (.istore 5, 2) := by decide +kernel
theorem dX8_roomOn_70 : decode cX8_roomOn 70 = .ok (.iload 5, 2) := by decide +kernel
theorem dX8_roomOn_72 : decode cX8_roomOn 72 = .ok (.ifCond .ne 12, 3) := by decide +kernel
theorem dX8_roomOn_75 : decode cX8_roomOn 75 = .ok (.aload_n 0, 1) := by decide +kernel
theorem dX8_roomOn_76 : decode cX8_roomOn 76 = .ok (.getfield 29, 3) := by decide +kernel
theorem dX8_roomOn_79 : decode cX8_roomOn 79 = .ok (.iload_n 2, 1) := by decide +kernel
theorem dX8_roomOn_80 : decode cX8_roomOn 80 = .ok (.iaload, 1) := by decide +kernel
theorem dX8_roomOn_81 : decode cX8_roomOn 81 = .ok (.ifCond .ne 7, 3) := by decide +kernel
theorem dX8_roomOn_84 : decode cX8_roomOn 84 = .ok (.iconst 1, 1) := by decide +kernel
theorem dX8_roomOn_85 : decode cX8_roomOn 85 = .ok (.goto 4, 3) := by decide +kernel
theorem dX8_roomOn_88 : decode cX8_roomOn 88 = .ok (.iconst 0, 1) := by decide +kernel
theorem dX8_roomOn_89 : decode cX8_roomOn 89 = .ok (.istore 6, 2) := by decide +kernel
theorem dX8_roomOn_91 : decode cX8_roomOn 91 = .ok (.iload 4, 2) := by decide +kernel
theorem dX8_roomOn_93 : decode cX8_roomOn 93 = .ok (.ifCond .eq 18, 3) := by decide +kernel
theorem dX8_roomOn_96 : decode cX8_roomOn 96 = .ok (.aload_n 1, 1) := by decide +kernel
theorem dX8_roomOn_97 : decode cX8_roomOn 97 = .ok (.iload_n 2, 1) := by decide +kernel
theorem dX8_roomOn_98 : decode cX8_roomOn 98 = .ok (.iconst 5, 1) := by decide +kernel
theorem dX8_roomOn_99 : decode cX8_roomOn 99 = .ok (.invokestatic 44, 3) := by decide +kernel
theorem dX8_roomOn_102 : decode cX8_roomOn 102 = .ok (.bipush 20, 2) := by decide +kernel
theorem dX8_roomOn_104 : decode cX8_roomOn 104 = .ok (.idiv, 1) := by decide +kernel
theorem dX8_roomOn_105 : decode cX8_roomOn 105 = .ok (.bipush 8, 2) := by decide +kernel
theorem dX8_roomOn_107 : decode cX8_roomOn 107 = .ok (.isub, 1) := by decide +kernel
theorem dX8_roomOn_108 : decode cX8_roomOn 108 = .ok (.goto 14, 3) := by decide +kernel
theorem dX8_roomOn_111 : decode cX8_roomOn 111 = .ok (.iload 6, 2) := by decide +kernel
theorem dX8_roomOn_113 : decode cX8_roomOn 113 = .ok (.ifCond .eq 8, 3) := by decide +kernel
theorem dX8_roomOn_116 : decode cX8_roomOn 116 = .ok (.bipush 6, 2) := by decide +kernel
theorem dX8_roomOn_118 : decode cX8_roomOn 118 = .ok (.goto 4, 3) := by decide +kernel
theorem dX8_roomOn_121 : decode cX8_roomOn 121 = .ok (.iconst 1, 1) := by decide +kernel
theorem dX8_roomOn_122 : decode cX8_roomOn 122 = .ok (.istore 7, 2) := by decide +kernel
theorem dX8_roomOn_124 : decode cX8_roomOn 124 = .ok (.aload_n 1, 1) := by decide +kernel
theorem dX8_roomOn_125 : decode cX8_roomOn 125 = .ok (.iload_n 2, 1) := by decide +kernel
theorem dX8_roomOn_126 : decode cX8_roomOn 126 = .ok (.iconst 3, 1) := by decide +kernel
theorem dX8_roomOn_127 : decode cX8_roomOn 127 = .ok (.aload_n 1, 1) := by decide +kernel
theorem dX8_roomOn_128 : decode cX8_roomOn 128 = .ok (.iload_n 2, 1) := by decide +kernel
theorem dX8_roomOn_129 : decode cX8_roomOn 129 = .ok (.iconst 3, 1) := by decide +kernel
theorem dX8_roomOn_130 : decode cX8_roomOn 130 = .ok (.invokestatic 44, 3) := by decide +kernel
theorem dX8_roomOn_133 : decode cX8_roomOn 133 = .ok (.iload 7, 2) := by decide +kernel
theorem dX8_roomOn_135 : decode cX8_roomOn 135 = .ok (.iadd, 1) := by decide +kernel
theorem dX8_roomOn_136 : decode cX8_roomOn 136 = .ok (.iload_n 3, 1) := by decide +kernel
theorem dX8_roomOn_137 : decode cX8_roomOn 137 = .ok (.ifCond .eq 7, 3) := by decide +kernel
theorem dX8_roomOn_140 : decode cX8_roomOn 140 = .ok (.iconst 4, 1) := by decide +kernel
theorem dX8_roomOn_141 : decode cX8_roomOn 141 = .ok (.goto 4, 3) := by decide +kernel
theorem dX8_roomOn_144 : decode cX8_roomOn 144 = .ok (.iconst 0, 1) := by decide +kernel
theorem dX8_roomOn_145 : decode cX8_roomOn 145 = .ok (.iadd, 1) := by decide +kernel
theorem dX8_roomOn_146 : decode cX8_roomOn 146 = .ok (.sipush (-400), 3) := by decide +kernel
theorem dX8_roomOn_149 : decode cX8_roomOn 149 = .ok (.sipush 400, 3) := by decide +kernel
theorem dX8_roomOn_152 : decode cX8_roomOn 152 = .ok (.invokestatic 75, 3) := by decide +kernel
theorem dX8_roomOn_155 : decode cX8_roomOn 155 = .ok (.invokestatic 79, 3) := by decide +kernel
theorem dX8_roomOn_158 : decode cX8_roomOn 158 = .ok (.iload 6, 2) := by decide +kernel
theorem dX8_roomOn_160 : decode cX8_roomOn 160 = .ok (.ifCond .eq 72, 3) := by decide +kernel
theorem dX8_roomOn_163 : decode cX8_roomOn 163 = .ok (.iload 5, 2) := by decide +kernel
theorem dX8_roomOn_165 : decode cX8_roomOn 165 = .ok (.ifCond .eq 10, 3) := by decide +kernel
theorem dX8_roomOn_168 : decode cX8_roomOn 168 = .ok (.aload_n 1, 1) := by decide +kernel
theorem dX8_roomOn_169 : decode cX8_roomOn 169 = .ok (.bipush 15, 2) := by decide +kernel
theorem dX8_roomOn_171 : decode cX8_roomOn 171 = .ok (.iaload, 1) := by decide +kernel
theorem dX8_roomOn_172 : decode cX8_roomOn 172 = .ok (.goto 10, 3) := by decide +kernel
theorem dX8_roomOn_175 : decode cX8_roomOn 175 = .ok (.aload_n 1, 1) := by decide +kernel
theorem dX8_roomOn_176 : decode cX8_roomOn 176 = .ok (.iload_n 2, 1) := by decide +kernel
theorem dX8_roomOn_177 : decode cX8_roomOn 177 = .ok (.bipush 6, 2) := by decide +kernel
theorem dX8_roomOn_179 : decode cX8_roomOn 179 = .ok (.invokestatic 44, 3) := by decide +kernel
theorem dX8_roomOn_182 : decode cX8_roomOn 182 = .ok (.iconst 1, 1) := by decide +kernel
theorem dX8_roomOn_183 : decode cX8_roomOn 183 = .ok (.isub, 1) := by decide +kernel
theorem dX8_roomOn_184 : decode cX8_roomOn 184 = .ok (.istore 8, 2) := by decide +kernel
theorem dX8_roomOn_186 : decode cX8_roomOn 186 = .ok (.aload_n 1, 1) := by decide +kernel
theorem dX8_roomOn_187 : decode cX8_roomOn 187 = .ok (.iload_n 2, 1) := by decide +kernel
theorem dX8_roomOn_188 : decode cX8_roomOn 188 = .ok (.iconst 5, 1) := by decide +kernel
theorem dX8_roomOn_189 : decode cX8_roomOn 189 = .ok (.aload_n 1, 1) := by decide +kernel
theorem dX8_roomOn_190 : decode cX8_roomOn 190 = .ok (.iload_n 2, 1) := by decide +kernel
theorem dX8_roomOn_191 : decode cX8_roomOn 191 = .ok (.iconst 5, 1) := by decide +kernel
theorem dX8_roomOn_192 : decode cX8_roomOn 192 = .ok (.invokestatic 44, 3) := by decide +kernel
theorem dX8_roomOn_195 : decode cX8_roomOn 195 = .ok (.bipush 10, 2) := by decide +kernel
theorem dX8_roomOn_197 : decode cX8_roomOn 197 = .ok (.isub, 1) := by decide +kernel
theorem dX8_roomOn_198 : decode cX8_roomOn 198 = .ok (.iconst 0, 1) := by decide +kernel
theorem dX8_roomOn_199 : decode cX8_roomOn 199 = .ok (.bipush 100, 2) := by decide +kernel
theorem dX8_roomOn_201 : decode cX8_roomOn 201 = .ok (.invokestatic 75, 3) := by decide +kernel
theorem dX8_roomOn_204 : decode cX8_roomOn 204 = .ok (.invokestatic 79, 3) := by decide +kernel
theorem dX8_roomOn_207 : decode cX8_roomOn 207 = .ok (.aload_n 1, 1) := by decide +kernel
theorem dX8_roomOn_208 : decode cX8_roomOn 208 = .ok (.iload_n 2, 1) := by decide +kernel
theorem dX8_roomOn_209 : decode cX8_roomOn 209 = .ok (.bipush 6, 2) := by decide +kernel
theorem dX8_roomOn_211 : decode cX8_roomOn 211 = .ok (.aload_n 1, 1) := by decide +kernel
theorem dX8_roomOn_212 : decode cX8_roomOn 212 = .ok (.iload_n 2, 1) := by decide +kernel
theorem dX8_roomOn_213 : decode cX8_roomOn 213 = .ok (.iconst 5, 1) := by decide +kernel
theorem dX8_roomOn_214 : decode cX8_roomOn 214 = .ok (.invokestatic 44, 3) := by decide +kernel
theorem dX8_roomOn_217 : decode cX8_roomOn 217 = .ok (.ifCond .ne 7, 3) := by decide +kernel
theorem dX8_roomOn_220 : decode cX8_roomOn 220 = .ok (.iconst 0, 1) := by decide +kernel
theorem dX8_roomOn_221 : decode cX8_roomOn 221 = .ok (.goto 5, 3) := by decide +kernel
theorem dX8_roomOn_224 : decode cX8_roomOn 224 = .ok (.iload 8, 2) := by decide +kernel
theorem dX8_roomOn_226 : decode cX8_roomOn 226 = .ok (.invokestatic 79, 3) := by decide +kernel
theorem dX8_roomOn_229 : decode cX8_roomOn 229 = .ok (.goto 42, 3) := by decide +kernel
theorem dX8_roomOn_232 : decode cX8_roomOn 232 = .ok (.aload_n 1, 1) := by decide +kernel
theorem dX8_roomOn_233 : decode cX8_roomOn 233 = .ok (.iload_n 2, 1) := by decide +kernel
theorem dX8_roomOn_234 : decode cX8_roomOn 234 = .ok (.iconst 5, 1) := by decide +kernel
theorem dX8_roomOn_235 : decode cX8_roomOn 235 = .ok (.aload_n 1, 1) := by decide +kernel
theorem dX8_roomOn_236 : decode cX8_roomOn 236 = .ok (.iload_n 2, 1) := by decide +kernel
theorem dX8_roomOn_237 : decode cX8_roomOn 237 = .ok (.iconst 5, 1) := by decide +kernel
theorem dX8_roomOn_238 : decode cX8_roomOn 238 = .ok (.invokestatic 44, 3) := by decide +kernel
theorem dX8_roomOn_241 : decode cX8_roomOn 241 = .ok (.iload 4, 2) := by decide +kernel
theorem dX8_roomOn_243 : decode cX8_roomOn 243 = .ok (.ifCond .eq 7, 3) := by decide +kernel
theorem dX8_roomOn_246 : decode cX8_roomOn 246 = .ok (.iconst 1, 1) := by decide +kernel
theorem dX8_roomOn_247 : decode cX8_roomOn 247 = .ok (.goto 4, 3) := by decide +kernel
theorem dX8_roomOn_250 : decode cX8_roomOn 250 = .ok (.iconst 0, 1) := by decide +kernel
theorem dX8_roomOn_251 : decode cX8_roomOn 251 = .ok (.iadd, 1) := by decide +kernel
theorem dX8_roomOn_252 : decode cX8_roomOn 252 = .ok (.iload_n 3, 1) := by decide +kernel
theorem dX8_roomOn_253 : decode cX8_roomOn 253 = .ok (.ifCond .eq 7, 3) := by decide +kernel
theorem dX8_roomOn_256 : decode cX8_roomOn 256 = .ok (.iconst 2, 1) := by decide +kernel
theorem dX8_roomOn_257 : decode cX8_roomOn 257 = .ok (.goto 4, 3) := by decide +kernel
theorem dX8_roomOn_260 : decode cX8_roomOn 260 = .ok (.iconst 0, 1) := by decide +kernel
theorem dX8_roomOn_261 : decode cX8_roomOn 261 = .ok (.iadd, 1) := by decide +kernel
theorem dX8_roomOn_262 : decode cX8_roomOn 262 = .ok (.iconst 0, 1) := by decide +kernel
theorem dX8_roomOn_263 : decode cX8_roomOn 263 = .ok (.bipush 100, 2) := by decide +kernel
theorem dX8_roomOn_265 : decode cX8_roomOn 265 = .ok (.invokestatic 75, 3) := by decide +kernel
theorem dX8_roomOn_268 : decode cX8_roomOn 268 = .ok (.invokestatic 79, 3) := by decide +kernel
theorem dX8_roomOn_271 : decode cX8_roomOn 271 = .ok (.aload_n 1, 1) := by decide +kernel
theorem dX8_roomOn_272 : decode cX8_roomOn 272 = .ok (.iload_n 2, 1) := by decide +kernel
theorem dX8_roomOn_273 : decode cX8_roomOn 273 = .ok (.bipush 7, 2) := by decide +kernel
theorem dX8_roomOn_275 : decode cX8_roomOn 275 = .ok (.aload_n 1, 1) := by decide +kernel
theorem dX8_roomOn_276 : decode cX8_roomOn 276 = .ok (.iload_n 2, 1) := by decide +kernel
theorem dX8_roomOn_277 : decode cX8_roomOn 277 = .ok (.bipush 7, 2) := by decide +kernel
theorem dX8_roomOn_279 : decode cX8_roomOn 279 = .ok (.invokestatic 44, 3) := by decide +kernel
theorem dX8_roomOn_282 : decode cX8_roomOn 282 = .ok (.iload 4, 2) := by decide +kernel
theorem dX8_roomOn_284 : decode cX8_roomOn 284 = .ok (.ifCond .eq 7, 3) := by decide +kernel
theorem dX8_roomOn_287 : decode cX8_roomOn 287 = .ok (.iconst 1, 1) := by decide +kernel
theorem dX8_roomOn_288 : decode cX8_roomOn 288 = .ok (.goto 4, 3) := by decide +kernel
theorem dX8_roomOn_291 : decode cX8_roomOn 291 = .ok (.iconst 0, 1) := by decide +kernel
theorem dX8_roomOn_292 : decode cX8_roomOn 292 = .ok (.iadd, 1) := by decide +kernel
theorem dX8_roomOn_293 : decode cX8_roomOn 293 = .ok (.invokestatic 79, 3) := by decide +kernel
theorem dX8_roomOn_296 : decode cX8_roomOn 296 = .ok (.aload_n 1, 1) := by decide +kernel
theorem dX8_roomOn_297 : decode cX8_roomOn 297 = .ok (.bipush 6, 2) := by decide +kernel
theorem dX8_roomOn_299 : decode cX8_roomOn 299 = .ok (.dup2, 1) := by decide +kernel
theorem dX8_roomOn_300 : decode cX8_roomOn 300 = .ok (.iaload, 1) := by decide +kernel
theorem dX8_roomOn_301 : decode cX8_roomOn 301 = .ok (.iload 5, 2) := by decide +kernel
theorem dX8_roomOn_303 : decode cX8_roomOn 303 = .ok (.ifCond .eq 7, 3) := by decide +kernel
theorem dX8_roomOn_306 : decode cX8_roomOn 306 = .ok (.iconst 1, 1) := by decide +kernel
theorem dX8_roomOn_307 : decode cX8_roomOn 307 = .ok (.goto 4, 3) := by decide +kernel
theorem dX8_roomOn_310 : decode cX8_roomOn 310 = .ok (.iconst 0, 1) := by decide +kernel
theorem dX8_roomOn_311 : decode cX8_roomOn 311 = .ok (.iadd, 1) := by decide +kernel
theorem dX8_roomOn_312 : decode cX8_roomOn 312 = .ok (.iastore, 1) := by decide +kernel
theorem dX8_roomOn_313 : decode cX8_roomOn 313 = .ok (.aload_n 1, 1) := by decide +kernel
theorem dX8_roomOn_314 : decode cX8_roomOn 314 = .ok (.bipush 7, 2) := by decide +kernel
theorem dX8_roomOn_316 : decode cX8_roomOn 316 = .ok (.dup2, 1) := by decide +kernel
theorem dX8_roomOn_317 : decode cX8_roomOn 317 = .ok (.iaload, 1) := by decide +kernel
theorem dX8_roomOn_318 : decode cX8_roomOn 318 = .ok (.aload_n 0, 1) := by decide +kernel
theorem dX8_roomOn_319 : decode cX8_roomOn 319 = .ok (.getfield 29, 3) := by decide +kernel
theorem dX8_roomOn_322 : decode cX8_roomOn 322 = .ok (.iload_n 2, 1) := by decide +kernel
theorem dX8_roomOn_323 : decode cX8_roomOn 323 = .ok (.iaload, 1) := by decide +kernel
theorem dX8_roomOn_324 : decode cX8_roomOn 324 = .ok (.iconst 4, 1) := by decide +kernel
theorem dX8_roomOn_325 : decode cX8_roomOn 325 = .ok (.if_icmp .ne 7, 3) := by decide +kernel
theorem dX8_roomOn_328 : decode cX8_roomOn 328 = .ok (.iconst 1, 1) := by decide +kernel
theorem dX8_roomOn_329 : decode cX8_roomOn 329 = .ok (.goto 4, 3) := by decide +kernel
theorem dX8_roomOn_332 : decode cX8_roomOn 332 = .ok (.iconst 0, 1) := by decide +kernel
theorem dX8_roomOn_333 : decode cX8_roomOn 333 = .ok (.iadd, 1) := by decide +kernel
theorem dX8_roomOn_334 : decode cX8_roomOn 334 = .ok (.iastore, 1) := by decide +kernel
theorem dX8_roomOn_335 : decode cX8_roomOn 335 = .ok (.aload_n 1, 1) := by decide +kernel
theorem dX8_roomOn_336 : decode cX8_roomOn 336 = .ok (.bipush 8, 2) := by decide +kernel
theorem dX8_roomOn_338 : decode cX8_roomOn 338 = .ok (.dup2, 1) := by decide +kernel
theorem dX8_roomOn_339 : decode cX8_roomOn 339 = .ok (.iaload, 1) := by decide +kernel
theorem dX8_roomOn_340 : decode cX8_roomOn 340 = .ok (.aload_n 0, 1) := by decide +kernel
theorem dX8_roomOn_341 : decode cX8_roomOn 341 = .ok (.getfield 29, 3) := by decide +kernel
theorem dX8_roomOn_344 : decode cX8_roomOn 344 = .ok (.iload_n 2, 1) := by decide +kernel
theorem dX8_roomOn_345 : decode cX8_roomOn 345 = .ok (.iaload, 1) := by decide +kernel
theorem dX8_roomOn_346 : decode cX8_roomOn 346 = .ok (.bipush 6, 2) := by decide +kernel
theorem dX8_roomOn_348 : decode cX8_roomOn 348 = .ok (.if_icmp .ne 7, 3) := by decide +kernel
theorem dX8_roomOn_351 : decode cX8_roomOn 351 = .ok (.iconst 1, 1) := by decide +kernel
theorem dX8_roomOn_352 : decode cX8_roomOn 352 = .ok (.goto 4, 3) := by decide +kernel
theorem dX8_roomOn_355 : decode cX8_roomOn 355 = .ok (.iconst 0, 1) := by decide +kernel
theorem dX8_roomOn_356 : decode cX8_roomOn 356 = .ok (.iadd, 1) := by decide +kernel
theorem dX8_roomOn_357 : decode cX8_roomOn 357 = .ok (.iastore, 1) := by decide +kernel
theorem dX8_roomOn_358 : decode cX8_roomOn 358 = .ok (.aload_n 1, 1) := by decide +kernel
theorem dX8_roomOn_359 : decode cX8_roomOn 359 = .ok (.bipush 9, 2) := by decide +kernel
theorem dX8_roomOn_361 : decode cX8_roomOn 361 = .ok (.dup2, 1) := by decide +kernel
theorem dX8_roomOn_362 : decode cX8_roomOn 362 = .ok (.iaload, 1) := by decide +kernel
theorem dX8_roomOn_363 : decode cX8_roomOn 363 = .ok (.aload_n 1, 1) := by decide +kernel
theorem dX8_roomOn_364 : decode cX8_roomOn 364 = .ok (.iload_n 2, 1) := by decide +kernel
theorem dX8_roomOn_365 : decode cX8_roomOn 365 = .ok (.invokestatic 55, 3) := by decide +kernel
theorem dX8_roomOn_368 : decode cX8_roomOn 368 = .ok (.ifCond .eq 7, 3) := by decide +kernel
theorem dX8_roomOn_371 : decode cX8_roomOn 371 = .ok (.iconst 1, 1) := by decide +kernel
theorem dX8_roomOn_372 : decode cX8_roomOn 372 = .ok (.goto 4, 3) := by decide +kernel
theorem dX8_roomOn_375 : decode cX8_roomOn 375 = .ok (.iconst 0, 1) := by decide +kernel
theorem dX8_roomOn_376 : decode cX8_roomOn 376 = .ok (.iadd, 1) := by decide +kernel
theorem dX8_roomOn_377 : decode cX8_roomOn 377 = .ok (.iastore, 1) := by decide +kernel
theorem dX8_roomOn_378 : decode cX8_roomOn 378 = .ok (.return_, 1) := by decide +kernel
theorem dX8_minuteOn_0 : decode cX8_minuteOn 0 = .ok (.aload_n 0, 1) := by decide +kernel
theorem dX8_minuteOn_1 : decode cX8_minuteOn 1 = .ok (.aload_n 1, 1) := by decide +kernel
theorem dX8_minuteOn_2 : decode cX8_minuteOn 2 = .ok (.invokevirtual 83, 3) := by decide +kernel
theorem dX8_minuteOn_5 : decode cX8_minuteOn 5 = .ok (.aload_n 1, 1) := by decide +kernel
theorem dX8_minuteOn_6 : decode cX8_minuteOn 6 = .ok (.aload_n 0, 1) := by decide +kernel
theorem dX8_minuteOn_7 : decode cX8_minuteOn 7 = .ok (.getfield 48, 3) := by decide +kernel
theorem dX8_minuteOn_10 : decode cX8_minuteOn 10 = .ok (.invokestatic 86, 3) := by decide +kernel
theorem dX8_minuteOn_13 : decode cX8_minuteOn 13 = .ok (.iconst 0, 1) := by decide +kernel
theorem dX8_minuteOn_14 : decode cX8_minuteOn 14 = .ok (.istore_n 2, 1) := by decide +kernel
theorem dX8_minuteOn_15 : decode cX8_minuteOn 15 = .ok (.iload_n 2, 1) := by decide +kernel
theorem dX8_minuteOn_16 : decode cX8_minuteOn 16 = .ok (.aload_n 1, 1) := by decide +kernel
theorem dX8_minuteOn_17 : decode cX8_minuteOn 17 = .ok (.iconst 0, 1) := by decide +kernel
theorem dX8_minuteOn_18 : decode cX8_minuteOn 18 = .ok (.iaload, 1) := by decide +kernel
theorem dX8_minuteOn_19 : decode cX8_minuteOn 19 = .ok (.if_icmp .ge 15, 3) := by decide +kernel
theorem dX8_minuteOn_22 : decode cX8_minuteOn 22 = .ok (.aload_n 0, 1) := by decide +kernel
theorem dX8_minuteOn_23 : decode cX8_minuteOn 23 = .ok (.aload_n 1, 1) := by decide +kernel
theorem dX8_minuteOn_24 : decode cX8_minuteOn 24 = .ok (.iload_n 2, 1) := by decide +kernel
theorem dX8_minuteOn_25 : decode cX8_minuteOn 25 = .ok (.invokevirtual 90, 3) := by decide +kernel
theorem dX8_minuteOn_28 : decode cX8_minuteOn 28 = .ok (.iinc 2 1, 3) := by decide +kernel
theorem dX8_minuteOn_31 : decode cX8_minuteOn 31 = .ok (.goto (-16), 3) := by decide +kernel
theorem dX8_minuteOn_34 : decode cX8_minuteOn 34 = .ok (.return_, 1) := by decide +kernel
theorem dX8_runOn_0 : decode cX8_runOn 0 = .ok (.aload_n 1, 1) := by decide +kernel
theorem dX8_runOn_1 : decode cX8_runOn 1 = .ok (.iconst 5, 1) := by decide +kernel
theorem dX8_runOn_2 : decode cX8_runOn 2 = .ok (.iaload, 1) := by decide +kernel
theorem dX8_runOn_3 : decode cX8_runOn 3 = .ok (.istore_n 3, 1) := by decide +kernel
theorem dX8_runOn_4 : decode cX8_runOn 4 = .ok (.iconst 0, 1) := by decide +kernel
theorem dX8_runOn_5 : decode cX8_runOn 5 = .ok (.istore 4, 2) := by decide +kernel
theorem dX8_runOn_7 : decode cX8_runOn 7 = .ok (.iload 4, 2) := by decide +kernel
theorem dX8_runOn_9 : decode cX8_runOn 9 = .ok (.iload_n 2, 1) := by decide +kernel
theorem dX8_runOn_10 : decode cX8_runOn 10 = .ok (.if_icmp .ge 14, 3) := by decide +kernel
theorem dX8_runOn_13 : decode cX8_runOn 13 = .ok (.aload_n 0, 1) := by decide +kernel
theorem dX8_runOn_14 : decode cX8_runOn 14 = .ok (.aload_n 1, 1) := by decide +kernel
theorem dX8_runOn_15 : decode cX8_runOn 15 = .ok (.invokevirtual 93, 3) := by decide +kernel
theorem dX8_runOn_18 : decode cX8_runOn 18 = .ok (.iinc 4 1, 3) := by decide +kernel
theorem dX8_runOn_21 : decode cX8_runOn 21 = .ok (.goto (-14), 3) := by decide +kernel
theorem dX8_runOn_24 : decode cX8_runOn 24 = .ok (.aload_n 1, 1) := by decide +kernel
theorem dX8_runOn_25 : decode cX8_runOn 25 = .ok (.iconst 5, 1) := by decide +kernel
theorem dX8_runOn_26 : decode cX8_runOn 26 = .ok (.iaload, 1) := by decide +kernel
theorem dX8_runOn_27 : decode cX8_runOn 27 = .ok (.iload_n 3, 1) := by decide +kernel
theorem dX8_runOn_28 : decode cX8_runOn 28 = .ok (.isub, 1) := by decide +kernel
theorem dX8_runOn_29 : decode cX8_runOn 29 = .ok (.ireturn, 1) := by decide +kernel
theorem dX8_isNew_0 : decode cX8_isNew 0 = .ok (.iload_n 0, 1) := by decide +kernel
theorem dX8_isNew_1 : decode cX8_isNew 1 = .ok (.i2l, 1) := by decide +kernel
theorem dX8_isNew_2 : decode cX8_isNew 2 = .ok (.lconst 1, 1) := by decide +kernel
theorem dX8_isNew_3 : decode cX8_isNew 3 = .ok (.ldc2_w 96, 3) := by decide +kernel
theorem dX8_isNew_6 : decode cX8_isNew 6 = .ok (.invokestatic 40, 3) := by decide +kernel
theorem dX8_isNew_9 : decode cX8_isNew 9 = .ok (.ifCond .eq 36, 3) := by decide +kernel
theorem dX8_isNew_12 : decode cX8_isNew 12 = .ok (.iload_n 1, 1) := by decide +kernel
theorem dX8_isNew_13 : decode cX8_isNew 13 = .ok (.i2l, 1) := by decide +kernel
theorem dX8_isNew_14 : decode cX8_isNew 14 = .ok (.ldc2_w 98, 3) := by decide +kernel
theorem dX8_isNew_17 : decode cX8_isNew 17 = .ok (.ldc2_w 100, 3) := by decide +kernel
theorem dX8_isNew_20 : decode cX8_isNew 20 = .ok (.invokestatic 40, 3) := by decide +kernel
theorem dX8_isNew_23 : decode cX8_isNew 23 = .ok (.ifCond .eq 22, 3) := by decide +kernel
theorem dX8_isNew_26 : decode cX8_isNew 26 = .ok (.iload_n 2, 1) := by decide +kernel
theorem dX8_isNew_27 : decode cX8_isNew 27 = .ok (.i2l, 1) := by decide +kernel
theorem dX8_isNew_28 : decode cX8_isNew 28 = .ok (.iload_n 1, 1) := by decide +kernel
theorem dX8_isNew_29 : decode cX8_isNew 29 = .ok (.iconst 1, 1) := by decide +kernel
theorem dX8_isNew_30 : decode cX8_isNew 30 = .ok (.iadd, 1) := by decide +kernel
theorem dX8_isNew_31 : decode cX8_isNew 31 = .ok (.i2l, 1) := by decide +kernel
theorem dX8_isNew_32 : decode cX8_isNew 32 = .ok (.ldc2_w 100, 3) := by decide +kernel
theorem dX8_isNew_35 : decode cX8_isNew 35 = .ok (.invokestatic 40, 3) := by decide +kernel
theorem dX8_isNew_38 : decode cX8_isNew 38 = .ok (.ifCond .eq 7, 3) := by decide +kernel
theorem dX8_isNew_41 : decode cX8_isNew 41 = .ok (.iconst 1, 1) := by decide +kernel
theorem dX8_isNew_42 : decode cX8_isNew 42 = .ok (.goto 4, 3) := by decide +kernel
theorem dX8_isNew_45 : decode cX8_isNew 45 = .ok (.iconst 0, 1) := by decide +kernel
theorem dX8_isNew_46 : decode cX8_isNew 46 = .ok (.ireturn, 1) := by decide +kernel
theorem dX8_addOn_0 : decode cX8_addOn 0 = .ok (.aload_n 0, 1) := by decide +kernel
theorem dX8_addOn_1 : decode cX8_addOn 1 = .ok (.iconst 0, 1) := by decide +kernel
theorem dX8_addOn_2 : decode cX8_addOn 2 = .ok (.iaload, 1) := by decide +kernel
theorem dX8_addOn_3 : decode cX8_addOn 3 = .ok (.istore 4, 2) := by decide +kernel
theorem dX8_addOn_5 : decode cX8_addOn 5 = .ok (.iconst 0, 1) := by decide +kernel
theorem dX8_addOn_6 : decode cX8_addOn 6 = .ok (.istore 5, 2) := by decide +kernel
theorem dX8_addOn_8 : decode cX8_addOn 8 = .ok (.iload 5, 2) := by decide +kernel
theorem dX8_addOn_10 : decode cX8_addOn 10 = .ok (.bipush 8, 2) := by decide +kernel
theorem dX8_addOn_12 : decode cX8_addOn 12 = .ok (.if_icmp .ge 18, 3) := by decide +kernel
theorem dX8_addOn_15 : decode cX8_addOn 15 = .ok (.aload_n 0, 1) := by decide +kernel
theorem dX8_addOn_16 : decode cX8_addOn 16 = .ok (.iload 4, 2) := by decide +kernel
theorem dX8_addOn_18 : decode cX8_addOn 18 = .ok (.iload 5, 2) := by decide +kernel
theorem dX8_addOn_20 : decode cX8_addOn 20 = .ok (.iconst 0, 1) := by decide +kernel
theorem dX8_addOn_21 : decode cX8_addOn 21 = .ok (.invokestatic 79, 3) := by decide +kernel
theorem dX8_addOn_24 : decode cX8_addOn 24 = .ok (.iinc 5 1, 3) := by decide +kernel
theorem dX8_addOn_27 : decode cX8_addOn 27 = .ok (.goto (-19), 3) := by decide +kernel
theorem dX8_addOn_30 : decode cX8_addOn 30 = .ok (.aload_n 0, 1) := by decide +kernel
theorem dX8_addOn_31 : decode cX8_addOn 31 = .ok (.iload 4, 2) := by decide +kernel
theorem dX8_addOn_33 : decode cX8_addOn 33 = .ok (.iconst 0, 1) := by decide +kernel
theorem dX8_addOn_34 : decode cX8_addOn 34 = .ok (.iload_n 1, 1) := by decide +kernel
theorem dX8_addOn_35 : decode cX8_addOn 35 = .ok (.invokestatic 79, 3) := by decide +kernel
theorem dX8_addOn_38 : decode cX8_addOn 38 = .ok (.aload_n 0, 1) := by decide +kernel
theorem dX8_addOn_39 : decode cX8_addOn 39 = .ok (.iload 4, 2) := by decide +kernel
theorem dX8_addOn_41 : decode cX8_addOn 41 = .ok (.iconst 1, 1) := by decide +kernel
theorem dX8_addOn_42 : decode cX8_addOn 42 = .ok (.iload_n 2, 1) := by decide +kernel
theorem dX8_addOn_43 : decode cX8_addOn 43 = .ok (.invokestatic 79, 3) := by decide +kernel
theorem dX8_addOn_46 : decode cX8_addOn 46 = .ok (.aload_n 0, 1) := by decide +kernel
theorem dX8_addOn_47 : decode cX8_addOn 47 = .ok (.iload 4, 2) := by decide +kernel
theorem dX8_addOn_49 : decode cX8_addOn 49 = .ok (.iconst 2, 1) := by decide +kernel
theorem dX8_addOn_50 : decode cX8_addOn 50 = .ok (.iload_n 3, 1) := by decide +kernel
theorem dX8_addOn_51 : decode cX8_addOn 51 = .ok (.invokestatic 79, 3) := by decide +kernel
theorem dX8_addOn_54 : decode cX8_addOn 54 = .ok (.aload_n 0, 1) := by decide +kernel
theorem dX8_addOn_55 : decode cX8_addOn 55 = .ok (.iload 4, 2) := by decide +kernel
theorem dX8_addOn_57 : decode cX8_addOn 57 = .ok (.iconst 3, 1) := by decide +kernel
theorem dX8_addOn_58 : decode cX8_addOn 58 = .ok (.iload_n 2, 1) := by decide +kernel
theorem dX8_addOn_59 : decode cX8_addOn 59 = .ok (.invokestatic 79, 3) := by decide +kernel
theorem dX8_addOn_62 : decode cX8_addOn 62 = .ok (.aload_n 0, 1) := by decide +kernel
theorem dX8_addOn_63 : decode cX8_addOn 63 = .ok (.iconst 0, 1) := by decide +kernel
theorem dX8_addOn_64 : decode cX8_addOn 64 = .ok (.dup2, 1) := by decide +kernel
theorem dX8_addOn_65 : decode cX8_addOn 65 = .ok (.iaload, 1) := by decide +kernel
theorem dX8_addOn_66 : decode cX8_addOn 66 = .ok (.iconst 1, 1) := by decide +kernel
theorem dX8_addOn_67 : decode cX8_addOn 67 = .ok (.iadd, 1) := by decide +kernel
theorem dX8_addOn_68 : decode cX8_addOn 68 = .ok (.iastore, 1) := by decide +kernel
theorem dX8_addOn_69 : decode cX8_addOn 69 = .ok (.iload 4, 2) := by decide +kernel
theorem dX8_addOn_71 : decode cX8_addOn 71 = .ok (.ireturn, 1) := by decide +kernel
theorem dX8_doorOn_0 : decode cX8_doorOn 0 = .ok (.aload_n 0, 1) := by decide +kernel
theorem dX8_doorOn_1 : decode cX8_doorOn 1 = .ok (.iload_n 1, 1) := by decide +kernel
theorem dX8_doorOn_2 : decode cX8_doorOn 2 = .ok (.iconst 4, 1) := by decide +kernel
theorem dX8_doorOn_3 : decode cX8_doorOn 3 = .ok (.iload_n 2, 1) := by decide +kernel
theorem dX8_doorOn_4 : decode cX8_doorOn 4 = .ok (.ifCond .eq 7, 3) := by decide +kernel
theorem dX8_doorOn_7 : decode cX8_doorOn 7 = .ok (.iconst 1, 1) := by decide +kernel
theorem dX8_doorOn_8 : decode cX8_doorOn 8 = .ok (.goto 4, 3) := by decide +kernel
theorem dX8_doorOn_11 : decode cX8_doorOn 11 = .ok (.iconst 0, 1) := by decide +kernel
theorem dX8_doorOn_12 : decode cX8_doorOn 12 = .ok (.invokestatic 79, 3) := by decide +kernel
theorem dX8_doorOn_15 : decode cX8_doorOn 15 = .ok (.iconst 0, 1) := by decide +kernel
theorem dX8_doorOn_16 : decode cX8_doorOn 16 = .ok (.istore_n 3, 1) := by decide +kernel
theorem dX8_doorOn_17 : decode cX8_doorOn 17 = .ok (.iconst 0, 1) := by decide +kernel
theorem dX8_doorOn_18 : decode cX8_doorOn 18 = .ok (.istore 4, 2) := by decide +kernel
theorem dX8_doorOn_20 : decode cX8_doorOn 20 = .ok (.iload 4, 2) := by decide +kernel
theorem dX8_doorOn_22 : decode cX8_doorOn 22 = .ok (.aload_n 0, 1) := by decide +kernel
theorem dX8_doorOn_23 : decode cX8_doorOn 23 = .ok (.iconst 0, 1) := by decide +kernel
theorem dX8_doorOn_24 : decode cX8_doorOn 24 = .ok (.iaload, 1) := by decide +kernel
theorem dX8_doorOn_25 : decode cX8_doorOn 25 = .ok (.if_icmp .ge 19, 3) := by decide +kernel
theorem dX8_doorOn_28 : decode cX8_doorOn 28 = .ok (.iload_n 3, 1) := by decide +kernel
theorem dX8_doorOn_29 : decode cX8_doorOn 29 = .ok (.aload_n 0, 1) := by decide +kernel
theorem dX8_doorOn_30 : decode cX8_doorOn 30 = .ok (.iload 4, 2) := by decide +kernel
theorem dX8_doorOn_32 : decode cX8_doorOn 32 = .ok (.iconst 4, 1) := by decide +kernel
theorem dX8_doorOn_33 : decode cX8_doorOn 33 = .ok (.invokestatic 44, 3) := by decide +kernel
theorem dX8_doorOn_36 : decode cX8_doorOn 36 = .ok (.iadd, 1) := by decide +kernel
theorem dX8_doorOn_37 : decode cX8_doorOn 37 = .ok (.istore_n 3, 1) := by decide +kernel
theorem dX8_doorOn_38 : decode cX8_doorOn 38 = .ok (.iinc 4 1, 3) := by decide +kernel
theorem dX8_doorOn_41 : decode cX8_doorOn 41 = .ok (.goto (-21), 3) := by decide +kernel
theorem dX8_doorOn_44 : decode cX8_doorOn 44 = .ok (.iload_n 3, 1) := by decide +kernel
theorem dX8_doorOn_45 : decode cX8_doorOn 45 = .ok (.ireturn, 1) := by decide +kernel
theorem dX8_goodsOn_0 : decode cX8_goodsOn 0 = .ok (.aload_n 0, 1) := by decide +kernel
theorem dX8_goodsOn_1 : decode cX8_goodsOn 1 = .ok (.iload_n 1, 1) := by decide +kernel
theorem dX8_goodsOn_2 : decode cX8_goodsOn 2 = .ok (.iconst 3, 1) := by decide +kernel
theorem dX8_goodsOn_3 : decode cX8_goodsOn 3 = .ok (.invokestatic 44, 3) := by decide +kernel
theorem dX8_goodsOn_6 : decode cX8_goodsOn 6 = .ok (.istore_n 3, 1) := by decide +kernel
theorem dX8_goodsOn_7 : decode cX8_goodsOn 7 = .ok (.aload_n 0, 1) := by decide +kernel
theorem dX8_goodsOn_8 : decode cX8_goodsOn 8 = .ok (.iload_n 1, 1) := by decide +kernel
theorem dX8_goodsOn_9 : decode cX8_goodsOn 9 = .ok (.iconst 3, 1) := by decide +kernel
theorem dX8_goodsOn_10 : decode cX8_goodsOn 10 = .ok (.iload_n 2, 1) := by decide +kernel
theorem dX8_goodsOn_11 : decode cX8_goodsOn 11 = .ok (.invokestatic 79, 3) := by decide +kernel
theorem dX8_goodsOn_14 : decode cX8_goodsOn 14 = .ok (.iload_n 3, 1) := by decide +kernel
theorem dX8_goodsOn_15 : decode cX8_goodsOn 15 = .ok (.ireturn, 1) := by decide +kernel
theorem dX8_isSetting_0 : decode cX8_isSetting 0 = .ok (.iload_n 0, 1) := by decide +kernel
theorem dX8_isSetting_1 : decode cX8_isSetting 1 = .ok (.i2l, 1) := by decide +kernel
theorem dX8_isSetting_2 : decode cX8_isSetting 2 = .ok (.lconst 0, 1) := by decide +kernel
theorem dX8_isSetting_3 : decode cX8_isSetting 3 = .ok (.ldc2_w 102, 3) := by decide +kernel
theorem dX8_isSetting_6 : decode cX8_isSetting 6 = .ok (.invokestatic 40, 3) := by decide +kernel
theorem dX8_isSetting_9 : decode cX8_isSetting 9 = .ok (.ifCond .ne 5, 3) := by decide +kernel
theorem dX8_isSetting_12 : decode cX8_isSetting 12 = .ok (.iconst 0, 1) := by decide +kernel
theorem dX8_isSetting_13 : decode cX8_isSetting 13 = .ok (.ireturn, 1) := by decide +kernel
theorem dX8_isSetting_14 : decode cX8_isSetting 14 = .ok (.iload_n 1, 1) := by decide +kernel
theorem dX8_isSetting_15 : decode cX8_isSetting 15 = .ok (.i2l, 1) := by decide +kernel
theorem dX8_isSetting_16 : decode cX8_isSetting 16 = .ok (.iload_n 0, 1) := by decide +kernel
theorem dX8_isSetting_17 : decode cX8_isSetting 17 = .ok (.iconst 3, 1) := by decide +kernel
theorem dX8_isSetting_18 : decode cX8_isSetting 18 = .ok (.if_icmp .ge 7, 3) := by decide +kernel
theorem dX8_isSetting_21 : decode cX8_isSetting 21 = .ok (.lconst 0, 1) := by decide +kernel
theorem dX8_isSetting_22 : decode cX8_isSetting 22 = .ok (.goto 4, 3) := by decide +kernel
theorem dX8_isSetting_25 : decode cX8_isSetting 25 = .ok (.lconst 1, 1) := by decide +kernel
theorem dX8_isSetting_26 : decode cX8_isSetting 26 = .ok (.iload_n 0, 1) := by decide +kernel
theorem dX8_isSetting_27 : decode cX8_isSetting 27 = .ok (.ifCond .ne 9, 3) := by decide +kernel
theorem dX8_isSetting_30 : decode cX8_isSetting 30 = .ok (.ldc2_w 104, 3) := by decide +kernel
theorem dX8_isSetting_33 : decode cX8_isSetting 33 = .ok (.goto 50, 3) := by decide +kernel
theorem dX8_isSetting_36 : decode cX8_isSetting 36 = .ok (.iload_n 0, 1) := by decide +kernel
theorem dX8_isSetting_37 : decode cX8_isSetting 37 = .ok (.iconst 1, 1) := by decide +kernel
theorem dX8_isSetting_38 : decode cX8_isSetting 38 = .ok (.if_icmp .ne 9, 3) := by decide +kernel
theorem dX8_isSetting_41 : decode cX8_isSetting 41 = .ok (.ldc2_w 106, 3) := by decide +kernel
theorem dX8_isSetting_44 : decode cX8_isSetting 44 = .ok (.goto 39, 3) := by decide +kernel
theorem dX8_isSetting_47 : decode cX8_isSetting 47 = .ok (.iload_n 0, 1) := by decide +kernel
theorem dX8_isSetting_48 : decode cX8_isSetting 48 = .ok (.iconst 2, 1) := by decide +kernel
theorem dX8_isSetting_49 : decode cX8_isSetting 49 = .ok (.if_icmp .ne 9, 3) := by decide +kernel
theorem dX8_isSetting_52 : decode cX8_isSetting 52 = .ok (.ldc2_w 108, 3) := by decide +kernel
theorem dX8_isSetting_55 : decode cX8_isSetting 55 = .ok (.goto 28, 3) := by decide +kernel
theorem dX8_isSetting_58 : decode cX8_isSetting 58 = .ok (.iload_n 0, 1) := by decide +kernel
theorem dX8_isSetting_59 : decode cX8_isSetting 59 = .ok (.iconst 3, 1) := by decide +kernel
theorem dX8_isSetting_60 : decode cX8_isSetting 60 = .ok (.if_icmp .ne 9, 3) := by decide +kernel
theorem dX8_isSetting_63 : decode cX8_isSetting 63 = .ok (.ldc2_w 96, 3) := by decide +kernel
theorem dX8_isSetting_66 : decode cX8_isSetting 66 = .ok (.goto 17, 3) := by decide +kernel
theorem dX8_isSetting_69 : decode cX8_isSetting 69 = .ok (.iload_n 0, 1) := by decide +kernel
theorem dX8_isSetting_70 : decode cX8_isSetting 70 = .ok (.iconst 4, 1) := by decide +kernel
theorem dX8_isSetting_71 : decode cX8_isSetting 71 = .ok (.if_icmp .ne 9, 3) := by decide +kernel
theorem dX8_isSetting_74 : decode cX8_isSetting 74 = .ok (.ldc2_w 110, 3) := by decide +kernel
theorem dX8_isSetting_77 : decode cX8_isSetting 77 = .ok (.goto 6, 3) := by decide +kernel
theorem dX8_isSetting_80 : decode cX8_isSetting 80 = .ok (.ldc2_w 112, 3) := by decide +kernel
theorem dX8_isSetting_83 : decode cX8_isSetting 83 = .ok (.invokestatic 40, 3) := by decide +kernel
theorem dX8_isSetting_86 : decode cX8_isSetting 86 = .ok (.ireturn, 1) := by decide +kernel
theorem dX8_append_0 : decode cX8_append 0 = .ok (.aload_n 0, 1) := by decide +kernel
theorem dX8_append_1 : decode cX8_append 1 = .ok (.iload_n 1, 1) := by decide +kernel
theorem dX8_append_2 : decode cX8_append 2 = .ok (.i2l, 1) := by decide +kernel
theorem dX8_append_3 : decode cX8_append 3 = .ok (.lconst 0, 1) := by decide +kernel
theorem dX8_append_4 : decode cX8_append 4 = .ok (.ldc2_w 114, 3) := by decide +kernel
theorem dX8_append_7 : decode cX8_append 7 = .ok (.invokestatic 40, 3) := by decide +kernel
theorem dX8_append_10 : decode cX8_append 10 = .ok (.ifCond .ne 7, 3) := by decide +kernel
theorem dX8_append_13 : decode cX8_append 13 = .ok (.iconst 1, 1) := by decide +kernel
theorem dX8_append_14 : decode cX8_append 14 = .ok (.goto 17, 3) := by decide +kernel
theorem dX8_append_17 : decode cX8_append 17 = .ok (.aload_n 0, 1) := by decide +kernel
theorem dX8_append_18 : decode cX8_append 18 = .ok (.getfield 116, 3) := by decide +kernel
theorem dX8_append_21 : decode cX8_append 21 = .ok (.bipush 120, 2) := by decide +kernel
theorem dX8_append_23 : decode cX8_append 23 = .ok (.if_icmp .ne 7, 3) := by decide +kernel
theorem dX8_append_26 : decode cX8_append 26 = .ok (.iconst 2, 1) := by decide +kernel
theorem dX8_append_27 : decode cX8_append 27 = .ok (.goto 4, 3) := by decide +kernel
theorem dX8_append_30 : decode cX8_append 30 = .ok (.iconst 0, 1) := by decide +kernel
theorem dX8_append_31 : decode cX8_append 31 = .ok (.invokevirtual 119, 3) := by decide +kernel
theorem dX8_append_34 : decode cX8_append 34 = .ok (.ifCond .eq 5, 3) := by decide +kernel
theorem dX8_append_37 : decode cX8_append 37 = .ok (.iconst 0, 1) := by decide +kernel
theorem dX8_append_38 : decode cX8_append 38 = .ok (.ireturn, 1) := by decide +kernel
theorem dX8_append_39 : decode cX8_append 39 = .ok (.aload_n 0, 1) := by decide +kernel
theorem dX8_append_40 : decode cX8_append 40 = .ok (.getfield 7, 3) := by decide +kernel
theorem dX8_append_43 : decode cX8_append 43 = .ok (.aload_n 0, 1) := by decide +kernel
theorem dX8_append_44 : decode cX8_append 44 = .ok (.getfield 116, 3) := by decide +kernel
theorem dX8_append_47 : decode cX8_append 47 = .ok (.iload_n 1, 1) := by decide +kernel
theorem dX8_append_48 : decode cX8_append 48 = .ok (.iastore, 1) := by decide +kernel
theorem dX8_append_49 : decode cX8_append 49 = .ok (.aload_n 0, 1) := by decide +kernel
theorem dX8_append_50 : decode cX8_append 50 = .ok (.dup, 1) := by decide +kernel
theorem dX8_append_51 : decode cX8_append 51 = .ok (.getfield 116, 3) := by decide +kernel
theorem dX8_append_54 : decode cX8_append 54 = .ok (.iconst 1, 1) := by decide +kernel
theorem dX8_append_55 : decode cX8_append 55 = .ok (.iadd, 1) := by decide +kernel
theorem dX8_append_56 : decode cX8_append 56 = .ok (.putfield 116, 3) := by decide +kernel
theorem dX8_append_59 : decode cX8_append 59 = .ok (.aload_n 0, 1) := by decide +kernel
theorem dX8_append_60 : decode cX8_append 60 = .ok (.getfield 116, 3) := by decide +kernel
theorem dX8_append_63 : decode cX8_append 63 = .ok (.ireturn, 1) := by decide +kernel
theorem dX8_clearText_0 : decode cX8_clearText 0 = .ok (.aload_n 0, 1) := by decide +kernel
theorem dX8_clearText_1 : decode cX8_clearText 1 = .ok (.iconst 0, 1) := by decide +kernel
theorem dX8_clearText_2 : decode cX8_clearText 2 = .ok (.putfield 36, 3) := by decide +kernel
theorem dX8_clearText_5 : decode cX8_clearText 5 = .ok (.aload_n 0, 1) := by decide +kernel
theorem dX8_clearText_6 : decode cX8_clearText 6 = .ok (.getfield 116, 3) := by decide +kernel
theorem dX8_clearText_9 : decode cX8_clearText 9 = .ok (.istore_n 1, 1) := by decide +kernel
theorem dX8_clearText_10 : decode cX8_clearText 10 = .ok (.aload_n 0, 1) := by decide +kernel
theorem dX8_clearText_11 : decode cX8_clearText 11 = .ok (.iconst 0, 1) := by decide +kernel
theorem dX8_clearText_12 : decode cX8_clearText 12 = .ok (.putfield 116, 3) := by decide +kernel
theorem dX8_clearText_15 : decode cX8_clearText 15 = .ok (.iload_n 1, 1) := by decide +kernel
theorem dX8_clearText_16 : decode cX8_clearText 16 = .ok (.ireturn, 1) := by decide +kernel
theorem dX8_at_0 : decode cX8_at 0 = .ok (.iload_n 1, 1) := by decide +kernel
theorem dX8_at_1 : decode cX8_at 1 = .ok (.aload_n 0, 1) := by decide +kernel
theorem dX8_at_2 : decode cX8_at 2 = .ok (.getfield 116, 3) := by decide +kernel
theorem dX8_at_5 : decode cX8_at 5 = .ok (.if_icmp .ge 12, 3) := by decide +kernel
theorem dX8_at_8 : decode cX8_at 8 = .ok (.aload_n 0, 1) := by decide +kernel
theorem dX8_at_9 : decode cX8_at 9 = .ok (.getfield 7, 3) := by decide +kernel
theorem dX8_at_12 : decode cX8_at 12 = .ok (.iload_n 1, 1) := by decide +kernel
theorem dX8_at_13 : decode cX8_at 13 = .ok (.iaload, 1) := by decide +kernel
theorem dX8_at_14 : decode cX8_at 14 = .ok (.goto 4, 3) := by decide +kernel
theorem dX8_at_17 : decode cX8_at 17 = .ok (.iconst (-1), 1) := by decide +kernel
theorem dX8_at_18 : decode cX8_at 18 = .ok (.ireturn, 1) := by decide +kernel
theorem dX8_figures_0 : decode cX8_figures 0 = .ok (.iconst 1, 1) := by decide +kernel
theorem dX8_figures_1 : decode cX8_figures 1 = .ok (.istore 4, 2) := by decide +kernel
theorem dX8_figures_3 : decode cX8_figures 3 = .ok (.iconst 1, 1) := by decide +kernel
theorem dX8_figures_4 : decode cX8_figures 4 = .ok (.istore 5, 2) := by decide +kernel
theorem dX8_figures_6 : decode cX8_figures 6 = .ok (.iload 5, 2) := by decide +kernel
theorem dX8_figures_8 : decode cX8_figures 8 = .ok (.iload_n 1, 1) := by decide +kernel
theorem dX8_figures_9 : decode cX8_figures 9 = .ok (.if_icmp .ge 16, 3) := by decide +kernel
theorem dX8_figures_12 : decode cX8_figures 12 = .ok (.iload 4, 2) := by decide +kernel
theorem dX8_figures_14 : decode cX8_figures 14 = .ok (.bipush 10, 2) := by decide +kernel
theorem dX8_figures_16 : decode cX8_figures 16 = .ok (.imul, 1) := by decide +kernel
theorem dX8_figures_17 : decode cX8_figures 17 = .ok (.istore 4, 2) := by decide +kernel
theorem dX8_figures_19 : decode cX8_figures 19 = .ok (.iinc 5 1, 3) := by decide +kernel
theorem dX8_figures_22 : decode cX8_figures 22 = .ok (.goto (-16), 3) := by decide +kernel
theorem dX8_figures_25 : decode cX8_figures 25 = .ok (.iconst 0, 1) := by decide +kernel
theorem dX8_figures_26 : decode cX8_figures 26 = .ok (.istore 5, 2) := by decide +kernel
theorem dX8_figures_28 : decode cX8_figures 28 = .ok (.iload 4, 2) := by decide +kernel
theorem dX8_figures_30 : decode cX8_figures 30 = .ok (.ifCond .le 119, 3) := by decide +kernel
theorem dX8_figures_33 : decode cX8_figures 33 = .ok (.aload_n 0, 1) := by decide +kernel
theorem dX8_figures_34 : decode cX8_figures 34 = .ok (.getfield 123, 3) := by decide +kernel
theorem dX8_figures_37 : decode cX8_figures 37 = .ok (.ifCond .eq 112, 3) := by decide +kernel
theorem dX8_figures_40 : decode cX8_figures 40 = .ok (.aload_n 0, 1) := by decide +kernel
theorem dX8_figures_41 : decode cX8_figures 41 = .ok (.aload_n 0, 1) := by decide +kernel
theorem dX8_figures_42 : decode cX8_figures 42 = .ok (.getfield 127, 3) := by decide +kernel
theorem dX8_figures_45 : decode cX8_figures 45 = .ok (.invokevirtual 130, 3) := by decide +kernel
theorem dX8_figures_48 : decode cX8_figures 48 = .ok (.bipush 48, 2) := by decide +kernel
theorem dX8_figures_50 : decode cX8_figures 50 = .ok (.isub, 1) := by decide +kernel
theorem dX8_figures_51 : decode cX8_figures 51 = .ok (.istore 6, 2) := by decide +kernel
theorem dX8_figures_53 : decode cX8_figures 53 = .ok (.iload 5, 2) := by decide +kernel
theorem dX8_figures_55 : decode cX8_figures 55 = .ok (.iload 6, 2) := by decide +kernel
theorem dX8_figures_57 : decode cX8_figures 57 = .ok (.iload 4, 2) := by decide +kernel
theorem dX8_figures_59 : decode cX8_figures 59 = .ok (.imul, 1) := by decide +kernel
theorem dX8_figures_60 : decode cX8_figures 60 = .ok (.iadd, 1) := by decide +kernel
theorem dX8_figures_61 : decode cX8_figures 61 = .ok (.istore 7, 2) := by decide +kernel
theorem dX8_figures_63 : decode cX8_figures 63 = .ok (.aload_n 0, 1) := by decide +kernel
theorem dX8_figures_64 : decode cX8_figures 64 = .ok (.iload 6, 2) := by decide +kernel
theorem dX8_figures_66 : decode cX8_figures 66 = .ok (.i2l, 1) := by decide +kernel
theorem dX8_figures_67 : decode cX8_figures 67 = .ok (.lconst 0, 1) := by decide +kernel
theorem dX8_figures_68 : decode cX8_figures 68 = .ok (.ldc2_w 134, 3) := by decide +kernel
theorem dX8_figures_71 : decode cX8_figures 71 = .ok (.invokestatic 40, 3) := by decide +kernel
theorem dX8_figures_74 : decode cX8_figures 74 = .ok (.ifCond .eq 24, 3) := by decide +kernel
theorem dX8_figures_77 : decode cX8_figures 77 = .ok (.iload 7, 2) := by decide +kernel
theorem dX8_figures_79 : decode cX8_figures 79 = .ok (.iload_n 3, 1) := by decide +kernel
theorem dX8_figures_80 : decode cX8_figures 80 = .ok (.if_icmp .gt 18, 3) := by decide +kernel
theorem dX8_figures_83 : decode cX8_figures 83 = .ok (.iload 7, 2) := by decide +kernel
theorem dX8_figures_85 : decode cX8_figures 85 = .ok (.iload 4, 2) := by decide +kernel
theorem dX8_figures_87 : decode cX8_figures 87 = .ok (.iadd, 1) := by decide +kernel
theorem dX8_figures_88 : decode cX8_figures 88 = .ok (.iconst 1, 1) := by decide +kernel
theorem dX8_figures_89 : decode cX8_figures 89 = .ok (.isub, 1) := by decide +kernel
theorem dX8_figures_90 : decode cX8_figures 90 = .ok (.iload_n 2, 1) := by decide +kernel
theorem dX8_figures_91 : decode cX8_figures 91 = .ok (.if_icmp .lt 7, 3) := by decide +kernel
theorem dX8_figures_94 : decode cX8_figures 94 = .ok (.iconst 1, 1) := by decide +kernel
theorem dX8_figures_95 : decode cX8_figures 95 = .ok (.goto 4, 3) := by decide +kernel
theorem dX8_figures_98 : decode cX8_figures 98 = .ok (.iconst 0, 1) := by decide +kernel
theorem dX8_figures_99 : decode cX8_figures 99 = .ok (.putfield 123, 3) := by decide +kernel
theorem dX8_figures_102 : decode cX8_figures 102 = .ok (.aload_n 0, 1) := by decide +kernel
theorem dX8_figures_103 : decode cX8_figures 103 = .ok (.getfield 123, 3) := by decide +kernel
theorem dX8_figures_106 : decode cX8_figures 106 = .ok (.ifCond .eq 8, 3) := by decide +kernel
theorem dX8_figures_109 : decode cX8_figures 109 = .ok (.iload 7, 2) := by decide +kernel
theorem dX8_figures_111 : decode cX8_figures 111 = .ok (.goto 5, 3) := by decide +kernel
theorem dX8_figures_114 : decode cX8_figures 114 = .ok (.iload 5, 2) := by decide +kernel
theorem dX8_figures_116 : decode cX8_figures 116 = .ok (.istore 5, 2) := by decide +kernel
theorem dX8_figures_118 : decode cX8_figures 118 = .ok (.aload_n 0, 1) := by decide +kernel
theorem dX8_figures_119 : decode cX8_figures 119 = .ok (.dup, 1) := by decide +kernel
theorem dX8_figures_120 : decode cX8_figures 120 = .ok (.getfield 127, 3) := by decide +kernel
theorem dX8_figures_123 : decode cX8_figures 123 = .ok (.aload_n 0, 1) := by decide +kernel
theorem dX8_figures_124 : decode cX8_figures 124 = .ok (.getfield 123, 3) := by decide +kernel
theorem dX8_figures_127 : decode cX8_figures 127 = .ok (.ifCond .eq 7, 3) := by decide +kernel
theorem dX8_figures_130 : decode cX8_figures 130 = .ok (.iconst 1, 1) := by decide +kernel
theorem dX8_figures_131 : decode cX8_figures 131 = .ok (.goto 4, 3) := by decide +kernel
theorem dX8_figures_134 : decode cX8_figures 134 = .ok (.iconst 0, 1) := by decide +kernel
theorem dX8_figures_135 : decode cX8_figures 135 = .ok (.iadd, 1) := by decide +kernel
theorem dX8_figures_136 : decode cX8_figures 136 = .ok (.putfield 127, 3) := by decide +kernel
theorem dX8_figures_139 : decode cX8_figures 139 = .ok (.iload 4, 2) := by decide +kernel
theorem dX8_figures_141 : decode cX8_figures 141 = .ok (.bipush 10, 2) := by decide +kernel
theorem dX8_figures_143 : decode cX8_figures 143 = .ok (.idiv, 1) := by decide +kernel
theorem dX8_figures_144 : decode cX8_figures 144 = .ok (.istore 4, 2) := by decide +kernel
theorem dX8_figures_146 : decode cX8_figures 146 = .ok (.goto (-118), 3) := by decide +kernel
theorem dX8_figures_149 : decode cX8_figures 149 = .ok (.iload 5, 2) := by decide +kernel
theorem dX8_figures_151 : decode cX8_figures 151 = .ok (.ireturn, 1) := by decide +kernel
theorem dX8_temperature_0 : decode cX8_temperature 0 = .ok (.aload_n 0, 1) := by decide +kernel
theorem dX8_temperature_1 : decode cX8_temperature 1 = .ok (.aload_n 0, 1) := by decide +kernel
theorem dX8_temperature_2 : decode cX8_temperature 2 = .ok (.getfield 127, 3) := by decide +kernel
theorem dX8_temperature_5 : decode cX8_temperature 5 = .ok (.invokevirtual 130, 3) := by decide +kernel
theorem dX8_temperature_8 : decode cX8_temperature 8 = .ok (.istore_n 1, 1) := by decide +kernel
theorem dX8_temperature_9 : decode cX8_temperature 9 = .ok (.aload_n 0, 1) := by decide +kernel
theorem dX8_temperature_10 : decode cX8_temperature 10 = .ok (.aload_n 0, 1) := by decide +kernel
theorem dX8_temperature_11 : decode cX8_temperature 11 = .ok (.getfield 123, 3) := by decide +kernel
theorem dX8_temperature_14 : decode cX8_temperature 14 = .ok (.ifCond .eq 19, 3) := by decide +kernel
theorem dX8_temperature_17 : decode cX8_temperature 17 = .ok (.iload_n 1, 1) := by decide +kernel
theorem dX8_temperature_18 : decode cX8_temperature 18 = .ok (.bipush 43, 2) := by decide +kernel
theorem dX8_temperature_20 : decode cX8_temperature 20 = .ok (.if_icmp .eq 9, 3) := by decide +kernel
theorem dX8_temperature_23 : decode cX8_temperature 23 = .ok (.iload_n 1, 1) := by decide +kernel
theorem dX8_temperature_24 : decode cX8_temperature 24 = .ok (.bipush 45, 2) := by decide +kernel
theorem dX8_temperature_26 : decode cX8_temperature 26 = .ok (.if_icmp .ne 7, 3) := by decide +kernel
theorem dX8_temperature_29 : decode cX8_temperature 29 = .ok (.iconst 1, 1) := by decide +kernel
theorem dX8_temperature_30 : decode cX8_temperature 30 = .ok (.goto 4, 3) := by decide +kernel
theorem dX8_temperature_33 : decode cX8_temperature 33 = .ok (.iconst 0, 1) := by decide +kernel
theorem dX8_temperature_34 : decode cX8_temperature 34 = .ok (.putfield 123, 3) := by decide +kernel
theorem dX8_temperature_37 : decode cX8_temperature 37 = .ok (.aload_n 0, 1) := by decide +kernel
theorem dX8_temperature_38 : decode cX8_temperature 38 = .ok (.dup, 1) := by decide +kernel
theorem dX8_temperature_39 : decode cX8_temperature 39 = .ok (.getfield 127, 3) := by decide +kernel
theorem dX8_temperature_42 : decode cX8_temperature 42 = .ok (.aload_n 0, 1) := by decide +kernel
theorem dX8_temperature_43 : decode cX8_temperature 43 = .ok (.getfield 123, 3) := by decide +kernel
theorem dX8_temperature_46 : decode cX8_temperature 46 = .ok (.ifCond .eq 7, 3) := by decide +kernel
theorem dX8_temperature_49 : decode cX8_temperature 49 = .ok (.iconst 1, 1) := by decide +kernel
theorem dX8_temperature_50 : decode cX8_temperature 50 = .ok (.goto 4, 3) := by decide +kernel
theorem dX8_temperature_53 : decode cX8_temperature 53 = .ok (.iconst 0, 1) := by decide +kernel
theorem dX8_temperature_54 : decode cX8_temperature 54 = .ok (.iadd, 1) := by decide +kernel
theorem dX8_temperature_55 : decode cX8_temperature 55 = .ok (.putfield 127, 3) := by decide +kernel
theorem dX8_temperature_58 : decode cX8_temperature 58 = .ok (.aload_n 0, 1) := by decide +kernel
theorem dX8_temperature_59 : decode cX8_temperature 59 = .ok (.iconst 3, 1) := by decide +kernel
theorem dX8_temperature_60 : decode cX8_temperature 60 = .ok (.iconst 0, 1) := by decide +kernel
theorem dX8_temperature_61 : decode cX8_temperature 61 = .ok (.iload_n 1, 1) := by decide +kernel
theorem dX8_temperature_62 : decode cX8_temperature 62 = .ok (.bipush 45, 2) := by decide +kernel
theorem dX8_temperature_64 : decode cX8_temperature 64 = .ok (.if_icmp .ne 9, 3) := by decide +kernel
theorem dX8_temperature_67 : decode cX8_temperature 67 = .ok (.sipush 300, 3) := by decide +kernel
theorem dX8_temperature_70 : decode cX8_temperature 70 = .ok (.goto 6, 3) := by decide +kernel
theorem dX8_temperature_73 : decode cX8_temperature 73 = .ok (.sipush 200, 3) := by decide +kernel
theorem dX8_temperature_76 : decode cX8_temperature 76 = .ok (.invokevirtual 136, 3) := by decide +kernel
theorem dX8_temperature_79 : decode cX8_temperature 79 = .ok (.istore_n 2, 1) := by decide +kernel
theorem dX8_temperature_80 : decode cX8_temperature 80 = .ok (.iload_n 1, 1) := by decide +kernel
theorem dX8_temperature_81 : decode cX8_temperature 81 = .ok (.bipush 45, 2) := by decide +kernel
theorem dX8_temperature_83 : decode cX8_temperature 83 = .ok (.if_icmp .ne 8, 3) := by decide +kernel
theorem dX8_temperature_86 : decode cX8_temperature 86 = .ok (.iload_n 2, 1) := by decide +kernel
theorem dX8_temperature_87 : decode cX8_temperature 87 = .ok (.ineg, 1) := by decide +kernel
theorem dX8_temperature_88 : decode cX8_temperature 88 = .ok (.goto 4, 3) := by decide +kernel
theorem dX8_temperature_91 : decode cX8_temperature 91 = .ok (.iload_n 2, 1) := by decide +kernel
theorem dX8_temperature_92 : decode cX8_temperature 92 = .ok (.ireturn, 1) := by decide +kernel
theorem dX8_done_0 : decode cX8_done 0 = .ok (.aload_n 0, 1) := by decide +kernel
theorem dX8_done_1 : decode cX8_done 1 = .ok (.dup, 1) := by decide +kernel
theorem dX8_done_2 : decode cX8_done 2 = .ok (.getfield 139, 3) := by decide +kernel
theorem dX8_done_5 : decode cX8_done 5 = .ok (.iload_n 1, 1) := by decide +kernel
theorem dX8_done_6 : decode cX8_done 6 = .ok (.ifCond .eq 7, 3) := by decide +kernel
theorem dX8_done_9 : decode cX8_done 9 = .ok (.iconst 0, 1) := by decide +kernel
theorem dX8_done_10 : decode cX8_done 10 = .ok (.goto 4, 3) := by decide +kernel
theorem dX8_done_13 : decode cX8_done 13 = .ok (.iconst 1, 1) := by decide +kernel
theorem dX8_done_14 : decode cX8_done 14 = .ok (.iadd, 1) := by decide +kernel
theorem dX8_done_15 : decode cX8_done 15 = .ok (.putfield 139, 3) := by decide +kernel
theorem dX8_done_18 : decode cX8_done 18 = .ok (.iconst 1, 1) := by decide +kernel
theorem dX8_done_19 : decode cX8_done 19 = .ok (.ireturn, 1) := by decide +kernel
theorem dX8_readCommand_0 : decode cX8_readCommand 0 = .ok (.aload_n 0, 1) := by decide +kernel
theorem dX8_readCommand_1 : decode cX8_readCommand 1 = .ok (.getfield 7, 3) := by decide +kernel
theorem dX8_readCommand_4 : decode cX8_readCommand 4 = .ok (.aload_n 0, 1) := by decide +kernel
theorem dX8_readCommand_5 : decode cX8_readCommand 5 = .ok (.getfield 127, 3) := by decide +kernel
theorem dX8_readCommand_8 : decode cX8_readCommand 8 = .ok (.iaload, 1) := by decide +kernel
theorem dX8_readCommand_9 : decode cX8_readCommand 9 = .ok (.istore_n 2, 1) := by decide +kernel
theorem dX8_readCommand_10 : decode cX8_readCommand 10 = .ok (.aload_n 0, 1) := by decide +kernel
theorem dX8_readCommand_11 : decode cX8_readCommand 11 = .ok (.dup, 1) := by decide +kernel
theorem dX8_readCommand_12 : decode cX8_readCommand 12 = .ok (.getfield 127, 3) := by decide +kernel
theorem dX8_readCommand_15 : decode cX8_readCommand 15 = .ok (.iconst 1, 1) := by decide +kernel
theorem dX8_readCommand_16 : decode cX8_readCommand 16 = .ok (.iadd, 1) := by decide +kernel
theorem dX8_readCommand_17 : decode cX8_readCommand 17 = .ok (.putfield 127, 3) := by decide +kernel
theorem dX8_readCommand_20 : decode cX8_readCommand 20 = .ok (.aload_n 0, 1) := by decide +kernel
theorem dX8_readCommand_21 : decode cX8_readCommand 21 = .ok (.iconst 1, 1) := by decide +kernel
theorem dX8_readCommand_22 : decode cX8_readCommand 22 = .ok (.putfield 123, 3) := by decide +kernel
theorem dX8_readCommand_25 : decode cX8_readCommand 25 = .ok (.iload_n 2, 1) := by decide +kernel
theorem dX8_readCommand_26 : decode cX8_readCommand 26 = .ok (.tableswitch 288 108 122 #[254, 211, 288, 151, 288, 288, 74, 288, 288, 288, 288, 288, 288, 288, 151], 74) := by decide +kernel
theorem dX8_readCommand_100 : decode cX8_readCommand 100 = .ok (.aload_n 0, 1) := by decide +kernel
theorem dX8_readCommand_101 : decode cX8_readCommand 101 = .ok (.iconst 2, 1) := by decide +kernel
theorem dX8_readCommand_102 : decode cX8_readCommand 102 = .ok (.iconst 1, 1) := by decide +kernel
theorem dX8_readCommand_103 : decode cX8_readCommand 103 = .ok (.bipush 50, 2) := by decide +kernel
theorem dX8_readCommand_105 : decode cX8_readCommand 105 = .ok (.invokevirtual 136, 3) := by decide +kernel
theorem dX8_readCommand_108 : decode cX8_readCommand 108 = .ok (.istore_n 3, 1) := by decide +kernel
theorem dX8_readCommand_109 : decode cX8_readCommand 109 = .ok (.aload_n 0, 1) := by decide +kernel
theorem dX8_readCommand_110 : decode cX8_readCommand 110 = .ok (.invokevirtual 142, 3) := by decide +kernel
theorem dX8_readCommand_113 : decode cX8_readCommand 113 = .ok (.istore 4, 2) := by decide +kernel
theorem dX8_readCommand_115 : decode cX8_readCommand 115 = .ok (.aload_n 0, 1) := by decide +kernel
theorem dX8_readCommand_116 : decode cX8_readCommand 116 = .ok (.invokevirtual 142, 3) := by decide +kernel
theorem dX8_readCommand_119 : decode cX8_readCommand 119 = .ok (.istore 5, 2) := by decide +kernel
theorem dX8_readCommand_121 : decode cX8_readCommand 121 = .ok (.aload_n 0, 1) := by decide +kernel
theorem dX8_readCommand_122 : decode cX8_readCommand 122 = .ok (.getfield 123, 3) := by decide +kernel
theorem dX8_readCommand_125 : decode cX8_readCommand 125 = .ok (.ifCond .eq 50, 3) := by decide +kernel
theorem dX8_readCommand_128 : decode cX8_readCommand 128 = .ok (.aload_n 0, 1) := by decide +kernel
theorem dX8_readCommand_129 : decode cX8_readCommand 129 = .ok (.iload_n 3, 1) := by decide +kernel
theorem dX8_readCommand_130 : decode cX8_readCommand 130 = .ok (.iload 4, 2) := by decide +kernel
theorem dX8_readCommand_132 : decode cX8_readCommand 132 = .ok (.iload 5, 2) := by decide +kernel
theorem dX8_readCommand_134 : decode cX8_readCommand 134 = .ok (.invokestatic 146, 3) := by decide +kernel
theorem dX8_readCommand_137 : decode cX8_readCommand 137 = .ok (.ifCond .eq 27, 3) := by decide +kernel
theorem dX8_readCommand_140 : decode cX8_readCommand 140 = .ok (.aload_n 1, 1) := by decide +kernel
theorem dX8_readCommand_141 : decode cX8_readCommand 141 = .ok (.iconst 0, 1) := by decide +kernel
theorem dX8_readCommand_142 : decode cX8_readCommand 142 = .ok (.iaload, 1) := by decide +kernel
theorem dX8_readCommand_143 : decode cX8_readCommand 143 = .ok (.bipush 6, 2) := by decide +kernel
theorem dX8_readCommand_145 : decode cX8_readCommand 145 = .ok (.if_icmp .ge 19, 3) := by decide +kernel
theorem dX8_readCommand_148 : decode cX8_readCommand 148 = .ok (.aload_n 1, 1) := by decide +kernel
theorem dX8_readCommand_149 : decode cX8_readCommand 149 = .ok (.iload_n 3, 1) := by decide +kernel
theorem dX8_readCommand_150 : decode cX8_readCommand 150 = .ok (.iload 4, 2) := by decide +kernel
theorem dX8_readCommand_152 : decode cX8_readCommand 152 = .ok (.iload 5, 2) := by decide +kernel
theorem dX8_readCommand_154 : decode cX8_readCommand 154 = .ok (.invokestatic 150, 3) := by decide +kernel
theorem dX8_readCommand_157 : decode cX8_readCommand 157 = .ok (.ifCond .lt 7, 3) := by decide +kernel
theorem dX8_readCommand_160 : decode cX8_readCommand 160 = .ok (.iconst 1, 1) := by decide +kernel
theorem dX8_readCommand_161 : decode cX8_readCommand 161 = .ok (.goto 4, 3) := by decide +kernel
theorem dX8_readCommand_164 : decode cX8_readCommand 164 = .ok (.iconst 0, 1) := by decide +kernel
theorem dX8_readCommand_165 : decode cX8_readCommand 165 = .ok (.invokevirtual 154, 3) := by decide +kernel
theorem dX8_readCommand_168 : decode cX8_readCommand 168 = .ok (.ifCond .eq 7, 3) := by decide +kernel
theorem dX8_readCommand_171 : decode cX8_readCommand 171 = .ok (.iconst 1, 1) := by decide +kernel
theorem dX8_readCommand_172 : decode cX8_readCommand 172 = .ok (.goto 4, 3) := by decide +kernel
theorem dX8_readCommand_175 : decode cX8_readCommand 175 = .ok (.iconst 0, 1) := by decide +kernel
theorem dX8_readCommand_176 : decode cX8_readCommand 176 = .ok (.ireturn, 1) := by decide +kernel
theorem dX8_readCommand_177 : decode cX8_readCommand 177 = .ok (.aload_n 0, 1) := by decide +kernel
theorem dX8_readCommand_178 : decode cX8_readCommand 178 = .ok (.iconst 1, 1) := by decide +kernel
theorem dX8_readCommand_179 : decode cX8_readCommand 179 = .ok (.iconst 0, 1) := by decide +kernel
theorem dX8_readCommand_180 : decode cX8_readCommand 180 = .ok (.iconst 5, 1) := by decide +kernel
theorem dX8_readCommand_181 : decode cX8_readCommand 181 = .ok (.invokevirtual 136, 3) := by decide +kernel
theorem dX8_readCommand_184 : decode cX8_readCommand 184 = .ok (.istore_n 3, 1) := by decide +kernel
theorem dX8_readCommand_185 : decode cX8_readCommand 185 = .ok (.aload_n 0, 1) := by decide +kernel
theorem dX8_readCommand_186 : decode cX8_readCommand 186 = .ok (.getfield 123, 3) := by decide +kernel
theorem dX8_readCommand_189 : decode cX8_readCommand 189 = .ok (.ifCond .eq 46, 3) := by decide +kernel
theorem dX8_readCommand_192 : decode cX8_readCommand 192 = .ok (.aload_n 0, 1) := by decide +kernel
theorem dX8_readCommand_193 : decode cX8_readCommand 193 = .ok (.aload_n 1, 1) := by decide +kernel
theorem dX8_readCommand_194 : decode cX8_readCommand 194 = .ok (.iload_n 3, 1) := by decide +kernel
theorem dX8_readCommand_195 : decode cX8_readCommand 195 = .ok (.invokestatic 158, 3) := by decide +kernel
theorem dX8_readCommand_198 : decode cX8_readCommand 198 = .ok (.ifCond .eq 26, 3) := by decide +kernel
theorem dX8_readCommand_201 : decode cX8_readCommand 201 = .ok (.aload_n 1, 1) := by decide +kernel
theorem dX8_readCommand_202 : decode cX8_readCommand 202 = .ok (.iload_n 3, 1) := by decide +kernel
theorem dX8_readCommand_203 : decode cX8_readCommand 203 = .ok (.iload_n 2, 1) := by decide +kernel
theorem dX8_readCommand_204 : decode cX8_readCommand 204 = .ok (.bipush 111, 2) := by decide +kernel
theorem dX8_readCommand_206 : decode cX8_readCommand 206 = .ok (.if_icmp .ne 7, 3) := by decide +kernel
theorem dX8_readCommand_209 : decode cX8_readCommand 209 = .ok (.iconst 1, 1) := by decide +kernel
theorem dX8_readCommand_210 : decode cX8_readCommand 210 = .ok (.goto 4, 3) := by decide +kernel
theorem dX8_readCommand_213 : decode cX8_readCommand 213 = .ok (.iconst 0, 1) := by decide +kernel
theorem dX8_readCommand_214 : decode cX8_readCommand 214 = .ok (.invokestatic 161, 3) := by decide +kernel
theorem dX8_readCommand_217 : decode cX8_readCommand 217 = .ok (.ifCond .lt 7, 3) := by decide +kernel
theorem dX8_readCommand_220 : decode cX8_readCommand 220 = .ok (.iconst 1, 1) := by decide +kernel
theorem dX8_readCommand_221 : decode cX8_readCommand 221 = .ok (.goto 4, 3) := by decide +kernel
theorem dX8_readCommand_224 : decode cX8_readCommand 224 = .ok (.iconst 0, 1) := by decide +kernel
theorem dX8_readCommand_225 : decode cX8_readCommand 225 = .ok (.invokevirtual 154, 3) := by decide +kernel
theorem dX8_readCommand_228 : decode cX8_readCommand 228 = .ok (.ifCond .eq 7, 3) := by decide +kernel
theorem dX8_readCommand_231 : decode cX8_readCommand 231 = .ok (.iconst 1, 1) := by decide +kernel
theorem dX8_readCommand_232 : decode cX8_readCommand 232 = .ok (.goto 4, 3) := by decide +kernel
theorem dX8_readCommand_235 : decode cX8_readCommand 235 = .ok (.iconst 0, 1) := by decide +kernel
theorem dX8_readCommand_236 : decode cX8_readCommand 236 = .ok (.ireturn, 1) := by decide +kernel
theorem dX8_readCommand_237 : decode cX8_readCommand 237 = .ok (.aload_n 0, 1) := by decide +kernel
theorem dX8_readCommand_238 : decode cX8_readCommand 238 = .ok (.iconst 2, 1) := by decide +kernel
theorem dX8_readCommand_239 : decode cX8_readCommand 239 = .ok (.iconst 1, 1) := by decide +kernel
theorem dX8_readCommand_240 : decode cX8_readCommand 240 = .ok (.bipush 60, 2) := by decide +kernel
theorem dX8_readCommand_242 : decode cX8_readCommand 242 = .ok (.invokevirtual 136, 3) := by decide +kernel
theorem dX8_readCommand_245 : decode cX8_readCommand 245 = .ok (.istore_n 3, 1) := by decide +kernel
theorem dX8_readCommand_246 : decode cX8_readCommand 246 = .ok (.aload_n 0, 1) := by decide +kernel
theorem dX8_readCommand_247 : decode cX8_readCommand 247 = .ok (.getfield 123, 3) := by decide +kernel
theorem dX8_readCommand_250 : decode cX8_readCommand 250 = .ok (.ifCond .eq 28, 3) := by decide +kernel
theorem dX8_readCommand_253 : decode cX8_readCommand 253 = .ok (.aload_n 0, 1) := by decide +kernel
theorem dX8_readCommand_254 : decode cX8_readCommand 254 = .ok (.aload_n 0, 1) := by decide +kernel
theorem dX8_readCommand_255 : decode cX8_readCommand 255 = .ok (.aload_n 1, 1) := by decide +kernel
theorem dX8_readCommand_256 : decode cX8_readCommand 256 = .ok (.iload_n 3, 1) := by decide +kernel
theorem dX8_readCommand_257 : decode cX8_readCommand 257 = .ok (.invokevirtual 165, 3) := by decide +kernel
theorem dX8_readCommand_260 : decode cX8_readCommand 260 = .ok (.ifCond .lt 7, 3) := by decide +kernel
theorem dX8_readCommand_263 : decode cX8_readCommand 263 = .ok (.iconst 1, 1) := by decide +kernel
theorem dX8_readCommand_264 : decode cX8_readCommand 264 = .ok (.goto 4, 3) := by decide +kernel
theorem dX8_readCommand_267 : decode cX8_readCommand 267 = .ok (.iconst 0, 1) := by decide +kernel
theorem dX8_readCommand_268 : decode cX8_readCommand 268 = .ok (.invokevirtual 154, 3) := by decide +kernel
theorem dX8_readCommand_271 : decode cX8_readCommand 271 = .ok (.ifCond .eq 7, 3) := by decide +kernel
theorem dX8_readCommand_274 : decode cX8_readCommand 274 = .ok (.iconst 1, 1) := by decide +kernel
theorem dX8_readCommand_275 : decode cX8_readCommand 275 = .ok (.goto 4, 3) := by decide +kernel
theorem dX8_readCommand_278 : decode cX8_readCommand 278 = .ok (.iconst 0, 1) := by decide +kernel
theorem dX8_readCommand_279 : decode cX8_readCommand 279 = .ok (.ireturn, 1) := by decide +kernel
theorem dX8_readCommand_280 : decode cX8_readCommand 280 = .ok (.aload_n 0, 1) := by decide +kernel
theorem dX8_readCommand_281 : decode cX8_readCommand 281 = .ok (.iconst 4, 1) := by decide +kernel
theorem dX8_readCommand_282 : decode cX8_readCommand 282 = .ok (.iconst 0, 1) := by decide +kernel
theorem dX8_readCommand_283 : decode cX8_readCommand 283 = .ok (.sipush 9999, 3) := by decide +kernel
theorem dX8_readCommand_286 : decode cX8_readCommand 286 = .ok (.invokevirtual 136, 3) := by decide +kernel
theorem dX8_readCommand_289 : decode cX8_readCommand 289 = .ok (.istore_n 3, 1) := by decide +kernel
theorem dX8_readCommand_290 : decode cX8_readCommand 290 = .ok (.aload_n 1, 1) := by decide +kernel
theorem dX8_readCommand_291 : decode cX8_readCommand 291 = .ok (.bipush 10, 2) := by decide +kernel
theorem dX8_readCommand_293 : decode cX8_readCommand 293 = .ok (.aload_n 0, 1) := by decide +kernel
theorem dX8_readCommand_294 : decode cX8_readCommand 294 = .ok (.getfield 123, 3) := by decide +kernel
theorem dX8_readCommand_297 : decode cX8_readCommand 297 = .ok (.ifCond .eq 7, 3) := by decide +kernel
theorem dX8_readCommand_300 : decode cX8_readCommand 300 = .ok (.iload_n 3, 1) := by decide +kernel
theorem dX8_readCommand_301 : decode cX8_readCommand 301 = .ok (.goto 7, 3) := by decide +kernel
theorem dX8_readCommand_304 : decode cX8_readCommand 304 = .ok (.aload_n 1, 1) := by decide +kernel
theorem dX8_readCommand_305 : decode cX8_readCommand 305 = .ok (.bipush 10, 2) := by decide +kernel
theorem dX8_readCommand_307 : decode cX8_readCommand 307 = .ok (.iaload, 1) := by decide +kernel
theorem dX8_readCommand_308 : decode cX8_readCommand 308 = .ok (.iastore, 1) := by decide +kernel
theorem dX8_readCommand_309 : decode cX8_readCommand 309 = .ok (.aload_n 0, 1) := by decide +kernel
theorem dX8_readCommand_310 : decode cX8_readCommand 310 = .ok (.getfield 123, 3) := by decide +kernel
theorem dX8_readCommand_313 : decode cX8_readCommand 313 = .ok (.ireturn, 1) := by decide +kernel
theorem dX8_readCommand_314 : decode cX8_readCommand 314 = .ok (.aload_n 0, 1) := by decide +kernel
theorem dX8_readCommand_315 : decode cX8_readCommand 315 = .ok (.dup, 1) := by decide +kernel
theorem dX8_readCommand_316 : decode cX8_readCommand 316 = .ok (.getfield 127, 3) := by decide +kernel
theorem dX8_readCommand_319 : decode cX8_readCommand 319 = .ok (.iconst 1, 1) := by decide +kernel
theorem dX8_readCommand_320 : decode cX8_readCommand 320 = .ok (.isub, 1) := by decide +kernel
theorem dX8_readCommand_321 : decode cX8_readCommand 321 = .ok (.putfield 127, 3) := by decide +kernel
theorem dX8_readCommand_324 : decode cX8_readCommand 324 = .ok (.iconst 0, 1) := by decide +kernel
theorem dX8_readCommand_325 : decode cX8_readCommand 325 = .ok (.ireturn, 1) := by decide +kernel
theorem dX8_readText_0 : decode cX8_readText 0 = .ok (.aload_n 1, 1) := by decide +kernel
theorem dX8_readText_1 : decode cX8_readText 1 = .ok (.invokestatic 32, 3) := by decide +kernel
theorem dX8_readText_4 : decode cX8_readText 4 = .ok (.aload_n 0, 1) := by decide +kernel
theorem dX8_readText_5 : decode cX8_readText 5 = .ok (.iconst 0, 1) := by decide +kernel
theorem dX8_readText_6 : decode cX8_readText 6 = .ok (.putfield 139, 3) := by decide +kernel
theorem dX8_readText_9 : decode cX8_readText 9 = .ok (.aload_n 0, 1) := by decide +kernel
theorem dX8_readText_10 : decode cX8_readText 10 = .ok (.iconst 0, 1) := by decide +kernel
theorem dX8_readText_11 : decode cX8_readText 11 = .ok (.putfield 127, 3) := by decide +kernel
theorem dX8_readText_14 : decode cX8_readText 14 = .ok (.aload_n 0, 1) := by decide +kernel
theorem dX8_readText_15 : decode cX8_readText 15 = .ok (.iconst 0, 1) := by decide +kernel
theorem dX8_readText_16 : decode cX8_readText 16 = .ok (.invokevirtual 130, 3) := by decide +kernel
theorem dX8_readText_19 : decode cX8_readText 19 = .ok (.bipush 77, 2) := by decide +kernel
theorem dX8_readText_21 : decode cX8_readText 21 = .ok (.if_icmp .eq 5, 3) := by decide +kernel
theorem dX8_readText_24 : decode cX8_readText 24 = .ok (.iconst 0, 1) := by decide +kernel
theorem dX8_readText_25 : decode cX8_readText 25 = .ok (.ireturn, 1) := by decide +kernel
theorem dX8_readText_26 : decode cX8_readText 26 = .ok (.aload_n 0, 1) := by decide +kernel
theorem dX8_readText_27 : decode cX8_readText 27 = .ok (.iconst 1, 1) := by decide +kernel
theorem dX8_readText_28 : decode cX8_readText 28 = .ok (.putfield 127, 3) := by decide +kernel
theorem dX8_readText_31 : decode cX8_readText 31 = .ok (.aload_n 0, 1) := by decide +kernel
theorem dX8_readText_32 : decode cX8_readText 32 = .ok (.getfield 127, 3) := by decide +kernel
theorem dX8_readText_35 : decode cX8_readText 35 = .ok (.aload_n 0, 1) := by decide +kernel
theorem dX8_readText_36 : decode cX8_readText 36 = .ok (.getfield 116, 3) := by decide +kernel
theorem dX8_readText_39 : decode cX8_readText 39 = .ok (.if_icmp .ge 16, 3) := by decide +kernel
theorem dX8_readText_42 : decode cX8_readText 42 = .ok (.aload_n 0, 1) := by decide +kernel
theorem dX8_readText_43 : decode cX8_readText 43 = .ok (.aload_n 1, 1) := by decide +kernel
theorem dX8_readText_44 : decode cX8_readText 44 = .ok (.invokevirtual 168, 3) := by decide +kernel
theorem dX8_readText_47 : decode cX8_readText 47 = .ok (.ifCond .ne (-16), 3) := by decide +kernel
theorem dX8_readText_50 : decode cX8_readText 50 = .ok (.aload_n 0, 1) := by decide +kernel
theorem dX8_readText_51 : decode cX8_readText 51 = .ok (.getfield 127, 3) := by decide +kernel
theorem dX8_readText_54 : decode cX8_readText 54 = .ok (.ireturn, 1) := by decide +kernel
theorem dX8_readText_55 : decode cX8_readText 55 = .ok (.iconst (-1), 1) := by decide +kernel
theorem dX8_readText_56 : decode cX8_readText 56 = .ok (.ireturn, 1) := by decide +kernel
theorem dX8_errorPosition_0 : decode cX8_errorPosition 0 = .ok (.aload_n 0, 1) := by decide +kernel
theorem dX8_errorPosition_1 : decode cX8_errorPosition 1 = .ok (.iconst 0, 1) := by decide +kernel
theorem dX8_errorPosition_2 : decode cX8_errorPosition 2 = .ok (.putfield 36, 3) := by decide +kernel
theorem dX8_errorPosition_5 : decode cX8_errorPosition 5 = .ok (.aload_n 0, 1) := by decide +kernel
theorem dX8_errorPosition_6 : decode cX8_errorPosition 6 = .ok (.aload_n 0, 1) := by decide +kernel
theorem dX8_errorPosition_7 : decode cX8_errorPosition 7 = .ok (.getfield 16, 3) := by decide +kernel
theorem dX8_errorPosition_10 : decode cX8_errorPosition 10 = .ok (.invokevirtual 172, 3) := by decide +kernel
theorem dX8_errorPosition_13 : decode cX8_errorPosition 13 = .ok (.ireturn, 1) := by decide +kernel
theorem dX8_load_0 : decode cX8_load 0 = .ok (.aload_n 0, 1) := by decide +kernel
theorem dX8_load_1 : decode cX8_load 1 = .ok (.aload_n 0, 1) := by decide +kernel
theorem dX8_load_2 : decode cX8_load 2 = .ok (.aload_n 0, 1) := by decide +kernel
theorem dX8_load_3 : decode cX8_load 3 = .ok (.getfield 16, 3) := by decide +kernel
theorem dX8_load_6 : decode cX8_load 6 = .ok (.invokevirtual 172, 3) := by decide +kernel
theorem dX8_load_9 : decode cX8_load 9 = .ok (.iconst (-1), 1) := by decide +kernel
theorem dX8_load_10 : decode cX8_load 10 = .ok (.if_icmp .ne 7, 3) := by decide +kernel
theorem dX8_load_13 : decode cX8_load 13 = .ok (.iconst 0, 1) := by decide +kernel
theorem dX8_load_14 : decode cX8_load 14 = .ok (.goto 4, 3) := by decide +kernel
theorem dX8_load_17 : decode cX8_load 17 = .ok (.iconst 1, 1) := by decide +kernel
theorem dX8_load_18 : decode cX8_load 18 = .ok (.invokevirtual 119, 3) := by decide +kernel
theorem dX8_load_21 : decode cX8_load 21 = .ok (.ifCond .eq 5, 3) := by decide +kernel
theorem dX8_load_24 : decode cX8_load 24 = .ok (.iconst 0, 1) := by decide +kernel
theorem dX8_load_25 : decode cX8_load 25 = .ok (.ireturn, 1) := by decide +kernel
theorem dX8_load_26 : decode cX8_load 26 = .ok (.aload_n 0, 1) := by decide +kernel
theorem dX8_load_27 : decode cX8_load 27 = .ok (.getfield 16, 3) := by decide +kernel
theorem dX8_load_30 : decode cX8_load 30 = .ok (.iconst 0, 1) := by decide +kernel
theorem dX8_load_31 : decode cX8_load 31 = .ok (.aload_n 0, 1) := by decide +kernel
theorem dX8_load_32 : decode cX8_load 32 = .ok (.getfield 13, 3) := by decide +kernel
theorem dX8_load_35 : decode cX8_load 35 = .ok (.iconst 0, 1) := by decide +kernel
theorem dX8_load_36 : decode cX8_load 36 = .ok (.invokestatic 175, 3) := by decide +kernel
theorem dX8_load_39 : decode cX8_load 39 = .ok (.aload_n 0, 1) := by decide +kernel
theorem dX8_load_40 : decode cX8_load 40 = .ok (.iconst 0, 1) := by decide +kernel
theorem dX8_load_41 : decode cX8_load 41 = .ok (.putfield 179, 3) := by decide +kernel
theorem dX8_load_44 : decode cX8_load 44 = .ok (.aload_n 0, 1) := by decide +kernel
theorem dX8_load_45 : decode cX8_load 45 = .ok (.getfield 25, 3) := by decide +kernel
theorem dX8_load_48 : decode cX8_load 48 = .ok (.iconst 0, 1) := by decide +kernel
theorem dX8_load_49 : decode cX8_load 49 = .ok (.iconst 0, 1) := by decide +kernel
theorem dX8_load_50 : decode cX8_load 50 = .ok (.bastore, 1) := by decide +kernel
theorem dX8_load_51 : decode cX8_load 51 = .ok (.aload_n 0, 1) := by decide +kernel
theorem dX8_load_52 : decode cX8_load 52 = .ok (.getfield 25, 3) := by decide +kernel
theorem dX8_load_55 : decode cX8_load 55 = .ok (.iconst 1, 1) := by decide +kernel
theorem dX8_load_56 : decode cX8_load 56 = .ok (.iconst 0, 1) := by decide +kernel
theorem dX8_load_57 : decode cX8_load 57 = .ok (.bastore, 1) := by decide +kernel
theorem dX8_load_58 : decode cX8_load 58 = .ok (.aload_n 0, 1) := by decide +kernel
theorem dX8_load_59 : decode cX8_load 59 = .ok (.getfield 139, 3) := by decide +kernel
theorem dX8_load_62 : decode cX8_load 62 = .ok (.ireturn, 1) := by decide +kernel
theorem dX8_about_0 : decode cX8_about 0 = .ok (.aload_n 0, 1) := by decide +kernel
theorem dX8_about_1 : decode cX8_about 1 = .ok (.iload_n 1, 1) := by decide +kernel
theorem dX8_about_2 : decode cX8_about 2 = .ok (.i2l, 1) := by decide +kernel
theorem dX8_about_3 : decode cX8_about 3 = .ok (.lconst 0, 1) := by decide +kernel
theorem dX8_about_4 : decode cX8_about 4 = .ok (.ldc2_w 182, 3) := by decide +kernel
theorem dX8_about_7 : decode cX8_about 7 = .ok (.invokestatic 40, 3) := by decide +kernel
theorem dX8_about_10 : decode cX8_about 10 = .ok (.ifCond .eq 7, 3) := by decide +kernel
theorem dX8_about_13 : decode cX8_about 13 = .ok (.iconst 0, 1) := by decide +kernel
theorem dX8_about_14 : decode cX8_about 14 = .ok (.goto 4, 3) := by decide +kernel
theorem dX8_about_17 : decode cX8_about 17 = .ok (.iconst 1, 1) := by decide +kernel
theorem dX8_about_18 : decode cX8_about 18 = .ok (.invokevirtual 119, 3) := by decide +kernel
theorem dX8_about_21 : decode cX8_about 21 = .ok (.ifCond .eq 5, 3) := by decide +kernel
theorem dX8_about_24 : decode cX8_about 24 = .ok (.iconst 0, 1) := by decide +kernel
theorem dX8_about_25 : decode cX8_about 25 = .ok (.ireturn, 1) := by decide +kernel
theorem dX8_about_26 : decode cX8_about 26 = .ok (.iload_n 1, 1) := by decide +kernel
theorem dX8_about_27 : decode cX8_about 27 = .ok (.iconst 3, 1) := by decide +kernel
theorem dX8_about_28 : decode cX8_about 28 = .ok (.if_icmp .ge 12, 3) := by decide +kernel
theorem dX8_about_31 : decode cX8_about 31 = .ok (.aload_n 0, 1) := by decide +kernel
theorem dX8_about_32 : decode cX8_about 32 = .ok (.getfield 13, 3) := by decide +kernel
theorem dX8_about_35 : decode cX8_about 35 = .ok (.iload_n 1, 1) := by decide +kernel
theorem dX8_about_36 : decode cX8_about 36 = .ok (.iaload, 1) := by decide +kernel
theorem dX8_about_37 : decode cX8_about 37 = .ok (.goto 26, 3) := by decide +kernel
theorem dX8_about_40 : decode cX8_about 40 = .ok (.iload_n 1, 1) := by decide +kernel
theorem dX8_about_41 : decode cX8_about 41 = .ok (.iconst 3, 1) := by decide +kernel
theorem dX8_about_42 : decode cX8_about 42 = .ok (.if_icmp .ne 13, 3) := by decide +kernel
theorem dX8_about_45 : decode cX8_about 45 = .ok (.aload_n 0, 1) := by decide +kernel
theorem dX8_about_46 : decode cX8_about 46 = .ok (.getfield 13, 3) := by decide +kernel
theorem dX8_about_49 : decode cX8_about 49 = .ok (.invokestatic 51, 3) := by decide +kernel
theorem dX8_about_52 : decode cX8_about 52 = .ok (.goto 11, 3) := by decide +kernel
theorem dX8_about_55 : decode cX8_about 55 = .ok (.aload_n 0, 1) := by decide +kernel
theorem dX8_about_56 : decode cX8_about 56 = .ok (.getfield 13, 3) := by decide +kernel
theorem dX8_about_59 : decode cX8_about 59 = .ok (.iload_n 1, 1) := by decide +kernel
theorem dX8_about_60 : decode cX8_about 60 = .ok (.iconst 1, 1) := by decide +kernel
theorem dX8_about_61 : decode cX8_about 61 = .ok (.isub, 1) := by decide +kernel
theorem dX8_about_62 : decode cX8_about 62 = .ok (.iaload, 1) := by decide +kernel
theorem dX8_about_63 : decode cX8_about 63 = .ok (.ireturn, 1) := by decide +kernel
theorem dX8_room_0 : decode cX8_room 0 = .ok (.aload_n 0, 1) := by decide +kernel
theorem dX8_room_1 : decode cX8_room 1 = .ok (.aload_n 0, 1) := by decide +kernel
theorem dX8_room_2 : decode cX8_room 2 = .ok (.getfield 13, 3) := by decide +kernel
theorem dX8_room_5 : decode cX8_room 5 = .ok (.iload_n 1, 1) := by decide +kernel
theorem dX8_room_6 : decode cX8_room 6 = .ok (.invokestatic 158, 3) := by decide +kernel
theorem dX8_room_9 : decode cX8_room 9 = .ok (.ifCond .ne 7, 3) := by decide +kernel
theorem dX8_room_12 : decode cX8_room 12 = .ok (.iconst 1, 1) := by decide +kernel
theorem dX8_room_13 : decode cX8_room 13 = .ok (.goto 20, 3) := by decide +kernel
theorem dX8_room_16 : decode cX8_room 16 = .ok (.iload_n 2, 1) := by decide +kernel
theorem dX8_room_17 : decode cX8_room 17 = .ok (.i2l, 1) := by decide +kernel
theorem dX8_room_18 : decode cX8_room 18 = .ok (.lconst 0, 1) := by decide +kernel
theorem dX8_room_19 : decode cX8_room 19 = .ok (.ldc2_w 184, 3) := by decide +kernel
theorem dX8_room_22 : decode cX8_room 22 = .ok (.invokestatic 40, 3) := by decide +kernel
theorem dX8_room_25 : decode cX8_room 25 = .ok (.ifCond .eq 7, 3) := by decide +kernel
theorem dX8_room_28 : decode cX8_room 28 = .ok (.iconst 0, 1) := by decide +kernel
theorem dX8_room_29 : decode cX8_room 29 = .ok (.goto 4, 3) := by decide +kernel
theorem dX8_room_32 : decode cX8_room 32 = .ok (.iconst 2, 1) := by decide +kernel
theorem dX8_room_33 : decode cX8_room 33 = .ok (.invokevirtual 119, 3) := by decide +kernel
theorem dX8_room_36 : decode cX8_room 36 = .ok (.ifCond .eq 5, 3) := by decide +kernel
theorem dX8_room_39 : decode cX8_room 39 = .ok (.iconst 0, 1) := by decide +kernel
theorem dX8_room_40 : decode cX8_room 40 = .ok (.ireturn, 1) := by decide +kernel
theorem dX8_room_41 : decode cX8_room 41 = .ok (.aload_n 0, 1) := by decide +kernel
theorem dX8_room_42 : decode cX8_room 42 = .ok (.getfield 13, 3) := by decide +kernel
theorem dX8_room_45 : decode cX8_room 45 = .ok (.iload_n 1, 1) := by decide +kernel
theorem dX8_room_46 : decode cX8_room 46 = .ok (.iload_n 2, 1) := by decide +kernel
theorem dX8_room_47 : decode cX8_room 47 = .ok (.invokestatic 44, 3) := by decide +kernel
theorem dX8_room_50 : decode cX8_room 50 = .ok (.ireturn, 1) := by decide +kernel
theorem dX8_does_0 : decode cX8_does 0 = .ok (.aload_n 0, 1) := by decide +kernel
theorem dX8_does_1 : decode cX8_does 1 = .ok (.aload_n 0, 1) := by decide +kernel
theorem dX8_does_2 : decode cX8_does 2 = .ok (.getfield 13, 3) := by decide +kernel
theorem dX8_does_5 : decode cX8_does 5 = .ok (.iload_n 1, 1) := by decide +kernel
theorem dX8_does_6 : decode cX8_does 6 = .ok (.invokestatic 158, 3) := by decide +kernel
theorem dX8_does_9 : decode cX8_does 9 = .ok (.ifCond .eq 7, 3) := by decide +kernel
theorem dX8_does_12 : decode cX8_does 12 = .ok (.iconst 0, 1) := by decide +kernel
theorem dX8_does_13 : decode cX8_does 13 = .ok (.goto 4, 3) := by decide +kernel
theorem dX8_does_16 : decode cX8_does 16 = .ok (.iconst 1, 1) := by decide +kernel
theorem dX8_does_17 : decode cX8_does 17 = .ok (.invokevirtual 119, 3) := by decide +kernel
theorem dX8_does_20 : decode cX8_does 20 = .ok (.ifCond .eq 5, 3) := by decide +kernel
theorem dX8_does_23 : decode cX8_does 23 = .ok (.iconst 0, 1) := by decide +kernel
theorem dX8_does_24 : decode cX8_does 24 = .ok (.ireturn, 1) := by decide +kernel
theorem dX8_does_25 : decode cX8_does 25 = .ok (.aload_n 0, 1) := by decide +kernel
theorem dX8_does_26 : decode cX8_does 26 = .ok (.aload_n 0, 1) := by decide +kernel
theorem dX8_does_27 : decode cX8_does 27 = .ok (.getfield 13, 3) := by decide +kernel
theorem dX8_does_30 : decode cX8_does 30 = .ok (.invokevirtual 83, 3) := by decide +kernel
theorem dX8_does_33 : decode cX8_does 33 = .ok (.aload_n 0, 1) := by decide +kernel
theorem dX8_does_34 : decode cX8_does 34 = .ok (.getfield 29, 3) := by decide +kernel
theorem dX8_does_37 : decode cX8_does 37 = .ok (.iload_n 1, 1) := by decide +kernel
theorem dX8_does_38 : decode cX8_does 38 = .ok (.iaload, 1) := by decide +kernel
theorem dX8_does_39 : decode cX8_does 39 = .ok (.ireturn, 1) := by decide +kernel
theorem dX8_setting_0 : decode cX8_setting 0 = .ok (.aload_n 0, 1) := by decide +kernel
theorem dX8_setting_1 : decode cX8_setting 1 = .ok (.iload_n 1, 1) := by decide +kernel
theorem dX8_setting_2 : decode cX8_setting 2 = .ok (.i2l, 1) := by decide +kernel
theorem dX8_setting_3 : decode cX8_setting 3 = .ok (.lconst 0, 1) := by decide +kernel
theorem dX8_setting_4 : decode cX8_setting 4 = .ok (.ldc2_w 102, 3) := by decide +kernel
theorem dX8_setting_7 : decode cX8_setting 7 = .ok (.invokestatic 40, 3) := by decide +kernel
theorem dX8_setting_10 : decode cX8_setting 10 = .ok (.ifCond .eq 7, 3) := by decide +kernel
theorem dX8_setting_13 : decode cX8_setting 13 = .ok (.iconst 0, 1) := by decide +kernel
theorem dX8_setting_14 : decode cX8_setting 14 = .ok (.goto 4, 3) := by decide +kernel
theorem dX8_setting_17 : decode cX8_setting 17 = .ok (.iconst 1, 1) := by decide +kernel
theorem dX8_setting_18 : decode cX8_setting 18 = .ok (.invokevirtual 119, 3) := by decide +kernel
theorem dX8_setting_21 : decode cX8_setting 21 = .ok (.ifCond .eq 5, 3) := by decide +kernel
theorem dX8_setting_24 : decode cX8_setting 24 = .ok (.iconst 0, 1) := by decide +kernel
theorem dX8_setting_25 : decode cX8_setting 25 = .ok (.ireturn, 1) := by decide +kernel
theorem dX8_setting_26 : decode cX8_setting 26 = .ok (.aload_n 0, 1) := by decide +kernel
theorem dX8_setting_27 : decode cX8_setting 27 = .ok (.getfield 13, 3) := by decide +kernel
theorem dX8_setting_30 : decode cX8_setting 30 = .ok (.bipush 10, 2) := by decide +kernel
theorem dX8_setting_32 : decode cX8_setting 32 = .ok (.iload_n 1, 1) := by decide +kernel
theorem dX8_setting_33 : decode cX8_setting 33 = .ok (.iadd, 1) := by decide +kernel
theorem dX8_setting_34 : decode cX8_setting 34 = .ok (.iaload, 1) := by decide +kernel
theorem dX8_setting_35 : decode cX8_setting 35 = .ok (.ireturn, 1) := by decide +kernel
theorem dX8_remember_0 : decode cX8_remember 0 = .ok (.aload_n 0, 1) := by decide +kernel
theorem dX8_remember_1 : decode cX8_remember 1 = .ok (.getfield 179, 3) := by decide +kernel
theorem dX8_remember_4 : decode cX8_remember 4 = .ok (.bipush 14, 2) := by decide +kernel
theorem dX8_remember_6 : decode cX8_remember 6 = .ok (.if_icmp .ne 43, 3) := by decide +kernel
theorem dX8_remember_9 : decode cX8_remember 9 = .ok (.iconst 0, 1) := by decide +kernel
theorem dX8_remember_10 : decode cX8_remember 10 = .ok (.istore_n 1, 1) := by decide +kernel
theorem dX8_remember_11 : decode cX8_remember 11 = .ok (.iload_n 1, 1) := by decide +kernel
theorem dX8_remember_12 : decode cX8_remember 12 = .ok (.sipush 832, 3) := by decide +kernel
theorem dX8_remember_15 : decode cX8_remember 15 = .ok (.if_icmp .ge 24, 3) := by decide +kernel
theorem dX8_remember_18 : decode cX8_remember 18 = .ok (.aload_n 0, 1) := by decide +kernel
theorem dX8_remember_19 : decode cX8_remember 19 = .ok (.getfield 19, 3) := by decide +kernel
theorem dX8_remember_22 : decode cX8_remember 22 = .ok (.iload_n 1, 1) := by decide +kernel
theorem dX8_remember_23 : decode cX8_remember 23 = .ok (.aload_n 0, 1) := by decide +kernel
theorem dX8_remember_24 : decode cX8_remember 24 = .ok (.getfield 19, 3) := by decide +kernel
theorem dX8_remember_27 : decode cX8_remember 27 = .ok (.iload_n 1, 1) := by decide +kernel
theorem dX8_remember_28 : decode cX8_remember 28 = .ok (.bipush 64, 2) := by decide +kernel
theorem dX8_remember_30 : decode cX8_remember 30 = .ok (.iadd, 1) := by decide +kernel
theorem dX8_remember_31 : decode cX8_remember 31 = .ok (.iaload, 1) := by decide +kernel
theorem dX8_remember_32 : decode cX8_remember 32 = .ok (.iastore, 1) := by decide +kernel
theorem dX8_remember_33 : decode cX8_remember 33 = .ok (.iinc 1 1, 3) := by decide +kernel
theorem dX8_remember_36 : decode cX8_remember 36 = .ok (.goto (-25), 3) := by decide +kernel
theorem dX8_remember_39 : decode cX8_remember 39 = .ok (.aload_n 0, 1) := by decide +kernel
theorem dX8_remember_40 : decode cX8_remember 40 = .ok (.dup, 1) := by decide +kernel
theorem dX8_remember_41 : decode cX8_remember 41 = .ok (.getfield 179, 3) := by decide +kernel
theorem dX8_remember_44 : decode cX8_remember 44 = .ok (.iconst 1, 1) := by decide +kernel
theorem dX8_remember_45 : decode cX8_remember 45 = .ok (.isub, 1) := by decide +kernel
theorem dX8_remember_46 : decode cX8_remember 46 = .ok (.putfield 179, 3) := by decide +kernel
theorem dX8_remember_49 : decode cX8_remember 49 = .ok (.aload_n 0, 1) := by decide +kernel
theorem dX8_remember_50 : decode cX8_remember 50 = .ok (.getfield 13, 3) := by decide +kernel
theorem dX8_remember_53 : decode cX8_remember 53 = .ok (.iconst 0, 1) := by decide +kernel
theorem dX8_remember_54 : decode cX8_remember 54 = .ok (.aload_n 0, 1) := by decide +kernel
theorem dX8_remember_55 : decode cX8_remember 55 = .ok (.getfield 19, 3) := by decide +kernel
theorem dX8_remember_58 : decode cX8_remember 58 = .ok (.bipush 64, 2) := by decide +kernel
theorem dX8_remember_60 : decode cX8_remember 60 = .ok (.aload_n 0, 1) := by decide +kernel
theorem dX8_remember_61 : decode cX8_remember 61 = .ok (.getfield 179, 3) := by decide +kernel
theorem dX8_remember_64 : decode cX8_remember 64 = .ok (.imul, 1) := by decide +kernel
theorem dX8_remember_65 : decode cX8_remember 65 = .ok (.invokestatic 175, 3) := by decide +kernel
theorem dX8_remember_68 : decode cX8_remember 68 = .ok (.aload_n 0, 1) := by decide +kernel
theorem dX8_remember_69 : decode cX8_remember 69 = .ok (.dup, 1) := by decide +kernel
theorem dX8_remember_70 : decode cX8_remember 70 = .ok (.getfield 179, 3) := by decide +kernel
theorem dX8_remember_73 : decode cX8_remember 73 = .ok (.iconst 1, 1) := by decide +kernel
theorem dX8_remember_74 : decode cX8_remember 74 = .ok (.iadd, 1) := by decide +kernel
theorem dX8_remember_75 : decode cX8_remember 75 = .ok (.putfield 179, 3) := by decide +kernel
theorem dX8_remember_78 : decode cX8_remember 78 = .ok (.return_, 1) := by decide +kernel
theorem dX8_add_0 : decode cX8_add 0 = .ok (.aload_n 0, 1) := by decide +kernel
theorem dX8_add_1 : decode cX8_add 1 = .ok (.iload_n 1, 1) := by decide +kernel
theorem dX8_add_2 : decode cX8_add 2 = .ok (.iload_n 2, 1) := by decide +kernel
theorem dX8_add_3 : decode cX8_add 3 = .ok (.iload_n 3, 1) := by decide +kernel
theorem dX8_add_4 : decode cX8_add 4 = .ok (.invokestatic 146, 3) := by decide +kernel
theorem dX8_add_7 : decode cX8_add 7 = .ok (.ifCond .ne 7, 3) := by decide +kernel
theorem dX8_add_10 : decode cX8_add 10 = .ok (.iconst 1, 1) := by decide +kernel
theorem dX8_add_11 : decode cX8_add 11 = .ok (.goto 19, 3) := by decide +kernel
theorem dX8_add_14 : decode cX8_add 14 = .ok (.aload_n 0, 1) := by decide +kernel
theorem dX8_add_15 : decode cX8_add 15 = .ok (.getfield 13, 3) := by decide +kernel
theorem dX8_add_18 : decode cX8_add 18 = .ok (.iconst 0, 1) := by decide +kernel
theorem dX8_add_19 : decode cX8_add 19 = .ok (.iaload, 1) := by decide +kernel
theorem dX8_add_20 : decode cX8_add 20 = .ok (.bipush 6, 2) := by decide +kernel
theorem dX8_add_22 : decode cX8_add 22 = .ok (.if_icmp .ge 7, 3) := by decide +kernel
theorem dX8_add_25 : decode cX8_add 25 = .ok (.iconst 0, 1) := by decide +kernel
theorem dX8_add_26 : decode cX8_add 26 = .ok (.goto 4, 3) := by decide +kernel
theorem dX8_add_29 : decode cX8_add 29 = .ok (.iconst 2, 1) := by decide +kernel
theorem dX8_add_30 : decode cX8_add 30 = .ok (.invokevirtual 119, 3) := by decide +kernel
theorem dX8_add_33 : decode cX8_add 33 = .ok (.ifCond .eq 5, 3) := by decide +kernel
theorem dX8_add_36 : decode cX8_add 36 = .ok (.iconst 0, 1) := by decide +kernel
theorem dX8_add_37 : decode cX8_add 37 = .ok (.ireturn, 1) := by decide +kernel
theorem dX8_add_38 : decode cX8_add 38 = .ok (.aload_n 0, 1) := by decide +kernel
theorem dX8_add_39 : decode cX8_add 39 = .ok (.invokevirtual 186, 3) := by decide +kernel
theorem dX8_add_42 : decode cX8_add 42 = .ok (.aload_n 0, 1) := by decide +kernel
theorem dX8_add_43 : decode cX8_add 43 = .ok (.getfield 13, 3) := by decide +kernel
theorem dX8_add_46 : decode cX8_add 46 = .ok (.iload_n 1, 1) := by decide +kernel
theorem dX8_add_47 : decode cX8_add 47 = .ok (.iload_n 2, 1) := by decide +kernel
theorem dX8_add_48 : decode cX8_add 48 = .ok (.iload_n 3, 1) := by decide +kernel
theorem dX8_add_49 : decode cX8_add 49 = .ok (.invokestatic 150, 3) := by decide +kernel
theorem dX8_add_52 : decode cX8_add 52 = .ok (.ireturn, 1) := by decide +kernel
theorem dX8_door_0 : decode cX8_door 0 = .ok (.aload_n 0, 1) := by decide +kernel
theorem dX8_door_1 : decode cX8_door 1 = .ok (.aload_n 0, 1) := by decide +kernel
theorem dX8_door_2 : decode cX8_door 2 = .ok (.getfield 13, 3) := by decide +kernel
theorem dX8_door_5 : decode cX8_door 5 = .ok (.iload_n 1, 1) := by decide +kernel
theorem dX8_door_6 : decode cX8_door 6 = .ok (.invokestatic 158, 3) := by decide +kernel
theorem dX8_door_9 : decode cX8_door 9 = .ok (.ifCond .eq 7, 3) := by decide +kernel
theorem dX8_door_12 : decode cX8_door 12 = .ok (.iconst 0, 1) := by decide +kernel
theorem dX8_door_13 : decode cX8_door 13 = .ok (.goto 4, 3) := by decide +kernel
theorem dX8_door_16 : decode cX8_door 16 = .ok (.iconst 1, 1) := by decide +kernel
theorem dX8_door_17 : decode cX8_door 17 = .ok (.invokevirtual 119, 3) := by decide +kernel
theorem dX8_door_20 : decode cX8_door 20 = .ok (.ifCond .eq 5, 3) := by decide +kernel
theorem dX8_door_23 : decode cX8_door 23 = .ok (.iconst 0, 1) := by decide +kernel
theorem dX8_door_24 : decode cX8_door 24 = .ok (.ireturn, 1) := by decide +kernel
theorem dX8_door_25 : decode cX8_door 25 = .ok (.aload_n 0, 1) := by decide +kernel
theorem dX8_door_26 : decode cX8_door 26 = .ok (.invokevirtual 186, 3) := by decide +kernel
theorem dX8_door_29 : decode cX8_door 29 = .ok (.aload_n 0, 1) := by decide +kernel
theorem dX8_door_30 : decode cX8_door 30 = .ok (.getfield 13, 3) := by decide +kernel
theorem dX8_door_33 : decode cX8_door 33 = .ok (.iload_n 1, 1) := by decide +kernel
theorem dX8_door_34 : decode cX8_door 34 = .ok (.iload_n 2, 1) := by decide +kernel
theorem dX8_door_35 : decode cX8_door 35 = .ok (.invokestatic 161, 3) := by decide +kernel
theorem dX8_door_38 : decode cX8_door 38 = .ok (.ireturn, 1) := by decide +kernel
theorem dX8_goods_0 : decode cX8_goods 0 = .ok (.aload_n 0, 1) := by decide +kernel
theorem dX8_goods_1 : decode cX8_goods 1 = .ok (.aload_n 0, 1) := by decide +kernel
theorem dX8_goods_2 : decode cX8_goods 2 = .ok (.getfield 13, 3) := by decide +kernel
theorem dX8_goods_5 : decode cX8_goods 5 = .ok (.iload_n 1, 1) := by decide +kernel
theorem dX8_goods_6 : decode cX8_goods 6 = .ok (.invokestatic 158, 3) := by decide +kernel
theorem dX8_goods_9 : decode cX8_goods 9 = .ok (.ifCond .ne 7, 3) := by decide +kernel
theorem dX8_goods_12 : decode cX8_goods 12 = .ok (.iconst 1, 1) := by decide +kernel
theorem dX8_goods_13 : decode cX8_goods 13 = .ok (.goto 22, 3) := by decide +kernel
theorem dX8_goods_16 : decode cX8_goods 16 = .ok (.iload_n 2, 1) := by decide +kernel
theorem dX8_goods_17 : decode cX8_goods 17 = .ok (.i2l, 1) := by decide +kernel
theorem dX8_goods_18 : decode cX8_goods 18 = .ok (.ldc2_w 189, 3) := by decide +kernel
theorem dX8_goods_21 : decode cX8_goods 21 = .ok (.ldc2_w 191, 3) := by decide +kernel
theorem dX8_goods_24 : decode cX8_goods 24 = .ok (.invokestatic 40, 3) := by decide +kernel
theorem dX8_goods_27 : decode cX8_goods 27 = .ok (.ifCond .eq 7, 3) := by decide +kernel
theorem dX8_goods_30 : decode cX8_goods 30 = .ok (.iconst 0, 1) := by decide +kernel
theorem dX8_goods_31 : decode cX8_goods 31 = .ok (.goto 4, 3) := by decide +kernel
theorem dX8_goods_34 : decode cX8_goods 34 = .ok (.iconst 2, 1) := by decide +kernel
theorem dX8_goods_35 : decode cX8_goods 35 = .ok (.invokevirtual 119, 3) := by decide +kernel
theorem dX8_goods_38 : decode cX8_goods 38 = .ok (.ifCond .eq 5, 3) := by decide +kernel
theorem dX8_goods_41 : decode cX8_goods 41 = .ok (.iconst 0, 1) := by decide +kernel
theorem dX8_goods_42 : decode cX8_goods 42 = .ok (.ireturn, 1) := by decide +kernel
theorem dX8_goods_43 : decode cX8_goods 43 = .ok (.aload_n 0, 1) := by decide +kernel
theorem dX8_goods_44 : decode cX8_goods 44 = .ok (.invokevirtual 186, 3) := by decide +kernel
theorem dX8_goods_47 : decode cX8_goods 47 = .ok (.aload_n 0, 1) := by decide +kernel
theorem dX8_goods_48 : decode cX8_goods 48 = .ok (.getfield 13, 3) := by decide +kernel
theorem dX8_goods_51 : decode cX8_goods 51 = .ok (.iload_n 1, 1) := by decide +kernel
theorem dX8_goods_52 : decode cX8_goods 52 = .ok (.iload_n 2, 1) := by decide +kernel
theorem dX8_goods_53 : decode cX8_goods 53 = .ok (.invokestatic 193, 3) := by decide +kernel
theorem dX8_goods_56 : decode cX8_goods 56 = .ok (.ireturn, 1) := by decide +kernel
theorem dX8_run_0 : decode cX8_run 0 = .ok (.aload_n 0, 1) := by decide +kernel
theorem dX8_run_1 : decode cX8_run 1 = .ok (.iload_n 1, 1) := by decide +kernel
theorem dX8_run_2 : decode cX8_run 2 = .ok (.i2l, 1) := by decide +kernel
theorem dX8_run_3 : decode cX8_run 3 = .ok (.lconst 1, 1) := by decide +kernel
theorem dX8_run_4 : decode cX8_run 4 = .ok (.ldc2_w 196, 3) := by decide +kernel
theorem dX8_run_7 : decode cX8_run 7 = .ok (.invokestatic 40, 3) := by decide +kernel
theorem dX8_run_10 : decode cX8_run 10 = .ok (.ifCond .eq 7, 3) := by decide +kernel
theorem dX8_run_13 : decode cX8_run 13 = .ok (.iconst 0, 1) := by decide +kernel
theorem dX8_run_14 : decode cX8_run 14 = .ok (.goto 4, 3) := by decide +kernel
theorem dX8_run_17 : decode cX8_run 17 = .ok (.iconst 1, 1) := by decide +kernel
theorem dX8_run_18 : decode cX8_run 18 = .ok (.invokevirtual 119, 3) := by decide +kernel
theorem dX8_run_21 : decode cX8_run 21 = .ok (.ifCond .eq 5, 3) := by decide +kernel
theorem dX8_run_24 : decode cX8_run 24 = .ok (.iconst 0, 1) := by decide +kernel
theorem dX8_run_25 : decode cX8_run 25 = .ok (.ireturn, 1) := by decide +kernel
theorem dX8_run_26 : decode cX8_run 26 = .ok (.aload_n 0, 1) := by decide +kernel
theorem dX8_run_27 : decode cX8_run 27 = .ok (.invokevirtual 186, 3) := by decide +kernel
theorem dX8_run_30 : decode cX8_run 30 = .ok (.aload_n 0, 1) := by decide +kernel
theorem dX8_run_31 : decode cX8_run 31 = .ok (.aload_n 0, 1) := by decide +kernel
theorem dX8_run_32 : decode cX8_run 32 = .ok (.getfield 13, 3) := by decide +kernel
theorem dX8_run_35 : decode cX8_run 35 = .ok (.iload_n 1, 1) := by decide +kernel
theorem dX8_run_36 : decode cX8_run 36 = .ok (.invokevirtual 165, 3) := by decide +kernel
theorem dX8_run_39 : decode cX8_run 39 = .ok (.ireturn, 1) := by decide +kernel
theorem dX8_set_0 : decode cX8_set 0 = .ok (.aload_n 0, 1) := by decide +kernel
theorem dX8_set_1 : decode cX8_set 1 = .ok (.iload_n 1, 1) := by decide +kernel
theorem dX8_set_2 : decode cX8_set 2 = .ok (.iload_n 2, 1) := by decide +kernel
theorem dX8_set_3 : decode cX8_set 3 = .ok (.invokestatic 198, 3) := by decide +kernel
theorem dX8_set_6 : decode cX8_set 6 = .ok (.ifCond .eq 7, 3) := by decide +kernel
theorem dX8_set_9 : decode cX8_set 9 = .ok (.iconst 0, 1) := by decide +kernel
theorem dX8_set_10 : decode cX8_set 10 = .ok (.goto 4, 3) := by decide +kernel
theorem dX8_set_13 : decode cX8_set 13 = .ok (.iconst 1, 1) := by decide +kernel
theorem dX8_set_14 : decode cX8_set 14 = .ok (.invokevirtual 119, 3) := by decide +kernel
theorem dX8_set_17 : decode cX8_set 17 = .ok (.ifCond .eq 5, 3) := by decide +kernel
theorem dX8_set_20 : decode cX8_set 20 = .ok (.iconst 0, 1) := by decide +kernel
theorem dX8_set_21 : decode cX8_set 21 = .ok (.ireturn, 1) := by decide +kernel
theorem dX8_set_22 : decode cX8_set 22 = .ok (.aload_n 0, 1) := by decide +kernel
theorem dX8_set_23 : decode cX8_set 23 = .ok (.invokevirtual 186, 3) := by decide +kernel
theorem dX8_set_26 : decode cX8_set 26 = .ok (.aload_n 0, 1) := by decide +kernel
theorem dX8_set_27 : decode cX8_set 27 = .ok (.getfield 13, 3) := by decide +kernel
theorem dX8_set_30 : decode cX8_set 30 = .ok (.bipush 10, 2) := by decide +kernel
theorem dX8_set_32 : decode cX8_set 32 = .ok (.iload_n 1, 1) := by decide +kernel
theorem dX8_set_33 : decode cX8_set 33 = .ok (.iadd, 1) := by decide +kernel
theorem dX8_set_34 : decode cX8_set 34 = .ok (.iaload, 1) := by decide +kernel
theorem dX8_set_35 : decode cX8_set 35 = .ok (.istore_n 3, 1) := by decide +kernel
theorem dX8_set_36 : decode cX8_set 36 = .ok (.aload_n 0, 1) := by decide +kernel
theorem dX8_set_37 : decode cX8_set 37 = .ok (.getfield 13, 3) := by decide +kernel
theorem dX8_set_40 : decode cX8_set 40 = .ok (.bipush 10, 2) := by decide +kernel
theorem dX8_set_42 : decode cX8_set 42 = .ok (.iload_n 1, 1) := by decide +kernel
theorem dX8_set_43 : decode cX8_set 43 = .ok (.iadd, 1) := by decide +kernel
theorem dX8_set_44 : decode cX8_set 44 = .ok (.iload_n 2, 1) := by decide +kernel
theorem dX8_set_45 : decode cX8_set 45 = .ok (.iastore, 1) := by decide +kernel
theorem dX8_set_46 : decode cX8_set 46 = .ok (.iload_n 3, 1) := by decide +kernel
theorem dX8_set_47 : decode cX8_set 47 = .ok (.ireturn, 1) := by decide +kernel
theorem dX8_undo_0 : decode cX8_undo 0 = .ok (.aload_n 0, 1) := by decide +kernel
theorem dX8_undo_1 : decode cX8_undo 1 = .ok (.aload_n 0, 1) := by decide +kernel
theorem dX8_undo_2 : decode cX8_undo 2 = .ok (.getfield 179, 3) := by decide +kernel
theorem dX8_undo_5 : decode cX8_undo 5 = .ok (.ifCond .ne 7, 3) := by decide +kernel
theorem dX8_undo_8 : decode cX8_undo 8 = .ok (.iconst 1, 1) := by decide +kernel
theorem dX8_undo_9 : decode cX8_undo 9 = .ok (.goto 4, 3) := by decide +kernel
theorem dX8_undo_12 : decode cX8_undo 12 = .ok (.iconst 0, 1) := by decide +kernel
theorem dX8_undo_13 : decode cX8_undo 13 = .ok (.invokevirtual 119, 3) := by decide +kernel
theorem dX8_undo_16 : decode cX8_undo 16 = .ok (.ifCond .eq 5, 3) := by decide +kernel
theorem dX8_undo_19 : decode cX8_undo 19 = .ok (.iconst 0, 1) := by decide +kernel
theorem dX8_undo_20 : decode cX8_undo 20 = .ok (.ireturn, 1) := by decide +kernel
theorem dX8_undo_21 : decode cX8_undo 21 = .ok (.aload_n 0, 1) := by decide +kernel
theorem dX8_undo_22 : decode cX8_undo 22 = .ok (.dup, 1) := by decide +kernel
theorem dX8_undo_23 : decode cX8_undo 23 = .ok (.getfield 179, 3) := by decide +kernel
theorem dX8_undo_26 : decode cX8_undo 26 = .ok (.iconst 1, 1) := by decide +kernel
theorem dX8_undo_27 : decode cX8_undo 27 = .ok (.isub, 1) := by decide +kernel
theorem dX8_undo_28 : decode cX8_undo 28 = .ok (.putfield 179, 3) := by decide +kernel
theorem dX8_undo_31 : decode cX8_undo 31 = .ok (.aload_n 0, 1) := by decide +kernel
theorem dX8_undo_32 : decode cX8_undo 32 = .ok (.getfield 19, 3) := by decide +kernel
theorem dX8_undo_35 : decode cX8_undo 35 = .ok (.bipush 64, 2) := by decide +kernel
theorem dX8_undo_37 : decode cX8_undo 37 = .ok (.aload_n 0, 1) := by decide +kernel
theorem dX8_undo_38 : decode cX8_undo 38 = .ok (.getfield 179, 3) := by decide +kernel
theorem dX8_undo_41 : decode cX8_undo 41 = .ok (.imul, 1) := by decide +kernel
theorem dX8_undo_42 : decode cX8_undo 42 = .ok (.aload_n 0, 1) := by decide +kernel
theorem dX8_undo_43 : decode cX8_undo 43 = .ok (.getfield 13, 3) := by decide +kernel
theorem dX8_undo_46 : decode cX8_undo 46 = .ok (.iconst 0, 1) := by decide +kernel
theorem dX8_undo_47 : decode cX8_undo 47 = .ok (.invokestatic 175, 3) := by decide +kernel
theorem dX8_undo_50 : decode cX8_undo 50 = .ok (.aload_n 0, 1) := by decide +kernel
theorem dX8_undo_51 : decode cX8_undo 51 = .ok (.getfield 179, 3) := by decide +kernel
theorem dX8_undo_54 : decode cX8_undo 54 = .ok (.ireturn, 1) := by decide +kernel
theorem dX8_spare_0 : decode cX8_spare 0 = .ok (.aload_n 0, 1) := by decide +kernel
theorem dX8_spare_1 : decode cX8_spare 1 = .ok (.iconst 0, 1) := by decide +kernel
theorem dX8_spare_2 : decode cX8_spare 2 = .ok (.putfield 36, 3) := by decide +kernel
theorem dX8_spare_5 : decode cX8_spare 5 = .ok (.aload_n 0, 1) := by decide +kernel
theorem dX8_spare_6 : decode cX8_spare 6 = .ok (.getfield 13, 3) := by decide +kernel
theorem dX8_spare_9 : decode cX8_spare 9 = .ok (.invokestatic 51, 3) := by decide +kernel
theorem dX8_spare_12 : decode cX8_spare 12 = .ok (.istore_n 1, 1) := by decide +kernel
theorem dX8_spare_13 : decode cX8_spare 13 = .ok (.aload_n 0, 1) := by decide +kernel
theorem dX8_spare_14 : decode cX8_spare 14 = .ok (.getfield 13, 3) := by decide +kernel
theorem dX8_spare_17 : decode cX8_spare 17 = .ok (.bipush 10, 2) := by decide +kernel
theorem dX8_spare_19 : decode cX8_spare 19 = .ok (.iaload, 1) := by decide +kernel
theorem dX8_spare_20 : decode cX8_spare 20 = .ok (.aload_n 0, 1) := by decide +kernel
theorem dX8_spare_21 : decode cX8_spare 21 = .ok (.getfield 13, 3) := by decide +kernel
theorem dX8_spare_24 : decode cX8_spare 24 = .ok (.iconst 2, 1) := by decide +kernel
theorem dX8_spare_25 : decode cX8_spare 25 = .ok (.iaload, 1) := by decide +kernel
theorem dX8_spare_26 : decode cX8_spare 26 = .ok (.isub, 1) := by decide +kernel
theorem dX8_spare_27 : decode cX8_spare 27 = .ok (.aload_n 0, 1) := by decide +kernel
theorem dX8_spare_28 : decode cX8_spare 28 = .ok (.getfield 13, 3) := by decide +kernel
theorem dX8_spare_31 : decode cX8_spare 31 = .ok (.bipush 12, 2) := by decide +kernel
theorem dX8_spare_33 : decode cX8_spare 33 = .ok (.iaload, 1) := by decide +kernel
theorem dX8_spare_34 : decode cX8_spare 34 = .ok (.iload_n 1, 1) := by decide +kernel
theorem dX8_spare_35 : decode cX8_spare 35 = .ok (.imul, 1) := by decide +kernel
theorem dX8_spare_36 : decode cX8_spare 36 = .ok (.isub, 1) := by decide +kernel
theorem dX8_spare_37 : decode cX8_spare 37 = .ok (.istore_n 2, 1) := by decide +kernel
theorem dX8_spare_38 : decode cX8_spare 38 = .ok (.iload_n 2, 1) := by decide +kernel
theorem dX8_spare_39 : decode cX8_spare 39 = .ok (.ifCond .ge 7, 3) := by decide +kernel
theorem dX8_spare_42 : decode cX8_spare 42 = .ok (.iconst (-1), 1) := by decide +kernel
theorem dX8_spare_43 : decode cX8_spare 43 = .ok (.goto 6, 3) := by decide +kernel
theorem dX8_spare_46 : decode cX8_spare 46 = .ok (.iload_n 2, 1) := by decide +kernel
theorem dX8_spare_47 : decode cX8_spare 47 = .ok (.iload_n 1, 1) := by decide +kernel
theorem dX8_spare_48 : decode cX8_spare 48 = .ok (.idiv, 1) := by decide +kernel
theorem dX8_spare_49 : decode cX8_spare 49 = .ok (.ireturn, 1) := by decide +kernel
theorem dX8_warmIn_0 : decode cX8_warmIn 0 = .ok (.aload_n 0, 1) := by decide +kernel
theorem dX8_warmIn_1 : decode cX8_warmIn 1 = .ok (.aload_n 0, 1) := by decide +kernel
theorem dX8_warmIn_2 : decode cX8_warmIn 2 = .ok (.getfield 13, 3) := by decide +kernel
theorem dX8_warmIn_5 : decode cX8_warmIn 5 = .ok (.iload_n 1, 1) := by decide +kernel
theorem dX8_warmIn_6 : decode cX8_warmIn 6 = .ok (.invokestatic 158, 3) := by decide +kernel
theorem dX8_warmIn_9 : decode cX8_warmIn 9 = .ok (.ifCond .eq 7, 3) := by decide +kernel
theorem dX8_warmIn_12 : decode cX8_warmIn 12 = .ok (.iconst 0, 1) := by decide +kernel
theorem dX8_warmIn_13 : decode cX8_warmIn 13 = .ok (.goto 4, 3) := by decide +kernel
theorem dX8_warmIn_16 : decode cX8_warmIn 16 = .ok (.iconst 1, 1) := by decide +kernel
theorem dX8_warmIn_17 : decode cX8_warmIn 17 = .ok (.invokevirtual 119, 3) := by decide +kernel
theorem dX8_warmIn_20 : decode cX8_warmIn 20 = .ok (.ifCond .eq 5, 3) := by decide +kernel
theorem dX8_warmIn_23 : decode cX8_warmIn 23 = .ok (.iconst 0, 1) := by decide +kernel
theorem dX8_warmIn_24 : decode cX8_warmIn 24 = .ok (.ireturn, 1) := by decide +kernel
theorem dX8_warmIn_25 : decode cX8_warmIn 25 = .ok (.aload_n 0, 1) := by decide +kernel
theorem dX8_warmIn_26 : decode cX8_warmIn 26 = .ok (.getfield 13, 3) := by decide +kernel
theorem dX8_warmIn_29 : decode cX8_warmIn 29 = .ok (.iconst 0, 1) := by decide +kernel
theorem dX8_warmIn_30 : decode cX8_warmIn 30 = .ok (.aload_n 0, 1) := by decide +kernel
theorem dX8_warmIn_31 : decode cX8_warmIn 31 = .ok (.getfield 16, 3) := by decide +kernel
theorem dX8_warmIn_34 : decode cX8_warmIn 34 = .ok (.iconst 0, 1) := by decide +kernel
theorem dX8_warmIn_35 : decode cX8_warmIn 35 = .ok (.invokestatic 175, 3) := by decide +kernel
theorem dX8_warmIn_38 : decode cX8_warmIn 38 = .ok (.iconst 0, 1) := by decide +kernel
theorem dX8_warmIn_39 : decode cX8_warmIn 39 = .ok (.istore_n 2, 1) := by decide +kernel
theorem dX8_warmIn_40 : decode cX8_warmIn 40 = .ok (.iload_n 2, 1) := by decide +kernel
theorem dX8_warmIn_41 : decode cX8_warmIn 41 = .ok (.sipush 240, 3) := by decide +kernel
theorem dX8_warmIn_44 : decode cX8_warmIn 44 = .ok (.if_icmp .gt 30, 3) := by decide +kernel
theorem dX8_warmIn_47 : decode cX8_warmIn 47 = .ok (.aload_n 0, 1) := by decide +kernel
theorem dX8_warmIn_48 : decode cX8_warmIn 48 = .ok (.getfield 16, 3) := by decide +kernel
theorem dX8_warmIn_51 : decode cX8_warmIn 51 = .ok (.iload_n 1, 1) := by decide +kernel
theorem dX8_warmIn_52 : decode cX8_warmIn 52 = .ok (.invokestatic 55, 3) := by decide +kernel
theorem dX8_warmIn_55 : decode cX8_warmIn 55 = .ok (.ifCond .eq 5, 3) := by decide +kernel
theorem dX8_warmIn_58 : decode cX8_warmIn 58 = .ok (.iload_n 2, 1) := by decide +kernel
theorem dX8_warmIn_59 : decode cX8_warmIn 59 = .ok (.ireturn, 1) := by decide +kernel
theorem dX8_warmIn_60 : decode cX8_warmIn 60 = .ok (.aload_n 0, 1) := by decide +kernel
theorem dX8_warmIn_61 : decode cX8_warmIn 61 = .ok (.aload_n 0, 1) := by decide +kernel
theorem dX8_warmIn_62 : decode cX8_warmIn 62 = .ok (.getfield 16, 3) := by decide +kernel
theorem dX8_warmIn_65 : decode cX8_warmIn 65 = .ok (.invokevirtual 93, 3) := by decide +kernel
theorem dX8_warmIn_68 : decode cX8_warmIn 68 = .ok (.iinc 2 1, 3) := by decide +kernel
theorem dX8_warmIn_71 : decode cX8_warmIn 71 = .ok (.goto (-31), 3) := by decide +kernel
theorem dX8_warmIn_74 : decode cX8_warmIn 74 = .ok (.iconst (-1), 1) := by decide +kernel
theorem dX8_warmIn_75 : decode cX8_warmIn 75 = .ok (.ireturn, 1) := by decide +kernel
theorem dX8_warmest_0 : decode cX8_warmest 0 = .ok (.iconst (-1), 1) := by decide +kernel
theorem dX8_warmest_1 : decode cX8_warmest 1 = .ok (.istore_n 1, 1) := by decide +kernel
theorem dX8_warmest_2 : decode cX8_warmest 2 = .ok (.iconst 0, 1) := by decide +kernel
theorem dX8_warmest_3 : decode cX8_warmest 3 = .ok (.istore_n 2, 1) := by decide +kernel
theorem dX8_warmest_4 : decode cX8_warmest 4 = .ok (.iload_n 2, 1) := by decide +kernel
theorem dX8_warmest_5 : decode cX8_warmest 5 = .ok (.aload_n 0, 1) := by decide +kernel
theorem dX8_warmest_6 : decode cX8_warmest 6 = .ok (.iconst 0, 1) := by decide +kernel
theorem dX8_warmest_7 : decode cX8_warmest 7 = .ok (.iaload, 1) := by decide +kernel
theorem dX8_warmest_8 : decode cX8_warmest 8 = .ok (.if_icmp .ge 56, 3) := by decide +kernel
theorem dX8_warmest_11 : decode cX8_warmest 11 = .ok (.iload_n 1, 1) := by decide +kernel
theorem dX8_warmest_12 : decode cX8_warmest 12 = .ok (.iconst (-1), 1) := by decide +kernel
theorem dX8_warmest_13 : decode cX8_warmest 13 = .ok (.if_icmp .ne 7, 3) := by decide +kernel
theorem dX8_warmest_16 : decode cX8_warmest 16 = .ok (.iconst 1, 1) := by decide +kernel
theorem dX8_warmest_17 : decode cX8_warmest 17 = .ok (.goto 30, 3) := by decide +kernel
theorem dX8_warmest_20 : decode cX8_warmest 20 = .ok (.aload_n 0, 1) := by decide +kernel
theorem dX8_warmest_21 : decode cX8_warmest 21 = .ok (.iload_n 2, 1) := by decide +kernel
theorem dX8_warmest_22 : decode cX8_warmest 22 = .ok (.iconst 3, 1) := by decide +kernel
theorem dX8_warmest_23 : decode cX8_warmest 23 = .ok (.invokestatic 44, 3) := by decide +kernel
theorem dX8_warmest_26 : decode cX8_warmest 26 = .ok (.aload_n 0, 1) := by decide +kernel
theorem dX8_warmest_27 : decode cX8_warmest 27 = .ok (.iload_n 2, 1) := by decide +kernel
theorem dX8_warmest_28 : decode cX8_warmest 28 = .ok (.iconst 2, 1) := by decide +kernel
theorem dX8_warmest_29 : decode cX8_warmest 29 = .ok (.invokestatic 44, 3) := by decide +kernel
theorem dX8_warmest_32 : decode cX8_warmest 32 = .ok (.isub, 1) := by decide +kernel
theorem dX8_warmest_33 : decode cX8_warmest 33 = .ok (.aload_n 0, 1) := by decide +kernel
theorem dX8_warmest_34 : decode cX8_warmest 34 = .ok (.iload_n 1, 1) := by decide +kernel
theorem dX8_warmest_35 : decode cX8_warmest 35 = .ok (.iconst 3, 1) := by decide +kernel
theorem dX8_warmest_36 : decode cX8_warmest 36 = .ok (.invokestatic 44, 3) := by decide +kernel
theorem dX8_warmest_39 : decode cX8_warmest 39 = .ok (.isub, 1) := by decide +kernel
theorem dX8_warmest_40 : decode cX8_warmest 40 = .ok (.aload_n 0, 1) := by decide +kernel
theorem dX8_warmest_41 : decode cX8_warmest 41 = .ok (.iload_n 1, 1) := by decide +kernel
theorem dX8_warmest_42 : decode cX8_warmest 42 = .ok (.iconst 2, 1) := by decide +kernel
theorem dX8_warmest_43 : decode cX8_warmest 43 = .ok (.invokestatic 44, 3) := by decide +kernel
theorem dX8_warmest_46 : decode cX8_warmest 46 = .ok (.iadd, 1) := by decide +kernel
theorem dX8_warmest_47 : decode cX8_warmest 47 = .ok (.istore_n 3, 1) := by decide +kernel
theorem dX8_warmest_48 : decode cX8_warmest 48 = .ok (.iload_n 3, 1) := by decide +kernel
theorem dX8_warmest_49 : decode cX8_warmest 49 = .ok (.ifCond .le 7, 3) := by decide +kernel
theorem dX8_warmest_52 : decode cX8_warmest 52 = .ok (.iload_n 2, 1) := by decide +kernel
theorem dX8_warmest_53 : decode cX8_warmest 53 = .ok (.goto 4, 3) := by decide +kernel
theorem dX8_warmest_56 : decode cX8_warmest 56 = .ok (.iload_n 1, 1) := by decide +kernel
theorem dX8_warmest_57 : decode cX8_warmest 57 = .ok (.istore_n 1, 1) := by decide +kernel
theorem dX8_warmest_58 : decode cX8_warmest 58 = .ok (.iinc 2 1, 3) := by decide +kernel
theorem dX8_warmest_61 : decode cX8_warmest 61 = .ok (.goto (-57), 3) := by decide +kernel
theorem dX8_warmest_64 : decode cX8_warmest 64 = .ok (.iload_n 1, 1) := by decide +kernel
theorem dX8_warmest_65 : decode cX8_warmest 65 = .ok (.ireturn, 1) := by decide +kernel
theorem dX8_coming_0 : decode cX8_coming 0 = .ok (.aload_n 0, 1) := by decide +kernel
theorem dX8_coming_1 : decode cX8_coming 1 = .ok (.iload_n 1, 1) := by decide +kernel
theorem dX8_coming_2 : decode cX8_coming 2 = .ok (.i2l, 1) := by decide +kernel
theorem dX8_coming_3 : decode cX8_coming 3 = .ok (.lconst 1, 1) := by decide +kernel
theorem dX8_coming_4 : decode cX8_coming 4 = .ok (.ldc2_w 202, 3) := by decide +kernel
theorem dX8_coming_7 : decode cX8_coming 7 = .ok (.invokestatic 40, 3) := by decide +kernel
theorem dX8_coming_10 : decode cX8_coming 10 = .ok (.ifCond .eq 19, 3) := by decide +kernel
theorem dX8_coming_13 : decode cX8_coming 13 = .ok (.iload_n 2, 1) := by decide +kernel
theorem dX8_coming_14 : decode cX8_coming 14 = .ok (.i2l, 1) := by decide +kernel
theorem dX8_coming_15 : decode cX8_coming 15 = .ok (.lconst 0, 1) := by decide +kernel
theorem dX8_coming_16 : decode cX8_coming 16 = .ok (.ldc2_w 204, 3) := by decide +kernel
theorem dX8_coming_19 : decode cX8_coming 19 = .ok (.invokestatic 40, 3) := by decide +kernel
theorem dX8_coming_22 : decode cX8_coming 22 = .ok (.ifCond .eq 7, 3) := by decide +kernel
theorem dX8_coming_25 : decode cX8_coming 25 = .ok (.iconst 0, 1) := by decide +kernel
theorem dX8_coming_26 : decode cX8_coming 26 = .ok (.goto 4, 3) := by decide +kernel
theorem dX8_coming_29 : decode cX8_coming 29 = .ok (.iconst 1, 1) := by decide +kernel
theorem dX8_coming_30 : decode cX8_coming 30 = .ok (.invokevirtual 119, 3) := by decide +kernel
theorem dX8_coming_33 : decode cX8_coming 33 = .ok (.ifCond .eq 5, 3) := by decide +kernel
theorem dX8_coming_36 : decode cX8_coming 36 = .ok (.iconst 0, 1) := by decide +kernel
theorem dX8_coming_37 : decode cX8_coming 37 = .ok (.ireturn, 1) := by decide +kernel
theorem dX8_coming_38 : decode cX8_coming 38 = .ok (.aload_n 0, 1) := by decide +kernel
theorem dX8_coming_39 : decode cX8_coming 39 = .ok (.getfield 13, 3) := by decide +kernel
theorem dX8_coming_42 : decode cX8_coming 42 = .ok (.iconst 0, 1) := by decide +kernel
theorem dX8_coming_43 : decode cX8_coming 43 = .ok (.aload_n 0, 1) := by decide +kernel
theorem dX8_coming_44 : decode cX8_coming 44 = .ok (.getfield 16, 3) := by decide +kernel
theorem dX8_coming_47 : decode cX8_coming 47 = .ok (.iconst 0, 1) := by decide +kernel
theorem dX8_coming_48 : decode cX8_coming 48 = .ok (.invokestatic 175, 3) := by decide +kernel
theorem dX8_coming_51 : decode cX8_coming 51 = .ok (.aload_n 0, 1) := by decide +kernel
theorem dX8_coming_52 : decode cX8_coming 52 = .ok (.aload_n 0, 1) := by decide +kernel
theorem dX8_coming_53 : decode cX8_coming 53 = .ok (.getfield 16, 3) := by decide +kernel
theorem dX8_coming_56 : decode cX8_coming 56 = .ok (.iload_n 1, 1) := by decide +kernel
theorem dX8_coming_57 : decode cX8_coming 57 = .ok (.invokevirtual 165, 3) := by decide +kernel
theorem dX8_coming_60 : decode cX8_coming 60 = .ok (.istore_n 3, 1) := by decide +kernel
theorem dX8_coming_61 : decode cX8_coming 61 = .ok (.iload_n 2, 1) := by decide +kernel
theorem dX8_coming_62 : decode cX8_coming 62 = .ok (.tableswitch 78 0 3 #[30, 32, 46, 62], 30) := by decide +kernel
theorem dX8_coming_92 : decode cX8_coming 92 = .ok (.iload_n 3, 1) := by decide +kernel
theorem dX8_coming_93 : decode cX8_coming 93 = .ok (.ireturn, 1) := by decide +kernel
theorem dX8_coming_94 : decode cX8_coming 94 = .ok (.aload_n 0, 1) := by decide +kernel
theorem dX8_coming_95 : decode cX8_coming 95 = .ok (.getfield 16, 3) := by decide +kernel
theorem dX8_coming_98 : decode cX8_coming 98 = .ok (.iconst 3, 1) := by decide +kernel
theorem dX8_coming_99 : decode cX8_coming 99 = .ok (.iaload, 1) := by decide +kernel
theorem dX8_coming_100 : decode cX8_coming 100 = .ok (.aload_n 0, 1) := by decide +kernel
theorem dX8_coming_101 : decode cX8_coming 101 = .ok (.getfield 13, 3) := by decide +kernel
theorem dX8_coming_104 : decode cX8_coming 104 = .ok (.iconst 3, 1) := by decide +kernel
theorem dX8_coming_105 : decode cX8_coming 105 = .ok (.iaload, 1) := by decide +kernel
theorem dX8_coming_106 : decode cX8_coming 106 = .ok (.isub, 1) := by decide +kernel
theorem dX8_coming_107 : decode cX8_coming 107 = .ok (.ireturn, 1) := by decide +kernel
theorem dX8_coming_108 : decode cX8_coming 108 = .ok (.aload_n 0, 1) := by decide +kernel
theorem dX8_coming_109 : decode cX8_coming 109 = .ok (.getfield 16, 3) := by decide +kernel
theorem dX8_coming_112 : decode cX8_coming 112 = .ok (.bipush 6, 2) := by decide +kernel
theorem dX8_coming_114 : decode cX8_coming 114 = .ok (.iaload, 1) := by decide +kernel
theorem dX8_coming_115 : decode cX8_coming 115 = .ok (.aload_n 0, 1) := by decide +kernel
theorem dX8_coming_116 : decode cX8_coming 116 = .ok (.getfield 13, 3) := by decide +kernel
theorem dX8_coming_119 : decode cX8_coming 119 = .ok (.bipush 6, 2) := by decide +kernel
theorem dX8_coming_121 : decode cX8_coming 121 = .ok (.iaload, 1) := by decide +kernel
theorem dX8_coming_122 : decode cX8_coming 122 = .ok (.isub, 1) := by decide +kernel
theorem dX8_coming_123 : decode cX8_coming 123 = .ok (.ireturn, 1) := by decide +kernel
theorem dX8_coming_124 : decode cX8_coming 124 = .ok (.aload_n 0, 1) := by decide +kernel
theorem dX8_coming_125 : decode cX8_coming 125 = .ok (.getfield 16, 3) := by decide +kernel
theorem dX8_coming_128 : decode cX8_coming 128 = .ok (.bipush 7, 2) := by decide +kernel
theorem dX8_coming_130 : decode cX8_coming 130 = .ok (.iaload, 1) := by decide +kernel
theorem dX8_coming_131 : decode cX8_coming 131 = .ok (.aload_n 0, 1) := by decide +kernel
theorem dX8_coming_132 : decode cX8_coming 132 = .ok (.getfield 13, 3) := by decide +kernel
theorem dX8_coming_135 : decode cX8_coming 135 = .ok (.bipush 7, 2) := by decide +kernel
theorem dX8_coming_137 : decode cX8_coming 137 = .ok (.iaload, 1) := by decide +kernel
theorem dX8_coming_138 : decode cX8_coming 138 = .ok (.isub, 1) := by decide +kernel
theorem dX8_coming_139 : decode cX8_coming 139 = .ok (.ireturn, 1) := by decide +kernel
theorem dX8_coming_140 : decode cX8_coming 140 = .ok (.aload_n 0, 1) := by decide +kernel
theorem dX8_coming_141 : decode cX8_coming 141 = .ok (.getfield 16, 3) := by decide +kernel
theorem dX8_coming_144 : decode cX8_coming 144 = .ok (.invokestatic 206, 3) := by decide +kernel
theorem dX8_coming_147 : decode cX8_coming 147 = .ok (.ireturn, 1) := by decide +kernel
theorem dX8_leastLimit_0 : decode cX8_leastLimit 0 = .ok (.aload_n 0, 1) := by decide +kernel
theorem dX8_leastLimit_1 : decode cX8_leastLimit 1 = .ok (.iload_n 1, 1) := by decide +kernel
theorem dX8_leastLimit_2 : decode cX8_leastLimit 2 = .ok (.i2l, 1) := by decide +kernel
theorem dX8_leastLimit_3 : decode cX8_leastLimit 3 = .ok (.lconst 1, 1) := by decide +kernel
theorem dX8_leastLimit_4 : decode cX8_leastLimit 4 = .ok (.ldc2_w 196, 3) := by decide +kernel
theorem dX8_leastLimit_7 : decode cX8_leastLimit 7 = .ok (.invokestatic 40, 3) := by decide +kernel
theorem dX8_leastLimit_10 : decode cX8_leastLimit 10 = .ok (.ifCond .eq 7, 3) := by decide +kernel
theorem dX8_leastLimit_13 : decode cX8_leastLimit 13 = .ok (.iconst 0, 1) := by decide +kernel
theorem dX8_leastLimit_14 : decode cX8_leastLimit 14 = .ok (.goto 4, 3) := by decide +kernel
theorem dX8_leastLimit_17 : decode cX8_leastLimit 17 = .ok (.iconst 1, 1) := by decide +kernel
theorem dX8_leastLimit_18 : decode cX8_leastLimit 18 = .ok (.invokevirtual 119, 3) := by decide +kernel
theorem dX8_leastLimit_21 : decode cX8_leastLimit 21 = .ok (.ifCond .eq 5, 3) := by decide +kernel
theorem dX8_leastLimit_24 : decode cX8_leastLimit 24 = .ok (.iconst 0, 1) := by decide +kernel
theorem dX8_leastLimit_25 : decode cX8_leastLimit 25 = .ok (.ireturn, 1) := by decide +kernel
theorem dX8_leastLimit_26 : decode cX8_leastLimit 26 = .ok (.iconst 0, 1) := by decide +kernel
theorem dX8_leastLimit_27 : decode cX8_leastLimit 27 = .ok (.istore_n 2, 1) := by decide +kernel
theorem dX8_leastLimit_28 : decode cX8_leastLimit 28 = .ok (.iload_n 2, 1) := by decide +kernel
theorem dX8_leastLimit_29 : decode cX8_leastLimit 29 = .ok (.sipush 9999, 3) := by decide +kernel
theorem dX8_leastLimit_32 : decode cX8_leastLimit 32 = .ok (.if_icmp .ge 57, 3) := by decide +kernel
theorem dX8_leastLimit_35 : decode cX8_leastLimit 35 = .ok (.aload_n 0, 1) := by decide +kernel
theorem dX8_leastLimit_36 : decode cX8_leastLimit 36 = .ok (.getfield 13, 3) := by decide +kernel
theorem dX8_leastLimit_39 : decode cX8_leastLimit 39 = .ok (.iconst 0, 1) := by decide +kernel
theorem dX8_leastLimit_40 : decode cX8_leastLimit 40 = .ok (.aload_n 0, 1) := by decide +kernel
theorem dX8_leastLimit_41 : decode cX8_leastLimit 41 = .ok (.getfield 16, 3) := by decide +kernel
theorem dX8_leastLimit_44 : decode cX8_leastLimit 44 = .ok (.iconst 0, 1) := by decide +kernel
theorem dX8_leastLimit_45 : decode cX8_leastLimit 45 = .ok (.invokestatic 175, 3) := by decide +kernel
theorem dX8_leastLimit_48 : decode cX8_leastLimit 48 = .ok (.aload_n 0, 1) := by decide +kernel
theorem dX8_leastLimit_49 : decode cX8_leastLimit 49 = .ok (.getfield 16, 3) := by decide +kernel
theorem dX8_leastLimit_52 : decode cX8_leastLimit 52 = .ok (.bipush 10, 2) := by decide +kernel
theorem dX8_leastLimit_54 : decode cX8_leastLimit 54 = .ok (.iload_n 2, 1) := by decide +kernel
theorem dX8_leastLimit_55 : decode cX8_leastLimit 55 = .ok (.iastore, 1) := by decide +kernel
theorem dX8_leastLimit_56 : decode cX8_leastLimit 56 = .ok (.aload_n 0, 1) := by decide +kernel
theorem dX8_leastLimit_57 : decode cX8_leastLimit 57 = .ok (.aload_n 0, 1) := by decide +kernel
theorem dX8_leastLimit_58 : decode cX8_leastLimit 58 = .ok (.getfield 16, 3) := by decide +kernel
theorem dX8_leastLimit_61 : decode cX8_leastLimit 61 = .ok (.iload_n 1, 1) := by decide +kernel
theorem dX8_leastLimit_62 : decode cX8_leastLimit 62 = .ok (.invokevirtual 165, 3) := by decide +kernel
theorem dX8_leastLimit_65 : decode cX8_leastLimit 65 = .ok (.pop, 1) := by decide +kernel
theorem dX8_leastLimit_66 : decode cX8_leastLimit 66 = .ok (.aload_n 0, 1) := by decide +kernel
theorem dX8_leastLimit_67 : decode cX8_leastLimit 67 = .ok (.getfield 16, 3) := by decide +kernel
theorem dX8_leastLimit_70 : decode cX8_leastLimit 70 = .ok (.iconst 3, 1) := by decide +kernel
theorem dX8_leastLimit_71 : decode cX8_leastLimit 71 = .ok (.iaload, 1) := by decide +kernel
theorem dX8_leastLimit_72 : decode cX8_leastLimit 72 = .ok (.aload_n 0, 1) := by decide +kernel
theorem dX8_leastLimit_73 : decode cX8_leastLimit 73 = .ok (.getfield 13, 3) := by decide +kernel
theorem dX8_leastLimit_76 : decode cX8_leastLimit 76 = .ok (.iconst 3, 1) := by decide +kernel
theorem dX8_leastLimit_77 : decode cX8_leastLimit 77 = .ok (.iaload, 1) := by decide +kernel
theorem dX8_leastLimit_78 : decode cX8_leastLimit 78 = .ok (.if_icmp .ne 5, 3) := by decide +kernel
theorem dX8_leastLimit_81 : decode cX8_leastLimit 81 = .ok (.iload_n 2, 1) := by decide +kernel
theorem dX8_leastLimit_82 : decode cX8_leastLimit 82 = .ok (.ireturn, 1) := by decide +kernel
theorem dX8_leastLimit_83 : decode cX8_leastLimit 83 = .ok (.iinc 2 100, 3) := by decide +kernel
theorem dX8_leastLimit_86 : decode cX8_leastLimit 86 = .ok (.goto (-58), 3) := by decide +kernel
theorem dX8_leastLimit_89 : decode cX8_leastLimit 89 = .ok (.iconst (-1), 1) := by decide +kernel
theorem dX8_leastLimit_90 : decode cX8_leastLimit 90 = .ok (.ireturn, 1) := by decide +kernel
theorem dX8_bestShut_0 : decode cX8_bestShut 0 = .ok (.aload_n 0, 1) := by decide +kernel
theorem dX8_bestShut_1 : decode cX8_bestShut 1 = .ok (.iconst 0, 1) := by decide +kernel
theorem dX8_bestShut_2 : decode cX8_bestShut 2 = .ok (.putfield 36, 3) := by decide +kernel
theorem dX8_bestShut_5 : decode cX8_bestShut 5 = .ok (.iconst (-1), 1) := by decide +kernel
theorem dX8_bestShut_6 : decode cX8_bestShut 6 = .ok (.istore_n 1, 1) := by decide +kernel
theorem dX8_bestShut_7 : decode cX8_bestShut 7 = .ok (.iconst 0, 1) := by decide +kernel
theorem dX8_bestShut_8 : decode cX8_bestShut 8 = .ok (.istore_n 2, 1) := by decide +kernel
theorem dX8_bestShut_9 : decode cX8_bestShut 9 = .ok (.iconst 0, 1) := by decide +kernel
theorem dX8_bestShut_10 : decode cX8_bestShut 10 = .ok (.istore_n 3, 1) := by decide +kernel
theorem dX8_bestShut_11 : decode cX8_bestShut 11 = .ok (.iload_n 3, 1) := by decide +kernel
theorem dX8_bestShut_12 : decode cX8_bestShut 12 = .ok (.aload_n 0, 1) := by decide +kernel
theorem dX8_bestShut_13 : decode cX8_bestShut 13 = .ok (.getfield 13, 3) := by decide +kernel
theorem dX8_bestShut_16 : decode cX8_bestShut 16 = .ok (.iconst 0, 1) := by decide +kernel
theorem dX8_bestShut_17 : decode cX8_bestShut 17 = .ok (.iaload, 1) := by decide +kernel
theorem dX8_bestShut_18 : decode cX8_bestShut 18 = .ok (.if_icmp .ge 118, 3) := by decide +kernel
theorem dX8_bestShut_21 : decode cX8_bestShut 21 = .ok (.aload_n 0, 1) := by decide +kernel
theorem dX8_bestShut_22 : decode cX8_bestShut 22 = .ok (.getfield 13, 3) := by decide +kernel
theorem dX8_bestShut_25 : decode cX8_bestShut 25 = .ok (.iload_n 3, 1) := by decide +kernel
theorem dX8_bestShut_26 : decode cX8_bestShut 26 = .ok (.iconst 4, 1) := by decide +kernel
theorem dX8_bestShut_27 : decode cX8_bestShut 27 = .ok (.invokestatic 44, 3) := by decide +kernel
theorem dX8_bestShut_30 : decode cX8_bestShut 30 = .ok (.iconst 1, 1) := by decide +kernel
theorem dX8_bestShut_31 : decode cX8_bestShut 31 = .ok (.if_icmp .ne 99, 3) := by decide +kernel
theorem dX8_bestShut_34 : decode cX8_bestShut 34 = .ok (.aload_n 0, 1) := by decide +kernel
theorem dX8_bestShut_35 : decode cX8_bestShut 35 = .ok (.getfield 13, 3) := by decide +kernel
theorem dX8_bestShut_38 : decode cX8_bestShut 38 = .ok (.iconst 0, 1) := by decide +kernel
theorem dX8_bestShut_39 : decode cX8_bestShut 39 = .ok (.aload_n 0, 1) := by decide +kernel
theorem dX8_bestShut_40 : decode cX8_bestShut 40 = .ok (.getfield 16, 3) := by decide +kernel
theorem dX8_bestShut_43 : decode cX8_bestShut 43 = .ok (.iconst 0, 1) := by decide +kernel
theorem dX8_bestShut_44 : decode cX8_bestShut 44 = .ok (.invokestatic 175, 3) := by decide +kernel
theorem dX8_bestShut_47 : decode cX8_bestShut 47 = .ok (.aload_n 0, 1) := by decide +kernel
theorem dX8_bestShut_48 : decode cX8_bestShut 48 = .ok (.getfield 16, 3) := by decide +kernel
theorem dX8_bestShut_51 : decode cX8_bestShut 51 = .ok (.iload_n 3, 1) := by decide +kernel
theorem dX8_bestShut_52 : decode cX8_bestShut 52 = .ok (.iconst 4, 1) := by decide +kernel
theorem dX8_bestShut_53 : decode cX8_bestShut 53 = .ok (.iconst 0, 1) := by decide +kernel
theorem dX8_bestShut_54 : decode cX8_bestShut 54 = .ok (.invokestatic 79, 3) := by decide +kernel
theorem dX8_bestShut_57 : decode cX8_bestShut 57 = .ok (.aload_n 0, 1) := by decide +kernel
theorem dX8_bestShut_58 : decode cX8_bestShut 58 = .ok (.aload_n 0, 1) := by decide +kernel
theorem dX8_bestShut_59 : decode cX8_bestShut 59 = .ok (.getfield 16, 3) := by decide +kernel
theorem dX8_bestShut_62 : decode cX8_bestShut 62 = .ok (.bipush 15, 2) := by decide +kernel
theorem dX8_bestShut_64 : decode cX8_bestShut 64 = .ok (.invokevirtual 165, 3) := by decide +kernel
theorem dX8_bestShut_67 : decode cX8_bestShut 67 = .ok (.pop, 1) := by decide +kernel
theorem dX8_bestShut_68 : decode cX8_bestShut 68 = .ok (.aload_n 0, 1) := by decide +kernel
theorem dX8_bestShut_69 : decode cX8_bestShut 69 = .ok (.getfield 16, 3) := by decide +kernel
theorem dX8_bestShut_72 : decode cX8_bestShut 72 = .ok (.iload_n 3, 1) := by decide +kernel
theorem dX8_bestShut_73 : decode cX8_bestShut 73 = .ok (.iconst 3, 1) := by decide +kernel
theorem dX8_bestShut_74 : decode cX8_bestShut 74 = .ok (.invokestatic 44, 3) := by decide +kernel
theorem dX8_bestShut_77 : decode cX8_bestShut 77 = .ok (.aload_n 0, 1) := by decide +kernel
theorem dX8_bestShut_78 : decode cX8_bestShut 78 = .ok (.getfield 16, 3) := by decide +kernel
theorem dX8_bestShut_81 : decode cX8_bestShut 81 = .ok (.iload_n 3, 1) := by decide +kernel
theorem dX8_bestShut_82 : decode cX8_bestShut 82 = .ok (.iconst 2, 1) := by decide +kernel
theorem dX8_bestShut_83 : decode cX8_bestShut 83 = .ok (.invokestatic 44, 3) := by decide +kernel
theorem dX8_bestShut_86 : decode cX8_bestShut 86 = .ok (.isub, 1) := by decide +kernel
theorem dX8_bestShut_87 : decode cX8_bestShut 87 = .ok (.istore 4, 2) := by decide +kernel
theorem dX8_bestShut_89 : decode cX8_bestShut 89 = .ok (.iload_n 1, 1) := by decide +kernel
theorem dX8_bestShut_90 : decode cX8_bestShut 90 = .ok (.iconst (-1), 1) := by decide +kernel
theorem dX8_bestShut_91 : decode cX8_bestShut 91 = .ok (.if_icmp .eq 9, 3) := by decide +kernel
theorem dX8_bestShut_94 : decode cX8_bestShut 94 = .ok (.iload 4, 2) := by decide +kernel
theorem dX8_bestShut_96 : decode cX8_bestShut 96 = .ok (.iload_n 2, 1) := by decide +kernel
theorem dX8_bestShut_97 : decode cX8_bestShut 97 = .ok (.if_icmp .ge 7, 3) := by decide +kernel
theorem dX8_bestShut_100 : decode cX8_bestShut 100 = .ok (.iconst 1, 1) := by decide +kernel
theorem dX8_bestShut_101 : decode cX8_bestShut 101 = .ok (.goto 4, 3) := by decide +kernel
theorem dX8_bestShut_104 : decode cX8_bestShut 104 = .ok (.iconst 0, 1) := by decide +kernel
theorem dX8_bestShut_105 : decode cX8_bestShut 105 = .ok (.istore 5, 2) := by decide +kernel
theorem dX8_bestShut_107 : decode cX8_bestShut 107 = .ok (.iload 5, 2) := by decide +kernel
theorem dX8_bestShut_109 : decode cX8_bestShut 109 = .ok (.ifCond .eq 7, 3) := by decide +kernel
theorem dX8_bestShut_112 : decode cX8_bestShut 112 = .ok (.iload_n 3, 1) := by decide +kernel
theorem dX8_bestShut_113 : decode cX8_bestShut 113 = .ok (.goto 4, 3) := by decide +kernel
theorem dX8_bestShut_116 : decode cX8_bestShut 116 = .ok (.iload_n 1, 1) := by decide +kernel
theorem dX8_bestShut_117 : decode cX8_bestShut 117 = .ok (.istore_n 1, 1) := by decide +kernel
theorem dX8_bestShut_118 : decode cX8_bestShut 118 = .ok (.iload 5, 2) := by decide +kernel
theorem dX8_bestShut_120 : decode cX8_bestShut 120 = .ok (.ifCond .eq 8, 3) := by decide +kernel
theorem dX8_bestShut_123 : decode cX8_bestShut 123 = .ok (.iload 4, 2) := by decide +kernel
theorem dX8_bestShut_125 : decode cX8_bestShut 125 = .ok (.goto 4, 3) := by decide +kernel
theorem dX8_bestShut_128 : decode cX8_bestShut 128 = .ok (.iload_n 2, 1) := by decide +kernel
theorem dX8_bestShut_129 : decode cX8_bestShut 129 = .ok (.istore_n 2, 1) := by decide +kernel
theorem dX8_bestShut_130 : decode cX8_bestShut 130 = .ok (.iinc 3 1, 3) := by decide +kernel
theorem dX8_bestShut_133 : decode cX8_bestShut 133 = .ok (.goto (-122), 3) := by decide +kernel
theorem dX8_bestShut_136 : decode cX8_bestShut 136 = .ok (.iload_n 1, 1) := by decide +kernel
theorem dX8_bestShut_137 : decode cX8_bestShut 137 = .ok (.ireturn, 1) := by decide +kernel
theorem dX8_doesIt_0 : decode cX8_doesIt 0 = .ok (.aload_n 0, 1) := by decide +kernel
theorem dX8_doesIt_1 : decode cX8_doesIt 1 = .ok (.aload_n 0, 1) := by decide +kernel
theorem dX8_doesIt_2 : decode cX8_doesIt 2 = .ok (.getfield 16, 3) := by decide +kernel
theorem dX8_doesIt_5 : decode cX8_doesIt 5 = .ok (.invokevirtual 83, 3) := by decide +kernel
theorem dX8_doesIt_8 : decode cX8_doesIt 8 = .ok (.aload_n 0, 1) := by decide +kernel
theorem dX8_doesIt_9 : decode cX8_doesIt 9 = .ok (.getfield 29, 3) := by decide +kernel
theorem dX8_doesIt_12 : decode cX8_doesIt 12 = .ok (.iload_n 1, 1) := by decide +kernel
theorem dX8_doesIt_13 : decode cX8_doesIt 13 = .ok (.iaload, 1) := by decide +kernel
theorem dX8_doesIt_14 : decode cX8_doesIt 14 = .ok (.iload_n 2, 1) := by decide +kernel
theorem dX8_doesIt_15 : decode cX8_doesIt 15 = .ok (.if_icmp .ne 7, 3) := by decide +kernel
theorem dX8_doesIt_18 : decode cX8_doesIt 18 = .ok (.iconst 1, 1) := by decide +kernel
theorem dX8_doesIt_19 : decode cX8_doesIt 19 = .ok (.goto 4, 3) := by decide +kernel
theorem dX8_doesIt_22 : decode cX8_doesIt 22 = .ok (.iconst 0, 1) := by decide +kernel
theorem dX8_doesIt_23 : decode cX8_doesIt 23 = .ok (.ireturn, 1) := by decide +kernel
theorem dX8_command_0 : decode cX8_command 0 = .ok (.iload_n 2, 1) := by decide +kernel
theorem dX8_command_1 : decode cX8_command 1 = .ok (.sipush 1000, 3) := by decide +kernel
theorem dX8_command_4 : decode cX8_command 4 = .ok (.idiv, 1) := by decide +kernel
theorem dX8_command_5 : decode cX8_command 5 = .ok (.istore_n 3, 1) := by decide +kernel
theorem dX8_command_6 : decode cX8_command 6 = .ok (.iload_n 2, 1) := by decide +kernel
theorem dX8_command_7 : decode cX8_command 7 = .ok (.bipush 100, 2) := by decide +kernel
theorem dX8_command_9 : decode cX8_command 9 = .ok (.idiv, 1) := by decide +kernel
theorem dX8_command_10 : decode cX8_command 10 = .ok (.bipush 10, 2) := by decide +kernel
theorem dX8_command_12 : decode cX8_command 12 = .ok (.irem, 1) := by decide +kernel
theorem dX8_command_13 : decode cX8_command 13 = .ok (.istore 4, 2) := by decide +kernel
theorem dX8_command_15 : decode cX8_command 15 = .ok (.iload_n 2, 1) := by decide +kernel
theorem dX8_command_16 : decode cX8_command 16 = .ok (.bipush 10, 2) := by decide +kernel
theorem dX8_command_18 : decode cX8_command 18 = .ok (.idiv, 1) := by decide +kernel
theorem dX8_command_19 : decode cX8_command 19 = .ok (.bipush 100, 2) := by decide +kernel
theorem dX8_command_21 : decode cX8_command 21 = .ok (.irem, 1) := by decide +kernel
theorem dX8_command_22 : decode cX8_command 22 = .ok (.istore 5, 2) := by decide +kernel
theorem dX8_command_24 : decode cX8_command 24 = .ok (.iload_n 2, 1) := by decide +kernel
theorem dX8_command_25 : decode cX8_command 25 = .ok (.sipush 1000, 3) := by decide +kernel
theorem dX8_command_28 : decode cX8_command 28 = .ok (.irem, 1) := by decide +kernel
theorem dX8_command_29 : decode cX8_command 29 = .ok (.istore 6, 2) := by decide +kernel
theorem dX8_command_31 : decode cX8_command 31 = .ok (.iload_n 2, 1) := by decide +kernel
theorem dX8_command_32 : decode cX8_command 32 = .ok (.bipush 10, 2) := by decide +kernel
theorem dX8_command_34 : decode cX8_command 34 = .ok (.irem, 1) := by decide +kernel
theorem dX8_command_35 : decode cX8_command 35 = .ok (.ifCond .ne 7, 3) := by decide +kernel
theorem dX8_command_38 : decode cX8_command 38 = .ok (.iconst 1, 1) := by decide +kernel
theorem dX8_command_39 : decode cX8_command 39 = .ok (.goto 4, 3) := by decide +kernel
theorem dX8_command_42 : decode cX8_command 42 = .ok (.iconst 0, 1) := by decide +kernel
theorem dX8_command_43 : decode cX8_command 43 = .ok (.istore 7, 2) := by decide +kernel
theorem dX8_command_45 : decode cX8_command 45 = .ok (.aload_n 0, 1) := by decide +kernel
theorem dX8_command_46 : decode cX8_command 46 = .ok (.getfield 16, 3) := by decide +kernel
theorem dX8_command_49 : decode cX8_command 49 = .ok (.iload_n 3, 1) := by decide +kernel
theorem dX8_command_50 : decode cX8_command 50 = .ok (.invokestatic 158, 3) := by decide +kernel
theorem dX8_command_53 : decode cX8_command 53 = .ok (.istore 8, 2) := by decide +kernel
theorem dX8_command_55 : decode cX8_command 55 = .ok (.iload_n 1, 1) := by decide +kernel
theorem dX8_command_56 : decode cX8_command 56 = .ok (.tableswitch 331 1 9 #[52, 98, 128, 151, 180, 212, 242, 270, 292], 52) := by decide +kernel
theorem dX8_command_108 : decode cX8_command 108 = .ok (.iload 8, 2) := by decide +kernel
theorem dX8_command_110 : decode cX8_command 110 = .ok (.ifCond .eq 42, 3) := by decide +kernel
theorem dX8_command_113 : decode cX8_command 113 = .ok (.iload 4, 2) := by decide +kernel
theorem dX8_command_115 : decode cX8_command 115 = .ok (.iconst 2, 1) := by decide +kernel
theorem dX8_command_116 : decode cX8_command 116 = .ok (.if_icmp .ge 36, 3) := by decide +kernel
theorem dX8_command_119 : decode cX8_command 119 = .ok (.iload_n 2, 1) := by decide +kernel
theorem dX8_command_120 : decode cX8_command 120 = .ok (.bipush 100, 2) := by decide +kernel
theorem dX8_command_122 : decode cX8_command 122 = .ok (.irem, 1) := by decide +kernel
theorem dX8_command_123 : decode cX8_command 123 = .ok (.ifCond .ne 29, 3) := by decide +kernel
theorem dX8_command_126 : decode cX8_command 126 = .ok (.aload_n 0, 1) := by decide +kernel
theorem dX8_command_127 : decode cX8_command 127 = .ok (.getfield 16, 3) := by decide +kernel
theorem dX8_command_130 : decode cX8_command 130 = .ok (.iload_n 3, 1) := by decide +kernel
theorem dX8_command_131 : decode cX8_command 131 = .ok (.iload 4, 2) := by decide +kernel
theorem dX8_command_133 : decode cX8_command 133 = .ok (.iconst 1, 1) := by decide +kernel
theorem dX8_command_134 : decode cX8_command 134 = .ok (.if_icmp .ne 7, 3) := by decide +kernel
theorem dX8_command_137 : decode cX8_command 137 = .ok (.iconst 1, 1) := by decide +kernel
theorem dX8_command_138 : decode cX8_command 138 = .ok (.goto 4, 3) := by decide +kernel
theorem dX8_command_141 : decode cX8_command 141 = .ok (.iconst 0, 1) := by decide +kernel
theorem dX8_command_142 : decode cX8_command 142 = .ok (.invokestatic 161, 3) := by decide +kernel
theorem dX8_command_145 : decode cX8_command 145 = .ok (.ifCond .lt 7, 3) := by decide +kernel
theorem dX8_command_148 : decode cX8_command 148 = .ok (.iconst 1, 1) := by decide +kernel
theorem dX8_command_149 : decode cX8_command 149 = .ok (.goto 4, 3) := by decide +kernel
theorem dX8_command_152 : decode cX8_command 152 = .ok (.iconst 0, 1) := by decide +kernel
theorem dX8_command_153 : decode cX8_command 153 = .ok (.ireturn, 1) := by decide +kernel
theorem dX8_command_154 : decode cX8_command 154 = .ok (.iload_n 2, 1) := by decide +kernel
theorem dX8_command_155 : decode cX8_command 155 = .ok (.i2l, 1) := by decide +kernel
theorem dX8_command_156 : decode cX8_command 156 = .ok (.lconst 1, 1) := by decide +kernel
theorem dX8_command_157 : decode cX8_command 157 = .ok (.ldc2_w 196, 3) := by decide +kernel
theorem dX8_command_160 : decode cX8_command 160 = .ok (.invokestatic 40, 3) := by decide +kernel
theorem dX8_command_163 : decode cX8_command 163 = .ok (.ifCond .eq 19, 3) := by decide +kernel
theorem dX8_command_166 : decode cX8_command 166 = .ok (.aload_n 0, 1) := by decide +kernel
theorem dX8_command_167 : decode cX8_command 167 = .ok (.aload_n 0, 1) := by decide +kernel
theorem dX8_command_168 : decode cX8_command 168 = .ok (.getfield 16, 3) := by decide +kernel
theorem dX8_command_171 : decode cX8_command 171 = .ok (.iload_n 2, 1) := by decide +kernel
theorem dX8_command_172 : decode cX8_command 172 = .ok (.invokevirtual 165, 3) := by decide +kernel
theorem dX8_command_175 : decode cX8_command 175 = .ok (.ifCond .lt 7, 3) := by decide +kernel
theorem dX8_command_178 : decode cX8_command 178 = .ok (.iconst 1, 1) := by decide +kernel
theorem dX8_command_179 : decode cX8_command 179 = .ok (.goto 4, 3) := by decide +kernel
theorem dX8_command_182 : decode cX8_command 182 = .ok (.iconst 0, 1) := by decide +kernel
theorem dX8_command_183 : decode cX8_command 183 = .ok (.ireturn, 1) := by decide +kernel
theorem dX8_command_184 : decode cX8_command 184 = .ok (.iload_n 2, 1) := by decide +kernel
theorem dX8_command_185 : decode cX8_command 185 = .ok (.ifCond .ne 20, 3) := by decide +kernel
theorem dX8_command_188 : decode cX8_command 188 = .ok (.aload_n 0, 1) := by decide +kernel
theorem dX8_command_189 : decode cX8_command 189 = .ok (.aload_n 0, 1) := by decide +kernel
theorem dX8_command_190 : decode cX8_command 190 = .ok (.getfield 16, 3) := by decide +kernel
theorem dX8_command_193 : decode cX8_command 193 = .ok (.bipush 15, 2) := by decide +kernel
theorem dX8_command_195 : decode cX8_command 195 = .ok (.invokevirtual 165, 3) := by decide +kernel
theorem dX8_command_198 : decode cX8_command 198 = .ok (.ifCond .lt 7, 3) := by decide +kernel
theorem dX8_command_201 : decode cX8_command 201 = .ok (.iconst 1, 1) := by decide +kernel
theorem dX8_command_202 : decode cX8_command 202 = .ok (.goto 4, 3) := by decide +kernel
theorem dX8_command_205 : decode cX8_command 205 = .ok (.iconst 0, 1) := by decide +kernel
theorem dX8_command_206 : decode cX8_command 206 = .ok (.ireturn, 1) := by decide +kernel
theorem dX8_command_207 : decode cX8_command 207 = .ok (.iload 7, 2) := by decide +kernel
theorem dX8_command_209 : decode cX8_command 209 = .ok (.ifCond .eq 12, 3) := by decide +kernel
theorem dX8_command_212 : decode cX8_command 212 = .ok (.iload_n 3, 1) := by decide +kernel
theorem dX8_command_213 : decode cX8_command 213 = .ok (.iload 5, 2) := by decide +kernel
theorem dX8_command_215 : decode cX8_command 215 = .ok (.invokestatic 198, 3) := by decide +kernel
theorem dX8_command_218 : decode cX8_command 218 = .ok (.ifCond .ne 5, 3) := by decide +kernel
theorem dX8_command_221 : decode cX8_command 221 = .ok (.iconst 0, 1) := by decide +kernel
theorem dX8_command_222 : decode cX8_command 222 = .ok (.ireturn, 1) := by decide +kernel
theorem dX8_command_223 : decode cX8_command 223 = .ok (.aload_n 0, 1) := by decide +kernel
theorem dX8_command_224 : decode cX8_command 224 = .ok (.getfield 16, 3) := by decide +kernel
theorem dX8_command_227 : decode cX8_command 227 = .ok (.bipush 10, 2) := by decide +kernel
theorem dX8_command_229 : decode cX8_command 229 = .ok (.iload_n 3, 1) := by decide +kernel
theorem dX8_command_230 : decode cX8_command 230 = .ok (.iadd, 1) := by decide +kernel
theorem dX8_command_231 : decode cX8_command 231 = .ok (.iload 5, 2) := by decide +kernel
theorem dX8_command_233 : decode cX8_command 233 = .ok (.iastore, 1) := by decide +kernel
theorem dX8_command_234 : decode cX8_command 234 = .ok (.iconst 1, 1) := by decide +kernel
theorem dX8_command_235 : decode cX8_command 235 = .ok (.ireturn, 1) := by decide +kernel
theorem dX8_command_236 : decode cX8_command 236 = .ok (.iload 8, 2) := by decide +kernel
theorem dX8_command_238 : decode cX8_command 238 = .ok (.ifCond .eq 28, 3) := by decide +kernel
theorem dX8_command_241 : decode cX8_command 241 = .ok (.iload 7, 2) := by decide +kernel
theorem dX8_command_243 : decode cX8_command 243 = .ok (.ifCond .eq 23, 3) := by decide +kernel
theorem dX8_command_246 : decode cX8_command 246 = .ok (.aload_n 0, 1) := by decide +kernel
theorem dX8_command_247 : decode cX8_command 247 = .ok (.getfield 16, 3) := by decide +kernel
theorem dX8_command_250 : decode cX8_command 250 = .ok (.iload_n 3, 1) := by decide +kernel
theorem dX8_command_251 : decode cX8_command 251 = .ok (.iload 5, 2) := by decide +kernel
theorem dX8_command_253 : decode cX8_command 253 = .ok (.invokestatic 193, 3) := by decide +kernel
theorem dX8_command_256 : decode cX8_command 256 = .ok (.sipush (-400), 3) := by decide +kernel
theorem dX8_command_259 : decode cX8_command 259 = .ok (.if_icmp .lt 7, 3) := by decide +kernel
theorem dX8_command_262 : decode cX8_command 262 = .ok (.iconst 1, 1) := by decide +kernel
theorem dX8_command_263 : decode cX8_command 263 = .ok (.goto 4, 3) := by decide +kernel
theorem dX8_command_266 : decode cX8_command 266 = .ok (.iconst 0, 1) := by decide +kernel
theorem dX8_command_267 : decode cX8_command 267 = .ok (.ireturn, 1) := by decide +kernel
theorem dX8_command_268 : decode cX8_command 268 = .ok (.iload 8, 2) := by decide +kernel
theorem dX8_command_270 : decode cX8_command 270 = .ok (.ifCond .eq 26, 3) := by decide +kernel
theorem dX8_command_273 : decode cX8_command 273 = .ok (.iload 7, 2) := by decide +kernel
theorem dX8_command_275 : decode cX8_command 275 = .ok (.ifCond .eq 21, 3) := by decide +kernel
theorem dX8_command_278 : decode cX8_command 278 = .ok (.aload_n 0, 1) := by decide +kernel
theorem dX8_command_279 : decode cX8_command 279 = .ok (.getfield 16, 3) := by decide +kernel
theorem dX8_command_282 : decode cX8_command 282 = .ok (.iload_n 3, 1) := by decide +kernel
theorem dX8_command_283 : decode cX8_command 283 = .ok (.iconst 5, 1) := by decide +kernel
theorem dX8_command_284 : decode cX8_command 284 = .ok (.invokestatic 44, 3) := by decide +kernel
theorem dX8_command_287 : decode cX8_command 287 = .ok (.iload 5, 2) := by decide +kernel
theorem dX8_command_289 : decode cX8_command 289 = .ok (.if_icmp .gt 7, 3) := by decide +kernel
theorem dX8_command_292 : decode cX8_command 292 = .ok (.iconst 1, 1) := by decide +kernel
theorem dX8_command_293 : decode cX8_command 293 = .ok (.goto 4, 3) := by decide +kernel
theorem dX8_command_296 : decode cX8_command 296 = .ok (.iconst 0, 1) := by decide +kernel
theorem dX8_command_297 : decode cX8_command 297 = .ok (.ireturn, 1) := by decide +kernel
theorem dX8_command_298 : decode cX8_command 298 = .ok (.iload 8, 2) := by decide +kernel
theorem dX8_command_300 : decode cX8_command 300 = .ok (.ifCond .eq 24, 3) := by decide +kernel
theorem dX8_command_303 : decode cX8_command 303 = .ok (.iload 6, 2) := by decide +kernel
theorem dX8_command_305 : decode cX8_command 305 = .ok (.bipush 8, 2) := by decide +kernel
theorem dX8_command_307 : decode cX8_command 307 = .ok (.if_icmp .ge 17, 3) := by decide +kernel
theorem dX8_command_310 : decode cX8_command 310 = .ok (.aload_n 0, 1) := by decide +kernel
theorem dX8_command_311 : decode cX8_command 311 = .ok (.iload_n 3, 1) := by decide +kernel
theorem dX8_command_312 : decode cX8_command 312 = .ok (.iload 6, 2) := by decide +kernel
theorem dX8_command_314 : decode cX8_command 314 = .ok (.invokevirtual 209, 3) := by decide +kernel
theorem dX8_command_317 : decode cX8_command 317 = .ok (.ifCond .eq 7, 3) := by decide +kernel
theorem dX8_command_320 : decode cX8_command 320 = .ok (.iconst 1, 1) := by decide +kernel
theorem dX8_command_321 : decode cX8_command 321 = .ok (.goto 4, 3) := by decide +kernel
theorem dX8_command_324 : decode cX8_command 324 = .ok (.iconst 0, 1) := by decide +kernel
theorem dX8_command_325 : decode cX8_command 325 = .ok (.ireturn, 1) := by decide +kernel
theorem dX8_command_326 : decode cX8_command 326 = .ok (.iload_n 2, 1) := by decide +kernel
theorem dX8_command_327 : decode cX8_command 327 = .ok (.bipush 100, 2) := by decide +kernel
theorem dX8_command_329 : decode cX8_command 329 = .ok (.if_icmp .ge 17, 3) := by decide +kernel
theorem dX8_command_332 : decode cX8_command 332 = .ok (.aload_n 0, 1) := by decide +kernel
theorem dX8_command_333 : decode cX8_command 333 = .ok (.getfield 16, 3) := by decide +kernel
theorem dX8_command_336 : decode cX8_command 336 = .ok (.iconst 3, 1) := by decide +kernel
theorem dX8_command_337 : decode cX8_command 337 = .ok (.iaload, 1) := by decide +kernel
theorem dX8_command_338 : decode cX8_command 338 = .ok (.iload_n 2, 1) := by decide +kernel
theorem dX8_command_339 : decode cX8_command 339 = .ok (.if_icmp .gt 7, 3) := by decide +kernel
theorem dX8_command_342 : decode cX8_command 342 = .ok (.iconst 1, 1) := by decide +kernel
theorem dX8_command_343 : decode cX8_command 343 = .ok (.goto 4, 3) := by decide +kernel
theorem dX8_command_346 : decode cX8_command 346 = .ok (.iconst 0, 1) := by decide +kernel
theorem dX8_command_347 : decode cX8_command 347 = .ok (.ireturn, 1) := by decide +kernel
theorem dX8_command_348 : decode cX8_command 348 = .ok (.iload 8, 2) := by decide +kernel
theorem dX8_command_350 : decode cX8_command 350 = .ok (.ifCond .eq 35, 3) := by decide +kernel
theorem dX8_command_353 : decode cX8_command 353 = .ok (.iload 6, 2) := by decide +kernel
theorem dX8_command_355 : decode cX8_command 355 = .ok (.iconst 2, 1) := by decide +kernel
theorem dX8_command_356 : decode cX8_command 356 = .ok (.if_icmp .ge 29, 3) := by decide +kernel
theorem dX8_command_359 : decode cX8_command 359 = .ok (.aload_n 0, 1) := by decide +kernel
theorem dX8_command_360 : decode cX8_command 360 = .ok (.getfield 16, 3) := by decide +kernel
theorem dX8_command_363 : decode cX8_command 363 = .ok (.iload_n 3, 1) := by decide +kernel
theorem dX8_command_364 : decode cX8_command 364 = .ok (.invokestatic 55, 3) := by decide +kernel
theorem dX8_command_367 : decode cX8_command 367 = .ok (.iload 6, 2) := by decide +kernel
theorem dX8_command_369 : decode cX8_command 369 = .ok (.iconst 1, 1) := by decide +kernel
theorem dX8_command_370 : decode cX8_command 370 = .ok (.if_icmp .ne 7, 3) := by decide +kernel
theorem dX8_command_373 : decode cX8_command 373 = .ok (.iconst 1, 1) := by decide +kernel
theorem dX8_command_374 : decode cX8_command 374 = .ok (.goto 4, 3) := by decide +kernel
theorem dX8_command_377 : decode cX8_command 377 = .ok (.iconst 0, 1) := by decide +kernel
theorem dX8_command_378 : decode cX8_command 378 = .ok (.if_icmp .ne 7, 3) := by decide +kernel
theorem dX8_command_381 : decode cX8_command 381 = .ok (.iconst 1, 1) := by decide +kernel
theorem dX8_command_382 : decode cX8_command 382 = .ok (.goto 4, 3) := by decide +kernel
theorem dX8_command_385 : decode cX8_command 385 = .ok (.iconst 0, 1) := by decide +kernel
theorem dX8_command_386 : decode cX8_command 386 = .ok (.ireturn, 1) := by decide +kernel
theorem dX8_command_387 : decode cX8_command 387 = .ok (.iconst 0, 1) := by decide +kernel
theorem dX8_command_388 : decode cX8_command 388 = .ok (.ireturn, 1) := by decide +kernel
theorem dX8_runScript_0 : decode cX8_runScript 0 = .ok (.lconst 1, 1) := by decide +kernel
theorem dX8_runScript_1 : decode cX8_runScript 1 = .ok (.lstore 4, 2) := by decide +kernel
theorem dX8_runScript_3 : decode cX8_runScript 3 = .ok (.iconst 0, 1) := by decide +kernel
theorem dX8_runScript_4 : decode cX8_runScript 4 = .ok (.istore 6, 2) := by decide +kernel
theorem dX8_runScript_6 : decode cX8_runScript 6 = .ok (.iload 6, 2) := by decide +kernel
theorem dX8_runScript_8 : decode cX8_runScript 8 = .ok (.iload_n 1, 1) := by decide +kernel
theorem dX8_runScript_9 : decode cX8_runScript 9 = .ok (.if_icmp .ge 23, 3) := by decide +kernel
theorem dX8_runScript_12 : decode cX8_runScript 12 = .ok (.iload 6, 2) := by decide +kernel
theorem dX8_runScript_14 : decode cX8_runScript 14 = .ok (.iconst 3, 1) := by decide +kernel
theorem dX8_runScript_15 : decode cX8_runScript 15 = .ok (.if_icmp .ge 17, 3) := by decide +kernel
theorem dX8_runScript_18 : decode cX8_runScript 18 = .ok (.lload 4, 2) := by decide +kernel
theorem dX8_runScript_20 : decode cX8_runScript 20 = .ok (.ldc2_w 212, 3) := by decide +kernel
theorem dX8_runScript_23 : decode cX8_runScript 23 = .ok (.lmul, 1) := by decide +kernel
theorem dX8_runScript_24 : decode cX8_runScript 24 = .ok (.lstore 4, 2) := by decide +kernel
theorem dX8_runScript_26 : decode cX8_runScript 26 = .ok (.iinc 6 1, 3) := by decide +kernel
theorem dX8_runScript_29 : decode cX8_runScript 29 = .ok (.goto (-23), 3) := by decide +kernel
theorem dX8_runScript_32 : decode cX8_runScript 32 = .ok (.aload_n 0, 1) := by decide +kernel
theorem dX8_runScript_33 : decode cX8_runScript 33 = .ok (.iload_n 1, 1) := by decide +kernel
theorem dX8_runScript_34 : decode cX8_runScript 34 = .ok (.i2l, 1) := by decide +kernel
theorem dX8_runScript_35 : decode cX8_runScript 35 = .ok (.lconst 1, 1) := by decide +kernel
theorem dX8_runScript_36 : decode cX8_runScript 36 = .ok (.ldc2_w 214, 3) := by decide +kernel
theorem dX8_runScript_39 : decode cX8_runScript 39 = .ok (.invokestatic 40, 3) := by decide +kernel
theorem dX8_runScript_42 : decode cX8_runScript 42 = .ok (.ifCond .eq 19, 3) := by decide +kernel
theorem dX8_runScript_45 : decode cX8_runScript 45 = .ok (.lload_n 2, 1) := by decide +kernel
theorem dX8_runScript_46 : decode cX8_runScript 46 = .ok (.lconst 0, 1) := by decide +kernel
theorem dX8_runScript_47 : decode cX8_runScript 47 = .ok (.lload 4, 2) := by decide +kernel
theorem dX8_runScript_49 : decode cX8_runScript 49 = .ok (.lconst 1, 1) := by decide +kernel
theorem dX8_runScript_50 : decode cX8_runScript 50 = .ok (.lsub, 1) := by decide +kernel
theorem dX8_runScript_51 : decode cX8_runScript 51 = .ok (.invokestatic 40, 3) := by decide +kernel
theorem dX8_runScript_54 : decode cX8_runScript 54 = .ok (.ifCond .eq 7, 3) := by decide +kernel
theorem dX8_runScript_57 : decode cX8_runScript 57 = .ok (.iconst 0, 1) := by decide +kernel
theorem dX8_runScript_58 : decode cX8_runScript 58 = .ok (.goto 4, 3) := by decide +kernel
theorem dX8_runScript_61 : decode cX8_runScript 61 = .ok (.iconst 1, 1) := by decide +kernel
theorem dX8_runScript_62 : decode cX8_runScript 62 = .ok (.invokevirtual 119, 3) := by decide +kernel
theorem dX8_runScript_65 : decode cX8_runScript 65 = .ok (.ifCond .eq 5, 3) := by decide +kernel
theorem dX8_runScript_68 : decode cX8_runScript 68 = .ok (.iconst 0, 1) := by decide +kernel
theorem dX8_runScript_69 : decode cX8_runScript 69 = .ok (.ireturn, 1) := by decide +kernel
theorem dX8_runScript_70 : decode cX8_runScript 70 = .ok (.aload_n 0, 1) := by decide +kernel
theorem dX8_runScript_71 : decode cX8_runScript 71 = .ok (.getfield 13, 3) := by decide +kernel
theorem dX8_runScript_74 : decode cX8_runScript 74 = .ok (.iconst 0, 1) := by decide +kernel
theorem dX8_runScript_75 : decode cX8_runScript 75 = .ok (.aload_n 0, 1) := by decide +kernel
theorem dX8_runScript_76 : decode cX8_runScript 76 = .ok (.getfield 16, 3) := by decide +kernel
theorem dX8_runScript_79 : decode cX8_runScript 79 = .ok (.iconst 0, 1) := by decide +kernel
theorem dX8_runScript_80 : decode cX8_runScript 80 = .ok (.invokestatic 175, 3) := by decide +kernel
theorem dX8_runScript_83 : decode cX8_runScript 83 = .ok (.iconst 0, 1) := by decide +kernel
theorem dX8_runScript_84 : decode cX8_runScript 84 = .ok (.istore 6, 2) := by decide +kernel
theorem dX8_runScript_86 : decode cX8_runScript 86 = .ok (.iload 6, 2) := by decide +kernel
theorem dX8_runScript_88 : decode cX8_runScript 88 = .ok (.iload_n 1, 1) := by decide +kernel
theorem dX8_runScript_89 : decode cX8_runScript 89 = .ok (.if_icmp .ge 50, 3) := by decide +kernel
theorem dX8_runScript_92 : decode cX8_runScript 92 = .ok (.lload 4, 2) := by decide +kernel
theorem dX8_runScript_94 : decode cX8_runScript 94 = .ok (.ldc2_w 212, 3) := by decide +kernel
theorem dX8_runScript_97 : decode cX8_runScript 97 = .ok (.ldiv, 1) := by decide +kernel
theorem dX8_runScript_98 : decode cX8_runScript 98 = .ok (.lstore 4, 2) := by decide +kernel
theorem dX8_runScript_100 : decode cX8_runScript 100 = .ok (.lload_n 2, 1) := by decide +kernel
theorem dX8_runScript_101 : decode cX8_runScript 101 = .ok (.lload 4, 2) := by decide +kernel
theorem dX8_runScript_103 : decode cX8_runScript 103 = .ok (.ldiv, 1) := by decide +kernel
theorem dX8_runScript_104 : decode cX8_runScript 104 = .ok (.ldc2_w 212, 3) := by decide +kernel
theorem dX8_runScript_107 : decode cX8_runScript 107 = .ok (.lrem, 1) := by decide +kernel
theorem dX8_runScript_108 : decode cX8_runScript 108 = .ok (.l2i, 1) := by decide +kernel
theorem dX8_runScript_109 : decode cX8_runScript 109 = .ok (.istore 7, 2) := by decide +kernel
theorem dX8_runScript_111 : decode cX8_runScript 111 = .ok (.aload_n 0, 1) := by decide +kernel
theorem dX8_runScript_112 : decode cX8_runScript 112 = .ok (.iload 7, 2) := by decide +kernel
theorem dX8_runScript_114 : decode cX8_runScript 114 = .ok (.sipush 10000, 3) := by decide +kernel
theorem dX8_runScript_117 : decode cX8_runScript 117 = .ok (.idiv, 1) := by decide +kernel
theorem dX8_runScript_118 : decode cX8_runScript 118 = .ok (.iload 7, 2) := by decide +kernel
theorem dX8_runScript_120 : decode cX8_runScript 120 = .ok (.sipush 10000, 3) := by decide +kernel
theorem dX8_runScript_123 : decode cX8_runScript 123 = .ok (.irem, 1) := by decide +kernel
theorem dX8_runScript_124 : decode cX8_runScript 124 = .ok (.invokevirtual 216, 3) := by decide +kernel
theorem dX8_runScript_127 : decode cX8_runScript 127 = .ok (.ifCond .ne 6, 3) := by decide +kernel
theorem dX8_runScript_130 : decode cX8_runScript 130 = .ok (.iload 6, 2) := by decide +kernel
theorem dX8_runScript_132 : decode cX8_runScript 132 = .ok (.ireturn, 1) := by decide +kernel
theorem dX8_runScript_133 : decode cX8_runScript 133 = .ok (.iinc 6 1, 3) := by decide +kernel
theorem dX8_runScript_136 : decode cX8_runScript 136 = .ok (.goto (-50), 3) := by decide +kernel
theorem dX8_runScript_139 : decode cX8_runScript 139 = .ok (.iconst (-1), 1) := by decide +kernel
theorem dX8_runScript_140 : decode cX8_runScript 140 = .ok (.ireturn, 1) := by decide +kernel
theorem dX8_turn_0 : decode cX8_turn 0 = .ok (.iload_n 1, 1) := by decide +kernel
theorem dX8_turn_1 : decode cX8_turn 1 = .ok (.bipush 8, 2) := by decide +kernel
theorem dX8_turn_3 : decode cX8_turn 3 = .ok (.idiv, 1) := by decide +kernel
theorem dX8_turn_4 : decode cX8_turn 4 = .ok (.istore_n 2, 1) := by decide +kernel
theorem dX8_turn_5 : decode cX8_turn 5 = .ok (.iload_n 2, 1) := by decide +kernel
theorem dX8_turn_6 : decode cX8_turn 6 = .ok (.bipush 6, 2) := by decide +kernel
theorem dX8_turn_8 : decode cX8_turn 8 = .ok (.irem, 1) := by decide +kernel
theorem dX8_turn_9 : decode cX8_turn 9 = .ok (.istore_n 3, 1) := by decide +kernel
theorem dX8_turn_10 : decode cX8_turn 10 = .ok (.iload_n 1, 1) := by decide +kernel
theorem dX8_turn_11 : decode cX8_turn 11 = .ok (.bipush 8, 2) := by decide +kernel
theorem dX8_turn_13 : decode cX8_turn 13 = .ok (.irem, 1) := by decide +kernel
theorem dX8_turn_14 : decode cX8_turn 14 = .ok (.istore 4, 2) := by decide +kernel
theorem dX8_turn_16 : decode cX8_turn 16 = .ok (.iload 4, 2) := by decide +kernel
theorem dX8_turn_18 : decode cX8_turn 18 = .ok (.iconst 2, 1) := by decide +kernel
theorem dX8_turn_19 : decode cX8_turn 19 = .ok (.if_icmp .ge 40, 3) := by decide +kernel
theorem dX8_turn_22 : decode cX8_turn 22 = .ok (.aload_n 0, 1) := by decide +kernel
theorem dX8_turn_23 : decode cX8_turn 23 = .ok (.getfield 16, 3) := by decide +kernel
theorem dX8_turn_26 : decode cX8_turn 26 = .ok (.iload_n 3, 1) := by decide +kernel
theorem dX8_turn_27 : decode cX8_turn 27 = .ok (.invokestatic 158, 3) := by decide +kernel
theorem dX8_turn_30 : decode cX8_turn 30 = .ok (.ifCond .eq 128, 3) := by decide +kernel
theorem dX8_turn_33 : decode cX8_turn 33 = .ok (.aload_n 0, 1) := by decide +kernel
theorem dX8_turn_34 : decode cX8_turn 34 = .ok (.getfield 16, 3) := by decide +kernel
theorem dX8_turn_37 : decode cX8_turn 37 = .ok (.iload_n 3, 1) := by decide +kernel
theorem dX8_turn_38 : decode cX8_turn 38 = .ok (.iload_n 2, 1) := by decide +kernel
theorem dX8_turn_39 : decode cX8_turn 39 = .ok (.bipush 8, 2) := by decide +kernel
theorem dX8_turn_41 : decode cX8_turn 41 = .ok (.idiv, 1) := by decide +kernel
theorem dX8_turn_42 : decode cX8_turn 42 = .ok (.iconst 3, 1) := by decide +kernel
theorem dX8_turn_43 : decode cX8_turn 43 = .ok (.irem, 1) := by decide +kernel
theorem dX8_turn_44 : decode cX8_turn 44 = .ok (.ifCond .ne 7, 3) := by decide +kernel
theorem dX8_turn_47 : decode cX8_turn 47 = .ok (.iconst 1, 1) := by decide +kernel
theorem dX8_turn_48 : decode cX8_turn 48 = .ok (.goto 4, 3) := by decide +kernel
theorem dX8_turn_51 : decode cX8_turn 51 = .ok (.iconst 0, 1) := by decide +kernel
theorem dX8_turn_52 : decode cX8_turn 52 = .ok (.invokestatic 161, 3) := by decide +kernel
theorem dX8_turn_55 : decode cX8_turn 55 = .ok (.pop, 1) := by decide +kernel
theorem dX8_turn_56 : decode cX8_turn 56 = .ok (.goto 102, 3) := by decide +kernel
theorem dX8_turn_59 : decode cX8_turn 59 = .ok (.iload 4, 2) := by decide +kernel
theorem dX8_turn_61 : decode cX8_turn 61 = .ok (.iconst 2, 1) := by decide +kernel
theorem dX8_turn_62 : decode cX8_turn 62 = .ok (.if_icmp .ne 38, 3) := by decide +kernel
theorem dX8_turn_65 : decode cX8_turn 65 = .ok (.aload_n 0, 1) := by decide +kernel
theorem dX8_turn_66 : decode cX8_turn 66 = .ok (.getfield 16, 3) := by decide +kernel
theorem dX8_turn_69 : decode cX8_turn 69 = .ok (.iload_n 3, 1) := by decide +kernel
theorem dX8_turn_70 : decode cX8_turn 70 = .ok (.invokestatic 158, 3) := by decide +kernel
theorem dX8_turn_73 : decode cX8_turn 73 = .ok (.ifCond .eq 85, 3) := by decide +kernel
theorem dX8_turn_76 : decode cX8_turn 76 = .ok (.aload_n 0, 1) := by decide +kernel
theorem dX8_turn_77 : decode cX8_turn 77 = .ok (.getfield 16, 3) := by decide +kernel
theorem dX8_turn_80 : decode cX8_turn 80 = .ok (.iload_n 3, 1) := by decide +kernel
theorem dX8_turn_81 : decode cX8_turn 81 = .ok (.iload_n 2, 1) := by decide +kernel
theorem dX8_turn_82 : decode cX8_turn 82 = .ok (.bipush 8, 2) := by decide +kernel
theorem dX8_turn_84 : decode cX8_turn 84 = .ok (.idiv, 1) := by decide +kernel
theorem dX8_turn_85 : decode cX8_turn 85 = .ok (.sipush 401, 3) := by decide +kernel
theorem dX8_turn_88 : decode cX8_turn 88 = .ok (.irem, 1) := by decide +kernel
theorem dX8_turn_89 : decode cX8_turn 89 = .ok (.sipush 200, 3) := by decide +kernel
theorem dX8_turn_92 : decode cX8_turn 92 = .ok (.isub, 1) := by decide +kernel
theorem dX8_turn_93 : decode cX8_turn 93 = .ok (.invokestatic 193, 3) := by decide +kernel
theorem dX8_turn_96 : decode cX8_turn 96 = .ok (.pop, 1) := by decide +kernel
theorem dX8_turn_97 : decode cX8_turn 97 = .ok (.goto 61, 3) := by decide +kernel
theorem dX8_turn_100 : decode cX8_turn 100 = .ok (.iload 4, 2) := by decide +kernel
theorem dX8_turn_102 : decode cX8_turn 102 = .ok (.iconst 3, 1) := by decide +kernel
theorem dX8_turn_103 : decode cX8_turn 103 = .ok (.if_icmp .ne 18, 3) := by decide +kernel
theorem dX8_turn_106 : decode cX8_turn 106 = .ok (.aload_n 0, 1) := by decide +kernel
theorem dX8_turn_107 : decode cX8_turn 107 = .ok (.getfield 16, 3) := by decide +kernel
theorem dX8_turn_110 : decode cX8_turn 110 = .ok (.bipush 10, 2) := by decide +kernel
theorem dX8_turn_112 : decode cX8_turn 112 = .ok (.iload_n 2, 1) := by decide +kernel
theorem dX8_turn_113 : decode cX8_turn 113 = .ok (.sipush 1000, 3) := by decide +kernel
theorem dX8_turn_116 : decode cX8_turn 116 = .ok (.irem, 1) := by decide +kernel
theorem dX8_turn_117 : decode cX8_turn 117 = .ok (.iastore, 1) := by decide +kernel
theorem dX8_turn_118 : decode cX8_turn 118 = .ok (.goto 40, 3) := by decide +kernel
theorem dX8_turn_121 : decode cX8_turn 121 = .ok (.iload 4, 2) := by decide +kernel
theorem dX8_turn_123 : decode cX8_turn 123 = .ok (.iconst 4, 1) := by decide +kernel
theorem dX8_turn_124 : decode cX8_turn 124 = .ok (.if_icmp .ne 19, 3) := by decide +kernel
theorem dX8_turn_127 : decode cX8_turn 127 = .ok (.aload_n 0, 1) := by decide +kernel
theorem dX8_turn_128 : decode cX8_turn 128 = .ok (.getfield 16, 3) := by decide +kernel
theorem dX8_turn_131 : decode cX8_turn 131 = .ok (.bipush 14, 2) := by decide +kernel
theorem dX8_turn_133 : decode cX8_turn 133 = .ok (.iconst 1, 1) := by decide +kernel
theorem dX8_turn_134 : decode cX8_turn 134 = .ok (.iload_n 2, 1) := by decide +kernel
theorem dX8_turn_135 : decode cX8_turn 135 = .ok (.bipush 100, 2) := by decide +kernel
theorem dX8_turn_137 : decode cX8_turn 137 = .ok (.irem, 1) := by decide +kernel
theorem dX8_turn_138 : decode cX8_turn 138 = .ok (.iadd, 1) := by decide +kernel
theorem dX8_turn_139 : decode cX8_turn 139 = .ok (.iastore, 1) := by decide +kernel
theorem dX8_turn_140 : decode cX8_turn 140 = .ok (.goto 18, 3) := by decide +kernel
theorem dX8_turn_143 : decode cX8_turn 143 = .ok (.aload_n 0, 1) := by decide +kernel
theorem dX8_turn_144 : decode cX8_turn 144 = .ok (.aload_n 0, 1) := by decide +kernel
theorem dX8_turn_145 : decode cX8_turn 145 = .ok (.getfield 16, 3) := by decide +kernel
theorem dX8_turn_148 : decode cX8_turn 148 = .ok (.iconst 1, 1) := by decide +kernel
theorem dX8_turn_149 : decode cX8_turn 149 = .ok (.iload_n 2, 1) := by decide +kernel
theorem dX8_turn_150 : decode cX8_turn 150 = .ok (.bipush 15, 2) := by decide +kernel
theorem dX8_turn_152 : decode cX8_turn 152 = .ok (.irem, 1) := by decide +kernel
theorem dX8_turn_153 : decode cX8_turn 153 = .ok (.iadd, 1) := by decide +kernel
theorem dX8_turn_154 : decode cX8_turn 154 = .ok (.invokevirtual 165, 3) := by decide +kernel
theorem dX8_turn_157 : decode cX8_turn 157 = .ok (.pop, 1) := by decide +kernel
theorem dX8_turn_158 : decode cX8_turn 158 = .ok (.return_, 1) := by decide +kernel
theorem dX8_simulate_0 : decode cX8_simulate 0 = .ok (.aload_n 0, 1) := by decide +kernel
theorem dX8_simulate_1 : decode cX8_simulate 1 = .ok (.iload_n 3, 1) := by decide +kernel
theorem dX8_simulate_2 : decode cX8_simulate 2 = .ok (.i2l, 1) := by decide +kernel
theorem dX8_simulate_3 : decode cX8_simulate 3 = .ok (.lconst 1, 1) := by decide +kernel
theorem dX8_simulate_4 : decode cX8_simulate 4 = .ok (.ldc2_w 196, 3) := by decide +kernel
theorem dX8_simulate_7 : decode cX8_simulate 7 = .ok (.invokestatic 40, 3) := by decide +kernel
theorem dX8_simulate_10 : decode cX8_simulate 10 = .ok (.ifCond .eq 7, 3) := by decide +kernel
theorem dX8_simulate_13 : decode cX8_simulate 13 = .ok (.iconst 0, 1) := by decide +kernel
theorem dX8_simulate_14 : decode cX8_simulate 14 = .ok (.goto 4, 3) := by decide +kernel
theorem dX8_simulate_17 : decode cX8_simulate 17 = .ok (.iconst 1, 1) := by decide +kernel
theorem dX8_simulate_18 : decode cX8_simulate 18 = .ok (.invokevirtual 119, 3) := by decide +kernel
theorem dX8_simulate_21 : decode cX8_simulate 21 = .ok (.ifCond .eq 5, 3) := by decide +kernel
theorem dX8_simulate_24 : decode cX8_simulate 24 = .ok (.iconst 0, 1) := by decide +kernel
theorem dX8_simulate_25 : decode cX8_simulate 25 = .ok (.ireturn, 1) := by decide +kernel
theorem dX8_simulate_26 : decode cX8_simulate 26 = .ok (.aload_n 0, 1) := by decide +kernel
theorem dX8_simulate_27 : decode cX8_simulate 27 = .ok (.getfield 13, 3) := by decide +kernel
theorem dX8_simulate_30 : decode cX8_simulate 30 = .ok (.iconst 0, 1) := by decide +kernel
theorem dX8_simulate_31 : decode cX8_simulate 31 = .ok (.aload_n 0, 1) := by decide +kernel
theorem dX8_simulate_32 : decode cX8_simulate 32 = .ok (.getfield 16, 3) := by decide +kernel
theorem dX8_simulate_35 : decode cX8_simulate 35 = .ok (.iconst 0, 1) := by decide +kernel
theorem dX8_simulate_36 : decode cX8_simulate 36 = .ok (.invokestatic 175, 3) := by decide +kernel
theorem dX8_simulate_39 : decode cX8_simulate 39 = .ok (.lload_n 1, 1) := by decide +kernel
theorem dX8_simulate_40 : decode cX8_simulate 40 = .ok (.lstore 4, 2) := by decide +kernel
theorem dX8_simulate_42 : decode cX8_simulate 42 = .ok (.iconst 0, 1) := by decide +kernel
theorem dX8_simulate_43 : decode cX8_simulate 43 = .ok (.istore 6, 2) := by decide +kernel
theorem dX8_simulate_45 : decode cX8_simulate 45 = .ok (.iload 6, 2) := by decide +kernel
theorem dX8_simulate_47 : decode cX8_simulate 47 = .ok (.iload_n 3, 1) := by decide +kernel
theorem dX8_simulate_48 : decode cX8_simulate 48 = .ok (.if_icmp .ge 31, 3) := by decide +kernel
theorem dX8_simulate_51 : decode cX8_simulate 51 = .ok (.lload 4, 2) := by decide +kernel
theorem dX8_simulate_53 : decode cX8_simulate 53 = .ok (.ldc2_w 219, 3) := by decide +kernel
theorem dX8_simulate_56 : decode cX8_simulate 56 = .ok (.lmul, 1) := by decide +kernel
theorem dX8_simulate_57 : decode cX8_simulate 57 = .ok (.ldc2_w 221, 3) := by decide +kernel
theorem dX8_simulate_60 : decode cX8_simulate 60 = .ok (.ladd, 1) := by decide +kernel
theorem dX8_simulate_61 : decode cX8_simulate 61 = .ok (.lstore 4, 2) := by decide +kernel
theorem dX8_simulate_63 : decode cX8_simulate 63 = .ok (.aload_n 0, 1) := by decide +kernel
theorem dX8_simulate_64 : decode cX8_simulate 64 = .ok (.lload 4, 2) := by decide +kernel
theorem dX8_simulate_66 : decode cX8_simulate 66 = .ok (.bipush 33, 2) := by decide +kernel
theorem dX8_simulate_68 : decode cX8_simulate 68 = .ok (.lushr, 1) := by decide +kernel
theorem dX8_simulate_69 : decode cX8_simulate 69 = .ok (.l2i, 1) := by decide +kernel
theorem dX8_simulate_70 : decode cX8_simulate 70 = .ok (.invokevirtual 223, 3) := by decide +kernel
theorem dX8_simulate_73 : decode cX8_simulate 73 = .ok (.iinc 6 1, 3) := by decide +kernel
theorem dX8_simulate_76 : decode cX8_simulate 76 = .ok (.goto (-31), 3) := by decide +kernel
theorem dX8_simulate_79 : decode cX8_simulate 79 = .ok (.sipush 1000, 3) := by decide +kernel
theorem dX8_simulate_82 : decode cX8_simulate 82 = .ok (.aload_n 0, 1) := by decide +kernel
theorem dX8_simulate_83 : decode cX8_simulate 83 = .ok (.getfield 16, 3) := by decide +kernel
theorem dX8_simulate_86 : decode cX8_simulate 86 = .ok (.iconst 3, 1) := by decide +kernel
theorem dX8_simulate_87 : decode cX8_simulate 87 = .ok (.iaload, 1) := by decide +kernel
theorem dX8_simulate_88 : decode cX8_simulate 88 = .ok (.aload_n 0, 1) := by decide +kernel
theorem dX8_simulate_89 : decode cX8_simulate 89 = .ok (.getfield 13, 3) := by decide +kernel
theorem dX8_simulate_92 : decode cX8_simulate 92 = .ok (.iconst 3, 1) := by decide +kernel
theorem dX8_simulate_93 : decode cX8_simulate 93 = .ok (.iaload, 1) := by decide +kernel
theorem dX8_simulate_94 : decode cX8_simulate 94 = .ok (.isub, 1) := by decide +kernel
theorem dX8_simulate_95 : decode cX8_simulate 95 = .ok (.imul, 1) := by decide +kernel
theorem dX8_simulate_96 : decode cX8_simulate 96 = .ok (.aload_n 0, 1) := by decide +kernel
theorem dX8_simulate_97 : decode cX8_simulate 97 = .ok (.getfield 16, 3) := by decide +kernel
theorem dX8_simulate_100 : decode cX8_simulate 100 = .ok (.bipush 6, 2) := by decide +kernel
theorem dX8_simulate_102 : decode cX8_simulate 102 = .ok (.iaload, 1) := by decide +kernel
theorem dX8_simulate_103 : decode cX8_simulate 103 = .ok (.iadd, 1) := by decide +kernel
theorem dX8_simulate_104 : decode cX8_simulate 104 = .ok (.aload_n 0, 1) := by decide +kernel
theorem dX8_simulate_105 : decode cX8_simulate 105 = .ok (.getfield 13, 3) := by decide +kernel
theorem dX8_simulate_108 : decode cX8_simulate 108 = .ok (.bipush 6, 2) := by decide +kernel
theorem dX8_simulate_110 : decode cX8_simulate 110 = .ok (.iaload, 1) := by decide +kernel
theorem dX8_simulate_111 : decode cX8_simulate 111 = .ok (.isub, 1) := by decide +kernel
theorem dX8_simulate_112 : decode cX8_simulate 112 = .ok (.ireturn, 1) := by decide +kernel
theorem dX8_save_0 : decode cX8_save 0 = .ok (.aload_n 0, 1) := by decide +kernel
theorem dX8_save_1 : decode cX8_save 1 = .ok (.iload_n 1, 1) := by decide +kernel
theorem dX8_save_2 : decode cX8_save 2 = .ok (.i2l, 1) := by decide +kernel
theorem dX8_save_3 : decode cX8_save 3 = .ok (.lconst 0, 1) := by decide +kernel
theorem dX8_save_4 : decode cX8_save 4 = .ok (.lconst 1, 1) := by decide +kernel
theorem dX8_save_5 : decode cX8_save 5 = .ok (.invokestatic 40, 3) := by decide +kernel
theorem dX8_save_8 : decode cX8_save 8 = .ok (.ifCond .eq 7, 3) := by decide +kernel
theorem dX8_save_11 : decode cX8_save 11 = .ok (.iconst 0, 1) := by decide +kernel
theorem dX8_save_12 : decode cX8_save 12 = .ok (.goto 4, 3) := by decide +kernel
theorem dX8_save_15 : decode cX8_save 15 = .ok (.iconst 1, 1) := by decide +kernel
theorem dX8_save_16 : decode cX8_save 16 = .ok (.invokevirtual 119, 3) := by decide +kernel
theorem dX8_save_19 : decode cX8_save 19 = .ok (.ifCond .eq 5, 3) := by decide +kernel
theorem dX8_save_22 : decode cX8_save 22 = .ok (.iconst 0, 1) := by decide +kernel
theorem dX8_save_23 : decode cX8_save 23 = .ok (.ireturn, 1) := by decide +kernel
theorem dX8_save_24 : decode cX8_save 24 = .ok (.aload_n 0, 1) := by decide +kernel
theorem dX8_save_25 : decode cX8_save 25 = .ok (.getfield 13, 3) := by decide +kernel
theorem dX8_save_28 : decode cX8_save 28 = .ok (.iconst 0, 1) := by decide +kernel
theorem dX8_save_29 : decode cX8_save 29 = .ok (.aload_n 0, 1) := by decide +kernel
theorem dX8_save_30 : decode cX8_save 30 = .ok (.getfield 22, 3) := by decide +kernel
theorem dX8_save_33 : decode cX8_save 33 = .ok (.bipush 64, 2) := by decide +kernel
theorem dX8_save_35 : decode cX8_save 35 = .ok (.iload_n 1, 1) := by decide +kernel
theorem dX8_save_36 : decode cX8_save 36 = .ok (.imul, 1) := by decide +kernel
theorem dX8_save_37 : decode cX8_save 37 = .ok (.invokestatic 175, 3) := by decide +kernel
theorem dX8_save_40 : decode cX8_save 40 = .ok (.aload_n 0, 1) := by decide +kernel
theorem dX8_save_41 : decode cX8_save 41 = .ok (.getfield 25, 3) := by decide +kernel
theorem dX8_save_44 : decode cX8_save 44 = .ok (.iload_n 1, 1) := by decide +kernel
theorem dX8_save_45 : decode cX8_save 45 = .ok (.iconst 1, 1) := by decide +kernel
theorem dX8_save_46 : decode cX8_save 46 = .ok (.bastore, 1) := by decide +kernel
theorem dX8_save_47 : decode cX8_save 47 = .ok (.aload_n 0, 1) := by decide +kernel
theorem dX8_save_48 : decode cX8_save 48 = .ok (.getfield 13, 3) := by decide +kernel
theorem dX8_save_51 : decode cX8_save 51 = .ok (.iconst 1, 1) := by decide +kernel
theorem dX8_save_52 : decode cX8_save 52 = .ok (.iaload, 1) := by decide +kernel
theorem dX8_save_53 : decode cX8_save 53 = .ok (.ireturn, 1) := by decide +kernel
theorem dX8_restore_0 : decode cX8_restore 0 = .ok (.aload_n 0, 1) := by decide +kernel
theorem dX8_restore_1 : decode cX8_restore 1 = .ok (.iload_n 1, 1) := by decide +kernel
theorem dX8_restore_2 : decode cX8_restore 2 = .ok (.i2l, 1) := by decide +kernel
theorem dX8_restore_3 : decode cX8_restore 3 = .ok (.lconst 0, 1) := by decide +kernel
theorem dX8_restore_4 : decode cX8_restore 4 = .ok (.lconst 1, 1) := by decide +kernel
theorem dX8_restore_5 : decode cX8_restore 5 = .ok (.invokestatic 40, 3) := by decide +kernel
theorem dX8_restore_8 : decode cX8_restore 8 = .ok (.ifCond .ne 7, 3) := by decide +kernel
theorem dX8_restore_11 : decode cX8_restore 11 = .ok (.iconst 1, 1) := by decide +kernel
theorem dX8_restore_12 : decode cX8_restore 12 = .ok (.goto 17, 3) := by decide +kernel
theorem dX8_restore_15 : decode cX8_restore 15 = .ok (.aload_n 0, 1) := by decide +kernel
theorem dX8_restore_16 : decode cX8_restore 16 = .ok (.getfield 25, 3) := by decide +kernel
theorem dX8_restore_19 : decode cX8_restore 19 = .ok (.iload_n 1, 1) := by decide +kernel
theorem dX8_restore_20 : decode cX8_restore 20 = .ok (.baload, 1) := by decide +kernel
theorem dX8_restore_21 : decode cX8_restore 21 = .ok (.ifCond .ne 7, 3) := by decide +kernel
theorem dX8_restore_24 : decode cX8_restore 24 = .ok (.iconst 2, 1) := by decide +kernel
theorem dX8_restore_25 : decode cX8_restore 25 = .ok (.goto 4, 3) := by decide +kernel
theorem dX8_restore_28 : decode cX8_restore 28 = .ok (.iconst 0, 1) := by decide +kernel
theorem dX8_restore_29 : decode cX8_restore 29 = .ok (.invokevirtual 119, 3) := by decide +kernel
theorem dX8_restore_32 : decode cX8_restore 32 = .ok (.ifCond .eq 5, 3) := by decide +kernel
theorem dX8_restore_35 : decode cX8_restore 35 = .ok (.iconst 0, 1) := by decide +kernel
theorem dX8_restore_36 : decode cX8_restore 36 = .ok (.ireturn, 1) := by decide +kernel
theorem dX8_restore_37 : decode cX8_restore 37 = .ok (.aload_n 0, 1) := by decide +kernel
theorem dX8_restore_38 : decode cX8_restore 38 = .ok (.getfield 22, 3) := by decide +kernel
theorem dX8_restore_41 : decode cX8_restore 41 = .ok (.bipush 64, 2) := by decide +kernel
theorem dX8_restore_43 : decode cX8_restore 43 = .ok (.iload_n 1, 1) := by decide +kernel
theorem dX8_restore_44 : decode cX8_restore 44 = .ok (.imul, 1) := by decide +kernel
theorem dX8_restore_45 : decode cX8_restore 45 = .ok (.aload_n 0, 1) := by decide +kernel
theorem dX8_restore_46 : decode cX8_restore 46 = .ok (.getfield 13, 3) := by decide +kernel
theorem dX8_restore_49 : decode cX8_restore 49 = .ok (.iconst 0, 1) := by decide +kernel
theorem dX8_restore_50 : decode cX8_restore 50 = .ok (.invokestatic 175, 3) := by decide +kernel
theorem dX8_restore_53 : decode cX8_restore 53 = .ok (.aload_n 0, 1) := by decide +kernel
theorem dX8_restore_54 : decode cX8_restore 54 = .ok (.iconst 0, 1) := by decide +kernel
theorem dX8_restore_55 : decode cX8_restore 55 = .ok (.putfield 179, 3) := by decide +kernel
theorem dX8_restore_58 : decode cX8_restore 58 = .ok (.aload_n 0, 1) := by decide +kernel
theorem dX8_restore_59 : decode cX8_restore 59 = .ok (.getfield 13, 3) := by decide +kernel
theorem dX8_restore_62 : decode cX8_restore 62 = .ok (.iconst 1, 1) := by decide +kernel
theorem dX8_restore_63 : decode cX8_restore 63 = .ok (.iaload, 1) := by decide +kernel
theorem dX8_restore_64 : decode cX8_restore 64 = .ok (.ireturn, 1) := by decide +kernel
theorem dJ9_max_7cf53_0 : decode cJ9_max_7cf53 0 = .ok (.iload_n 0, 1) := by decide +kernel
theorem dJ9_max_7cf53_1 : decode cJ9_max_7cf53 1 = .ok (.iload_n 1, 1) := by decide +kernel
theorem dJ9_max_7cf53_2 : decode cJ9_max_7cf53 2 = .ok (.if_icmp .lt 7, 3) := by decide +kernel
theorem dJ9_max_7cf53_5 : decode cJ9_max_7cf53 5 = .ok (.iload_n 0, 1) := by decide +kernel
theorem dJ9_max_7cf53_6 : decode cJ9_max_7cf53 6 = .ok (.goto 4, 3) := by decide +kernel
theorem dJ9_max_7cf53_9 : decode cJ9_max_7cf53 9 = .ok (.iload_n 1, 1) := by decide +kernel
theorem dJ9_max_7cf53_10 : decode cJ9_max_7cf53 10 = .ok (.ireturn, 1) := by decide +kernel
theorem dJ9_min_7cf53_0 : decode cJ9_min_7cf53 0 = .ok (.iload_n 0, 1) := by decide +kernel
theorem dJ9_min_7cf53_1 : decode cJ9_min_7cf53 1 = .ok (.iload_n 1, 1) := by decide +kernel
theorem dJ9_min_7cf53_2 : decode cJ9_min_7cf53 2 = .ok (.if_icmp .gt 7, 3) := by decide +kernel
theorem dJ9_min_7cf53_5 : decode cJ9_min_7cf53 5 = .ok (.iload_n 0, 1) := by decide +kernel
theorem dJ9_min_7cf53_6 : decode cJ9_min_7cf53 6 = .ok (.goto 4, 3) := by decide +kernel
theorem dJ9_min_7cf53_9 : decode cJ9_min_7cf53 9 = .ok (.iload_n 1, 1) := by decide +kernel
theorem dJ9_min_7cf53_10 : decode cJ9_min_7cf53 10 = .ok (.ireturn, 1) := by decide +kernel
