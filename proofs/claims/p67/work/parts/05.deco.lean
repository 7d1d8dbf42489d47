theorem qJ0_charAt_5068e_0 : decode (mB mJ0_charAt_5068e) 0 = .ok (.aload_n 0, 1) := by decide +kernel
theorem qJ0_charAt_5068e_1 : decode (mB mJ0_charAt_5068e) 1 = .ok (.invokevirtual 492, 3) := by decide +kernel
theorem qJ0_charAt_5068e_4 : decode (mB mJ0_charAt_5068e) 4 = .ok (.ifCond .eq 12, 3) := by decide +kernel
theorem qJ0_charAt_5068e_7 : decode (mB mJ0_charAt_5068e) 7 = .ok (.aload_n 0, 1) := by decide +kernel
theorem qJ0_charAt_5068e_8 : decode (mB mJ0_charAt_5068e) 8 = .ok (.getfield 9, 3) := by decide +kernel
theorem qJ0_charAt_5068e_11 : decode (mB mJ0_charAt_5068e) 11 = .ok (.iload_n 1, 1) := by decide +kernel
theorem qJ0_charAt_5068e_12 : decode (mB mJ0_charAt_5068e) 12 = .ok (.invokestatic 495, 3) := by decide +kernel
theorem qJ0_charAt_5068e_15 : decode (mB mJ0_charAt_5068e) 15 = .ok (.ireturn, 1) := by decide +kernel
theorem qJ0_charAt_5068e_16 : decode (mB mJ0_charAt_5068e) 16 = .ok (.aload_n 0, 1) := by decide +kernel
theorem qJ0_charAt_5068e_17 : decode (mB mJ0_charAt_5068e) 17 = .ok (.getfield 9, 3) := by decide +kernel
theorem qJ0_charAt_5068e_20 : decode (mB mJ0_charAt_5068e) 20 = .ok (.iload_n 1, 1) := by decide +kernel
theorem qJ0_charAt_5068e_21 : decode (mB mJ0_charAt_5068e) 21 = .ok (.invokestatic 498, 3) := by decide +kernel
theorem qJ0_charAt_5068e_24 : decode (mB mJ0_charAt_5068e) 24 = .ok (.ireturn, 1) := by decide +kernel
theorem qJ0_checkBoundsBeginEnd_23922_0 : decode (mB mJ0_checkBoundsBeginEnd_23922) 0 = .ok (.iload_n 0, 1) := by decide +kernel
theorem qJ0_checkBoundsBeginEnd_23922_1 : decode (mB mJ0_checkBoundsBeginEnd_23922) 1 = .ok (.iload_n 1, 1) := by decide +kernel
theorem qJ0_checkBoundsBeginEnd_23922_2 : decode (mB mJ0_checkBoundsBeginEnd_23922) 2 = .ok (.iload_n 2, 1) := by decide +kernel
theorem qJ0_checkBoundsBeginEnd_23922_3 : decode (mB mJ0_checkBoundsBeginEnd_23922) 3 = .ok (.getstatic 1053, 3) := by decide +kernel
theorem qJ0_checkBoundsBeginEnd_23922_6 : decode (mB mJ0_checkBoundsBeginEnd_23922) 6 = .ok (.invokestatic 1062, 3) := by decide +kernel
theorem qJ0_checkBoundsBeginEnd_23922_9 : decode (mB mJ0_checkBoundsBeginEnd_23922) 9 = .ok (.pop, 1) := by decide +kernel
theorem qJ0_checkBoundsBeginEnd_23922_10 : decode (mB mJ0_checkBoundsBeginEnd_23922) 10 = .ok (.return_, 1) := by decide +kernel
theorem qJ0_checkBoundsOffCount_cabcc_0 : decode (mB mJ0_checkBoundsOffCount_cabcc) 0 = .ok (.iload_n 0, 1) := by decide +kernel
theorem qJ0_checkBoundsOffCount_cabcc_1 : decode (mB mJ0_checkBoundsOffCount_cabcc) 1 = .ok (.iload_n 1, 1) := by decide +kernel
theorem qJ0_checkBoundsOffCount_cabcc_2 : decode (mB mJ0_checkBoundsOffCount_cabcc) 2 = .ok (.iload_n 2, 1) := by decide +kernel
theorem qJ0_checkBoundsOffCount_cabcc_3 : decode (mB mJ0_checkBoundsOffCount_cabcc) 3 = .ok (.getstatic 1053, 3) := by decide +kernel
theorem qJ0_checkBoundsOffCount_cabcc_6 : decode (mB mJ0_checkBoundsOffCount_cabcc) 6 = .ok (.invokestatic 1065, 3) := by decide +kernel
theorem qJ0_checkBoundsOffCount_cabcc_9 : decode (mB mJ0_checkBoundsOffCount_cabcc) 9 = .ok (.ireturn, 1) := by decide +kernel
theorem qJ0_checkIndex_df160_0 : decode (mB mJ0_checkIndex_df160) 0 = .ok (.iload_n 0, 1) := by decide +kernel
theorem qJ0_checkIndex_df160_1 : decode (mB mJ0_checkIndex_df160) 1 = .ok (.iload_n 1, 1) := by decide +kernel
theorem qJ0_checkIndex_df160_2 : decode (mB mJ0_checkIndex_df160) 2 = .ok (.getstatic 1053, 3) := by decide +kernel
theorem qJ0_checkIndex_df160_5 : decode (mB mJ0_checkIndex_df160) 5 = .ok (.invokestatic 1059, 3) := by decide +kernel
theorem qJ0_checkIndex_df160_8 : decode (mB mJ0_checkIndex_df160) 8 = .ok (.pop, 1) := by decide +kernel
theorem qJ0_checkIndex_df160_9 : decode (mB mJ0_checkIndex_df160) 9 = .ok (.return_, 1) := by decide +kernel
theorem qJ0_coder_7d493_0 : decode (mB mJ0_coder_7d493) 0 = .ok (.getstatic 38, 3) := by decide +kernel
theorem qJ0_coder_7d493_3 : decode (mB mJ0_coder_7d493) 3 = .ok (.ifCond .eq 10, 3) := by decide +kernel
theorem qJ0_coder_7d493_6 : decode (mB mJ0_coder_7d493) 6 = .ok (.aload_n 0, 1) := by decide +kernel
theorem qJ0_coder_7d493_7 : decode (mB mJ0_coder_7d493) 7 = .ok (.getfield 15, 3) := by decide +kernel
theorem qJ0_coder_7d493_10 : decode (mB mJ0_coder_7d493) 10 = .ok (.goto 4, 3) := by decide +kernel
theorem qJ0_coder_7d493_13 : decode (mB mJ0_coder_7d493) 13 = .ok (.iconst 1, 1) := by decide +kernel
theorem qJ0_coder_7d493_14 : decode (mB mJ0_coder_7d493) 14 = .ok (.ireturn, 1) := by decide +kernel
theorem qJ0_getBytes_840e7_0 : decode (mB mJ0_getBytes_840e7) 0 = .ok (.aload_n 0, 1) := by decide +kernel
theorem qJ0_getBytes_840e7_1 : decode (mB mJ0_getBytes_840e7) 1 = .ok (.invokevirtual 335, 3) := by decide +kernel
theorem qJ0_getBytes_840e7_4 : decode (mB mJ0_getBytes_840e7) 4 = .ok (.iload_n 3, 1) := by decide +kernel
theorem qJ0_getBytes_840e7_5 : decode (mB mJ0_getBytes_840e7) 5 = .ok (.if_icmp .ne 23, 3) := by decide +kernel
theorem qJ0_getBytes_840e7_8 : decode (mB mJ0_getBytes_840e7) 8 = .ok (.aload_n 0, 1) := by decide +kernel
theorem qJ0_getBytes_840e7_9 : decode (mB mJ0_getBytes_840e7) 9 = .ok (.getfield 9, 3) := by decide +kernel
theorem qJ0_getBytes_840e7_12 : decode (mB mJ0_getBytes_840e7) 12 = .ok (.iconst 0, 1) := by decide +kernel
theorem qJ0_getBytes_840e7_13 : decode (mB mJ0_getBytes_840e7) 13 = .ok (.aload_n 1, 1) := by decide +kernel
theorem qJ0_getBytes_840e7_14 : decode (mB mJ0_getBytes_840e7) 14 = .ok (.iload_n 2, 1) := by decide +kernel
theorem qJ0_getBytes_840e7_15 : decode (mB mJ0_getBytes_840e7) 15 = .ok (.iload_n 3, 1) := by decide +kernel
theorem qJ0_getBytes_840e7_16 : decode (mB mJ0_getBytes_840e7) 16 = .ok (.ishl, 1) := by decide +kernel
theorem qJ0_getBytes_840e7_17 : decode (mB mJ0_getBytes_840e7) 17 = .ok (.aload_n 0, 1) := by decide +kernel
theorem qJ0_getBytes_840e7_18 : decode (mB mJ0_getBytes_840e7) 18 = .ok (.getfield 9, 3) := by decide +kernel
theorem qJ0_getBytes_840e7_21 : decode (mB mJ0_getBytes_840e7) 21 = .ok (.arraylength, 1) := by decide +kernel
theorem qJ0_getBytes_840e7_22 : decode (mB mJ0_getBytes_840e7) 22 = .ok (.invokestatic 212, 3) := by decide +kernel
theorem qJ0_getBytes_840e7_25 : decode (mB mJ0_getBytes_840e7) 25 = .ok (.goto 18, 3) := by decide +kernel
theorem qJ0_getBytes_840e7_28 : decode (mB mJ0_getBytes_840e7) 28 = .ok (.aload_n 0, 1) := by decide +kernel
theorem qJ0_getBytes_840e7_29 : decode (mB mJ0_getBytes_840e7) 29 = .ok (.getfield 9, 3) := by decide +kernel
theorem qJ0_getBytes_840e7_32 : decode (mB mJ0_getBytes_840e7) 32 = .ok (.iconst 0, 1) := by decide +kernel
theorem qJ0_getBytes_840e7_33 : decode (mB mJ0_getBytes_840e7) 33 = .ok (.aload_n 1, 1) := by decide +kernel
theorem qJ0_getBytes_840e7_34 : decode (mB mJ0_getBytes_840e7) 34 = .ok (.iload_n 2, 1) := by decide +kernel
theorem qJ0_getBytes_840e7_35 : decode (mB mJ0_getBytes_840e7) 35 = .ok (.aload_n 0, 1) := by decide +kernel
theorem qJ0_getBytes_840e7_36 : decode (mB mJ0_getBytes_840e7) 36 = .ok (.getfield 9, 3) := by decide +kernel
theorem qJ0_getBytes_840e7_39 : decode (mB mJ0_getBytes_840e7) 39 = .ok (.arraylength, 1) := by decide +kernel
theorem qJ0_getBytes_840e7_40 : decode (mB mJ0_getBytes_840e7) 40 = .ok (.invokestatic 106, 3) := by decide +kernel
theorem qJ0_getBytes_840e7_43 : decode (mB mJ0_getBytes_840e7) 43 = .ok (.return_, 1) := by decide +kernel
theorem qJ0_init_81219_0 : decode (mB mJ0_init_81219) 0 = .ok (.aload_n 0, 1) := by decide +kernel
theorem qJ0_init_81219_1 : decode (mB mJ0_init_81219) 1 = .ok (.aload_n 1, 1) := by decide +kernel
theorem qJ0_init_81219_2 : decode (mB mJ0_init_81219) 2 = .ok (.aconst_null, 1) := by decide +kernel
theorem qJ0_init_81219_3 : decode (mB mJ0_init_81219) 3 = .ok (.invokespecial 489, 3) := by decide +kernel
theorem qJ0_init_81219_6 : decode (mB mJ0_init_81219) 6 = .ok (.return_, 1) := by decide +kernel
theorem qJ0_init_db425_0 : decode (mB mJ0_init_db425) 0 = .ok (.aload_n 0, 1) := by decide +kernel
theorem qJ0_init_db425_1 : decode (mB mJ0_init_db425) 1 = .ok (.invokespecial 1, 3) := by decide +kernel
theorem qJ0_init_db425_4 : decode (mB mJ0_init_db425) 4 = .ok (.aload_n 1, 1) := by decide +kernel
theorem qJ0_init_db425_5 : decode (mB mJ0_init_db425) 5 = .ok (.invokevirtual 552, 3) := by decide +kernel
theorem qJ0_init_db425_8 : decode (mB mJ0_init_db425) 8 = .ok (.astore_n 3, 1) := by decide +kernel
theorem qJ0_init_db425_9 : decode (mB mJ0_init_db425) 9 = .ok (.aload_n 1, 1) := by decide +kernel
theorem qJ0_init_db425_10 : decode (mB mJ0_init_db425) 10 = .ok (.invokevirtual 549, 3) := by decide +kernel
theorem qJ0_init_db425_13 : decode (mB mJ0_init_db425) 13 = .ok (.istore 4, 2) := by decide +kernel
theorem qJ0_init_db425_15 : decode (mB mJ0_init_db425) 15 = .ok (.aload_n 1, 1) := by decide +kernel
theorem qJ0_init_db425_16 : decode (mB mJ0_init_db425) 16 = .ok (.invokevirtual 1047, 3) := by decide +kernel
theorem qJ0_init_db425_19 : decode (mB mJ0_init_db425) 19 = .ok (.ifCond .eq 22, 3) := by decide +kernel
theorem qJ0_init_db425_22 : decode (mB mJ0_init_db425) 22 = .ok (.aload_n 0, 1) := by decide +kernel
theorem qJ0_init_db425_23 : decode (mB mJ0_init_db425) 23 = .ok (.iconst 0, 1) := by decide +kernel
theorem qJ0_init_db425_24 : decode (mB mJ0_init_db425) 24 = .ok (.putfield 15, 3) := by decide +kernel
theorem qJ0_init_db425_27 : decode (mB mJ0_init_db425) 27 = .ok (.aload_n 0, 1) := by decide +kernel
theorem qJ0_init_db425_28 : decode (mB mJ0_init_db425) 28 = .ok (.aload_n 3, 1) := by decide +kernel
theorem qJ0_init_db425_29 : decode (mB mJ0_init_db425) 29 = .ok (.iconst 0, 1) := by decide +kernel
theorem qJ0_init_db425_30 : decode (mB mJ0_init_db425) 30 = .ok (.iload 4, 2) := by decide +kernel
theorem qJ0_init_db425_32 : decode (mB mJ0_init_db425) 32 = .ok (.invokestatic 54, 3) := by decide +kernel
theorem qJ0_init_db425_35 : decode (mB mJ0_init_db425) 35 = .ok (.putfield 9, 3) := by decide +kernel
theorem qJ0_init_db425_38 : decode (mB mJ0_init_db425) 38 = .ok (.goto 59, 3) := by decide +kernel
theorem qJ0_init_db425_41 : decode (mB mJ0_init_db425) 41 = .ok (.getstatic 38, 3) := by decide +kernel
theorem qJ0_init_db425_44 : decode (mB mJ0_init_db425) 44 = .ok (.ifCond .eq 35, 3) := by decide +kernel
theorem qJ0_init_db425_47 : decode (mB mJ0_init_db425) 47 = .ok (.aload_n 1, 1) := by decide +kernel
theorem qJ0_init_db425_48 : decode (mB mJ0_init_db425) 48 = .ok (.getfield 1048, 3) := by decide +kernel
theorem qJ0_init_db425_51 : decode (mB mJ0_init_db425) 51 = .ok (.ifCond .eq 28, 3) := by decide +kernel
theorem qJ0_init_db425_54 : decode (mB mJ0_init_db425) 54 = .ok (.aload_n 0, 1) := by decide +kernel
theorem qJ0_init_db425_55 : decode (mB mJ0_init_db425) 55 = .ok (.aload_n 3, 1) := by decide +kernel
theorem qJ0_init_db425_56 : decode (mB mJ0_init_db425) 56 = .ok (.iconst 0, 1) := by decide +kernel
theorem qJ0_init_db425_57 : decode (mB mJ0_init_db425) 57 = .ok (.iload 4, 2) := by decide +kernel
theorem qJ0_init_db425_59 : decode (mB mJ0_init_db425) 59 = .ok (.invokestatic 1051, 3) := by decide +kernel
theorem qJ0_init_db425_62 : decode (mB mJ0_init_db425) 62 = .ok (.putfield 9, 3) := by decide +kernel
theorem qJ0_init_db425_65 : decode (mB mJ0_init_db425) 65 = .ok (.aload_n 0, 1) := by decide +kernel
theorem qJ0_init_db425_66 : decode (mB mJ0_init_db425) 66 = .ok (.aload_n 0, 1) := by decide +kernel
theorem qJ0_init_db425_67 : decode (mB mJ0_init_db425) 67 = .ok (.getfield 9, 3) := by decide +kernel
theorem qJ0_init_db425_70 : decode (mB mJ0_init_db425) 70 = .ok (.iload 4, 2) := by decide +kernel
theorem qJ0_init_db425_72 : decode (mB mJ0_init_db425) 72 = .ok (.invokestatic 47, 3) := by decide +kernel
theorem qJ0_init_db425_75 : decode (mB mJ0_init_db425) 75 = .ok (.putfield 15, 3) := by decide +kernel
theorem qJ0_init_db425_78 : decode (mB mJ0_init_db425) 78 = .ok (.return_, 1) := by decide +kernel
theorem qJ0_init_db425_79 : decode (mB mJ0_init_db425) 79 = .ok (.aload_n 0, 1) := by decide +kernel
theorem qJ0_init_db425_80 : decode (mB mJ0_init_db425) 80 = .ok (.iconst 1, 1) := by decide +kernel
theorem qJ0_init_db425_81 : decode (mB mJ0_init_db425) 81 = .ok (.putfield 15, 3) := by decide +kernel
theorem qJ0_init_db425_84 : decode (mB mJ0_init_db425) 84 = .ok (.aload_n 0, 1) := by decide +kernel
theorem qJ0_init_db425_85 : decode (mB mJ0_init_db425) 85 = .ok (.aload_n 3, 1) := by decide +kernel
theorem qJ0_init_db425_86 : decode (mB mJ0_init_db425) 86 = .ok (.iconst 0, 1) := by decide +kernel
theorem qJ0_init_db425_87 : decode (mB mJ0_init_db425) 87 = .ok (.iload 4, 2) := by decide +kernel
theorem qJ0_init_db425_89 : decode (mB mJ0_init_db425) 89 = .ok (.iconst 1, 1) := by decide +kernel
theorem qJ0_init_db425_90 : decode (mB mJ0_init_db425) 90 = .ok (.ishl, 1) := by decide +kernel
theorem qJ0_init_db425_91 : decode (mB mJ0_init_db425) 91 = .ok (.invokestatic 54, 3) := by decide +kernel
theorem qJ0_init_db425_94 : decode (mB mJ0_init_db425) 94 = .ok (.putfield 9, 3) := by decide +kernel
theorem qJ0_init_db425_97 : decode (mB mJ0_init_db425) 97 = .ok (.return_, 1) := by decide +kernel
theorem qJ0_isLatin1_aae02_0 : decode (mB mJ0_isLatin1_aae02) 0 = .ok (.getstatic 38, 3) := by decide +kernel
theorem qJ0_isLatin1_aae02_3 : decode (mB mJ0_isLatin1_aae02) 3 = .ok (.ifCond .eq 14, 3) := by decide +kernel
theorem qJ0_isLatin1_aae02_6 : decode (mB mJ0_isLatin1_aae02) 6 = .ok (.aload_n 0, 1) := by decide +kernel
theorem qJ0_isLatin1_aae02_7 : decode (mB mJ0_isLatin1_aae02) 7 = .ok (.getfield 15, 3) := by decide +kernel
theorem qJ0_isLatin1_aae02_10 : decode (mB mJ0_isLatin1_aae02) 10 = .ok (.ifCond .ne 7, 3) := by decide +kernel
theorem qJ0_isLatin1_aae02_13 : decode (mB mJ0_isLatin1_aae02) 13 = .ok (.iconst 1, 1) := by decide +kernel
theorem qJ0_isLatin1_aae02_14 : decode (mB mJ0_isLatin1_aae02) 14 = .ok (.goto 4, 3) := by decide +kernel
theorem qJ0_isLatin1_aae02_17 : decode (mB mJ0_isLatin1_aae02) 17 = .ok (.iconst 0, 1) := by decide +kernel
theorem qJ0_isLatin1_aae02_18 : decode (mB mJ0_isLatin1_aae02) 18 = .ok (.ireturn, 1) := by decide +kernel
theorem qJ0_length_8abf5_0 : decode (mB mJ0_length_8abf5) 0 = .ok (.aload_n 0, 1) := by decide +kernel
theorem qJ0_length_8abf5_1 : decode (mB mJ0_length_8abf5) 1 = .ok (.getfield 9, 3) := by decide +kernel
theorem qJ0_length_8abf5_4 : decode (mB mJ0_length_8abf5) 4 = .ok (.arraylength, 1) := by decide +kernel
theorem qJ0_length_8abf5_5 : decode (mB mJ0_length_8abf5) 5 = .ok (.aload_n 0, 1) := by decide +kernel
theorem qJ0_length_8abf5_6 : decode (mB mJ0_length_8abf5) 6 = .ok (.invokevirtual 335, 3) := by decide +kernel
theorem qJ0_length_8abf5_9 : decode (mB mJ0_length_8abf5) 9 = .ok (.ishr, 1) := by decide +kernel
theorem qJ0_length_8abf5_10 : decode (mB mJ0_length_8abf5) 10 = .ok (.ireturn, 1) := by decide +kernel
theorem qJ1_charAt_3b067_0 : decode (mB mJ1_charAt_3b067) 0 = .ok (.iload_n 1, 1) := by decide +kernel
theorem qJ1_charAt_3b067_1 : decode (mB mJ1_charAt_3b067) 1 = .ok (.aload_n 0, 1) := by decide +kernel
theorem qJ1_charAt_3b067_2 : decode (mB mJ1_charAt_3b067) 2 = .ok (.arraylength, 1) := by decide +kernel
theorem qJ1_charAt_3b067_3 : decode (mB mJ1_charAt_3b067) 3 = .ok (.invokestatic 9, 3) := by decide +kernel
theorem qJ1_charAt_3b067_6 : decode (mB mJ1_charAt_3b067) 6 = .ok (.aload_n 0, 1) := by decide +kernel
theorem qJ1_charAt_3b067_7 : decode (mB mJ1_charAt_3b067) 7 = .ok (.iload_n 1, 1) := by decide +kernel
theorem qJ1_charAt_3b067_8 : decode (mB mJ1_charAt_3b067) 8 = .ok (.baload, 1) := by decide +kernel
theorem qJ1_charAt_3b067_9 : decode (mB mJ1_charAt_3b067) 9 = .ok (.sipush 255, 3) := by decide +kernel
theorem qJ1_charAt_3b067_12 : decode (mB mJ1_charAt_3b067) 12 = .ok (.iand, 1) := by decide +kernel
theorem qJ1_charAt_3b067_13 : decode (mB mJ1_charAt_3b067) 13 = .ok (.i2c, 1) := by decide +kernel
theorem qJ1_charAt_3b067_14 : decode (mB mJ1_charAt_3b067) 14 = .ok (.ireturn, 1) := by decide +kernel
theorem qJ1_inflate_0e8fd_0 : decode (mB mJ1_inflate_0e8fd) 0 = .ok (.aload_n 0, 1) := by decide +kernel
theorem qJ1_inflate_0e8fd_1 : decode (mB mJ1_inflate_0e8fd) 1 = .ok (.iload_n 1, 1) := by decide +kernel
theorem qJ1_inflate_0e8fd_2 : decode (mB mJ1_inflate_0e8fd) 2 = .ok (.aload_n 2, 1) := by decide +kernel
theorem qJ1_inflate_0e8fd_3 : decode (mB mJ1_inflate_0e8fd) 3 = .ok (.iload_n 3, 1) := by decide +kernel
theorem qJ1_inflate_0e8fd_4 : decode (mB mJ1_inflate_0e8fd) 4 = .ok (.iload 4, 2) := by decide +kernel
theorem qJ1_inflate_0e8fd_6 : decode (mB mJ1_inflate_0e8fd) 6 = .ok (.invokestatic 240, 3) := by decide +kernel
theorem qJ1_inflate_0e8fd_9 : decode (mB mJ1_inflate_0e8fd) 9 = .ok (.return_, 1) := by decide +kernel
theorem qJ2_charAt_3b067_0 : decode (mB mJ2_charAt_3b067) 0 = .ok (.iload_n 1, 1) := by decide +kernel
theorem qJ2_charAt_3b067_1 : decode (mB mJ2_charAt_3b067) 1 = .ok (.aload_n 0, 1) := by decide +kernel
theorem qJ2_charAt_3b067_2 : decode (mB mJ2_charAt_3b067) 2 = .ok (.invokestatic 67, 3) := by decide +kernel
theorem qJ2_charAt_3b067_5 : decode (mB mJ2_charAt_3b067) 5 = .ok (.aload_n 0, 1) := by decide +kernel
theorem qJ2_charAt_3b067_6 : decode (mB mJ2_charAt_3b067) 6 = .ok (.iload_n 1, 1) := by decide +kernel
theorem qJ2_charAt_3b067_7 : decode (mB mJ2_charAt_3b067) 7 = .ok (.invokestatic 71, 3) := by decide +kernel
theorem qJ2_charAt_3b067_10 : decode (mB mJ2_charAt_3b067) 10 = .ok (.ireturn, 1) := by decide +kernel
theorem qJ2_checkBoundsBeginEnd_d044e_0 : decode (mB mJ2_checkBoundsBeginEnd_d044e) 0 = .ok (.iload_n 0, 1) := by decide +kernel
theorem qJ2_checkBoundsBeginEnd_d044e_1 : decode (mB mJ2_checkBoundsBeginEnd_d044e) 1 = .ok (.iload_n 1, 1) := by decide +kernel
theorem qJ2_checkBoundsBeginEnd_d044e_2 : decode (mB mJ2_checkBoundsBeginEnd_d044e) 2 = .ok (.aload_n 2, 1) := by decide +kernel
theorem qJ2_checkBoundsBeginEnd_d044e_3 : decode (mB mJ2_checkBoundsBeginEnd_d044e) 3 = .ok (.invokestatic 48, 3) := by decide +kernel
theorem qJ2_checkBoundsBeginEnd_d044e_6 : decode (mB mJ2_checkBoundsBeginEnd_d044e) 6 = .ok (.invokestatic 241, 3) := by decide +kernel
theorem qJ2_checkBoundsBeginEnd_d044e_9 : decode (mB mJ2_checkBoundsBeginEnd_d044e) 9 = .ok (.return_, 1) := by decide +kernel
theorem qJ2_checkBoundsOffCount_d044e_0 : decode (mB mJ2_checkBoundsOffCount_d044e) 0 = .ok (.iload_n 0, 1) := by decide +kernel
theorem qJ2_checkBoundsOffCount_d044e_1 : decode (mB mJ2_checkBoundsOffCount_d044e) 1 = .ok (.iload_n 1, 1) := by decide +kernel
theorem qJ2_checkBoundsOffCount_d044e_2 : decode (mB mJ2_checkBoundsOffCount_d044e) 2 = .ok (.aload_n 2, 1) := by decide +kernel
theorem qJ2_checkBoundsOffCount_d044e_3 : decode (mB mJ2_checkBoundsOffCount_d044e) 3 = .ok (.invokestatic 48, 3) := by decide +kernel
theorem qJ2_checkBoundsOffCount_d044e_6 : decode (mB mJ2_checkBoundsOffCount_d044e) 6 = .ok (.invokestatic 419, 3) := by decide +kernel
theorem qJ2_checkBoundsOffCount_d044e_9 : decode (mB mJ2_checkBoundsOffCount_d044e) 9 = .ok (.pop, 1) := by decide +kernel
theorem qJ2_checkBoundsOffCount_d044e_10 : decode (mB mJ2_checkBoundsOffCount_d044e) 10 = .ok (.return_, 1) := by decide +kernel
theorem qJ2_checkIndex_2214a_0 : decode (mB mJ2_checkIndex_2214a) 0 = .ok (.iload_n 0, 1) := by decide +kernel
theorem qJ2_checkIndex_2214a_1 : decode (mB mJ2_checkIndex_2214a) 1 = .ok (.aload_n 1, 1) := by decide +kernel
theorem qJ2_checkIndex_2214a_2 : decode (mB mJ2_checkIndex_2214a) 2 = .ok (.invokestatic 48, 3) := by decide +kernel
theorem qJ2_checkIndex_2214a_5 : decode (mB mJ2_checkIndex_2214a) 5 = .ok (.invokestatic 414, 3) := by decide +kernel
theorem qJ2_checkIndex_2214a_8 : decode (mB mJ2_checkIndex_2214a) 8 = .ok (.return_, 1) := by decide +kernel
theorem qJ2_coderFromArrayLen_85cad_0 : decode (mB mJ2_coderFromArrayLen_85cad) 0 = .ok (.iload_n 1, 1) := by decide +kernel
theorem qJ2_coderFromArrayLen_85cad_1 : decode (mB mJ2_coderFromArrayLen_85cad) 1 = .ok (.aload_n 0, 1) := by decide +kernel
theorem qJ2_coderFromArrayLen_85cad_2 : decode (mB mJ2_coderFromArrayLen_85cad) 2 = .ok (.arraylength, 1) := by decide +kernel
theorem qJ2_coderFromArrayLen_85cad_3 : decode (mB mJ2_coderFromArrayLen_85cad) 3 = .ok (.isub, 1) := by decide +kernel
theorem qJ2_coderFromArrayLen_85cad_4 : decode (mB mJ2_coderFromArrayLen_85cad) 4 = .ok (.bipush 31, 2) := by decide +kernel
theorem qJ2_coderFromArrayLen_85cad_6 : decode (mB mJ2_coderFromArrayLen_85cad) 6 = .ok (.iushr, 1) := by decide +kernel
theorem qJ2_coderFromArrayLen_85cad_7 : decode (mB mJ2_coderFromArrayLen_85cad) 7 = .ok (.i2b, 1) := by decide +kernel
theorem qJ2_coderFromArrayLen_85cad_8 : decode (mB mJ2_coderFromArrayLen_85cad) 8 = .ok (.ireturn, 1) := by decide +kernel
theorem qJ2_compress_39247_0 : decode (mB mJ2_compress_39247) 0 = .ok (.iload_n 2, 1) := by decide +kernel
theorem qJ2_compress_39247_1 : decode (mB mJ2_compress_39247) 1 = .ok (.newarray .byte, 2) := by decide +kernel
theorem qJ2_compress_39247_3 : decode (mB mJ2_compress_39247) 3 = .ok (.astore_n 3, 1) := by decide +kernel
theorem qJ2_compress_39247_4 : decode (mB mJ2_compress_39247) 4 = .ok (.aload_n 0, 1) := by decide +kernel
theorem qJ2_compress_39247_5 : decode (mB mJ2_compress_39247) 5 = .ok (.iload_n 1, 1) := by decide +kernel
theorem qJ2_compress_39247_6 : decode (mB mJ2_compress_39247) 6 = .ok (.aload_n 3, 1) := by decide +kernel
theorem qJ2_compress_39247_7 : decode (mB mJ2_compress_39247) 7 = .ok (.iconst 0, 1) := by decide +kernel
theorem qJ2_compress_39247_8 : decode (mB mJ2_compress_39247) 8 = .ok (.iload_n 2, 1) := by decide +kernel
theorem qJ2_compress_39247_9 : decode (mB mJ2_compress_39247) 9 = .ok (.invokestatic 123, 3) := by decide +kernel
theorem qJ2_compress_39247_12 : decode (mB mJ2_compress_39247) 12 = .ok (.istore 4, 2) := by decide +kernel
theorem qJ2_compress_39247_14 : decode (mB mJ2_compress_39247) 14 = .ok (.iload 4, 2) := by decide +kernel
theorem qJ2_compress_39247_16 : decode (mB mJ2_compress_39247) 16 = .ok (.iload_n 2, 1) := by decide +kernel
theorem qJ2_compress_39247_17 : decode (mB mJ2_compress_39247) 17 = .ok (.if_icmp .eq 47, 3) := by decide +kernel
theorem qJ2_compress_39247_20 : decode (mB mJ2_compress_39247) 20 = .ok (.aload_n 0, 1) := by decide +kernel
theorem qJ2_compress_39247_21 : decode (mB mJ2_compress_39247) 21 = .ok (.iload_n 1, 1) := by decide +kernel
theorem qJ2_compress_39247_22 : decode (mB mJ2_compress_39247) 22 = .ok (.iconst 1, 1) := by decide +kernel
theorem qJ2_compress_39247_23 : decode (mB mJ2_compress_39247) 23 = .ok (.ishl, 1) := by decide +kernel
theorem qJ2_compress_39247_24 : decode (mB mJ2_compress_39247) 24 = .ok (.iload_n 1, 1) := by decide +kernel
theorem qJ2_compress_39247_25 : decode (mB mJ2_compress_39247) 25 = .ok (.iload_n 2, 1) := by decide +kernel
theorem qJ2_compress_39247_26 : decode (mB mJ2_compress_39247) 26 = .ok (.iadd, 1) := by decide +kernel
theorem qJ2_compress_39247_27 : decode (mB mJ2_compress_39247) 27 = .ok (.invokestatic 11, 3) := by decide +kernel
theorem qJ2_compress_39247_30 : decode (mB mJ2_compress_39247) 30 = .ok (.invokestatic 126, 3) := by decide +kernel
theorem qJ2_compress_39247_33 : decode (mB mJ2_compress_39247) 33 = .ok (.astore 5, 2) := by decide +kernel
theorem qJ2_compress_39247_35 : decode (mB mJ2_compress_39247) 35 = .ok (.aload 5, 2) := by decide +kernel
theorem qJ2_compress_39247_37 : decode (mB mJ2_compress_39247) 37 = .ok (.iload 4, 2) := by decide +kernel
theorem qJ2_compress_39247_39 : decode (mB mJ2_compress_39247) 39 = .ok (.invokestatic 71, 3) := by decide +kernel
theorem qJ2_compress_39247_42 : decode (mB mJ2_compress_39247) 42 = .ok (.sipush 255, 3) := by decide +kernel
theorem qJ2_compress_39247_45 : decode (mB mJ2_compress_39247) 45 = .ok (.if_icmp .gt 16, 3) := by decide +kernel
theorem qJ2_compress_39247_48 : decode (mB mJ2_compress_39247) 48 = .ok (.aload 5, 2) := by decide +kernel
theorem qJ2_compress_39247_50 : decode (mB mJ2_compress_39247) 50 = .ok (.iconst 0, 1) := by decide +kernel
theorem qJ2_compress_39247_51 : decode (mB mJ2_compress_39247) 51 = .ok (.aload_n 3, 1) := by decide +kernel
theorem qJ2_compress_39247_52 : decode (mB mJ2_compress_39247) 52 = .ok (.iconst 0, 1) := by decide +kernel
theorem qJ2_compress_39247_53 : decode (mB mJ2_compress_39247) 53 = .ok (.iload_n 2, 1) := by decide +kernel
theorem qJ2_compress_39247_54 : decode (mB mJ2_compress_39247) 54 = .ok (.invokestatic 123, 3) := by decide +kernel
theorem qJ2_compress_39247_57 : decode (mB mJ2_compress_39247) 57 = .ok (.iload_n 2, 1) := by decide +kernel
theorem qJ2_compress_39247_58 : decode (mB mJ2_compress_39247) 58 = .ok (.if_icmp .eq 6, 3) := by decide +kernel
theorem qJ2_compress_39247_61 : decode (mB mJ2_compress_39247) 61 = .ok (.aload 5, 2) := by decide +kernel
theorem qJ2_compress_39247_63 : decode (mB mJ2_compress_39247) 63 = .ok (.areturn, 1) := by decide +kernel
theorem qJ2_compress_39247_64 : decode (mB mJ2_compress_39247) 64 = .ok (.aload_n 3, 1) := by decide +kernel
theorem qJ2_compress_39247_65 : decode (mB mJ2_compress_39247) 65 = .ok (.areturn, 1) := by decide +kernel
theorem qJ2_compress_5af95_0 : decode (mB mJ2_compress_5af95) 0 = .ok (.iload_n 1, 1) := by decide +kernel
theorem qJ2_compress_5af95_1 : decode (mB mJ2_compress_5af95) 1 = .ok (.iload 4, 2) := by decide +kernel
theorem qJ2_compress_5af95_3 : decode (mB mJ2_compress_5af95) 3 = .ok (.aload_n 0, 1) := by decide +kernel
theorem qJ2_compress_5af95_4 : decode (mB mJ2_compress_5af95) 4 = .ok (.invokestatic 173, 3) := by decide +kernel
theorem qJ2_compress_5af95_7 : decode (mB mJ2_compress_5af95) 7 = .ok (.iconst 0, 1) := by decide +kernel
theorem qJ2_compress_5af95_8 : decode (mB mJ2_compress_5af95) 8 = .ok (.istore 5, 2) := by decide +kernel
theorem qJ2_compress_5af95_10 : decode (mB mJ2_compress_5af95) 10 = .ok (.iload 5, 2) := by decide +kernel
theorem qJ2_compress_5af95_12 : decode (mB mJ2_compress_5af95) 12 = .ok (.iload 4, 2) := by decide +kernel
theorem qJ2_compress_5af95_14 : decode (mB mJ2_compress_5af95) 14 = .ok (.if_icmp .ge 39, 3) := by decide +kernel
theorem qJ2_compress_5af95_17 : decode (mB mJ2_compress_5af95) 17 = .ok (.aload_n 0, 1) := by decide +kernel
theorem qJ2_compress_5af95_18 : decode (mB mJ2_compress_5af95) 18 = .ok (.iload_n 1, 1) := by decide +kernel
theorem qJ2_compress_5af95_19 : decode (mB mJ2_compress_5af95) 19 = .ok (.invokestatic 71, 3) := by decide +kernel
theorem qJ2_compress_5af95_22 : decode (mB mJ2_compress_5af95) 22 = .ok (.istore 6, 2) := by decide +kernel
theorem qJ2_compress_5af95_24 : decode (mB mJ2_compress_5af95) 24 = .ok (.iload 6, 2) := by decide +kernel
theorem qJ2_compress_5af95_26 : decode (mB mJ2_compress_5af95) 26 = .ok (.sipush 255, 3) := by decide +kernel
theorem qJ2_compress_5af95_29 : decode (mB mJ2_compress_5af95) 29 = .ok (.if_icmp .le 6, 3) := by decide +kernel
theorem qJ2_compress_5af95_32 : decode (mB mJ2_compress_5af95) 32 = .ok (.iload 5, 2) := by decide +kernel
theorem qJ2_compress_5af95_34 : decode (mB mJ2_compress_5af95) 34 = .ok (.ireturn, 1) := by decide +kernel
theorem qJ2_compress_5af95_35 : decode (mB mJ2_compress_5af95) 35 = .ok (.aload_n 2, 1) := by decide +kernel
theorem qJ2_compress_5af95_36 : decode (mB mJ2_compress_5af95) 36 = .ok (.iload_n 3, 1) := by decide +kernel
theorem qJ2_compress_5af95_37 : decode (mB mJ2_compress_5af95) 37 = .ok (.iload 6, 2) := by decide +kernel
theorem qJ2_compress_5af95_39 : decode (mB mJ2_compress_5af95) 39 = .ok (.i2b, 1) := by decide +kernel
theorem qJ2_compress_5af95_40 : decode (mB mJ2_compress_5af95) 40 = .ok (.bastore, 1) := by decide +kernel
theorem qJ2_compress_5af95_41 : decode (mB mJ2_compress_5af95) 41 = .ok (.iinc 1 1, 3) := by decide +kernel
theorem qJ2_compress_5af95_44 : decode (mB mJ2_compress_5af95) 44 = .ok (.iinc 3 1, 3) := by decide +kernel
theorem qJ2_compress_5af95_47 : decode (mB mJ2_compress_5af95) 47 = .ok (.iinc 5 1, 3) := by decide +kernel
theorem qJ2_compress_5af95_50 : decode (mB mJ2_compress_5af95) 50 = .ok (.goto (-40), 3) := by decide +kernel
theorem qJ2_compress_5af95_53 : decode (mB mJ2_compress_5af95) 53 = .ok (.iload 4, 2) := by decide +kernel
theorem qJ2_compress_5af95_55 : decode (mB mJ2_compress_5af95) 55 = .ok (.ireturn, 1) := by decide +kernel
theorem qJ2_getChar_3b067_0 : decode (mB mJ2_getChar_3b067) 0 = .ok (.getstatic 44, 3) := by decide +kernel
theorem qJ2_getChar_3b067_3 : decode (mB mJ2_getChar_3b067) 3 = .ok (.ifCond .ne 25, 3) := by decide +kernel
theorem qJ2_getChar_3b067_6 : decode (mB mJ2_getChar_3b067) 6 = .ok (.iload_n 1, 1) := by decide +kernel
theorem qJ2_getChar_3b067_7 : decode (mB mJ2_getChar_3b067) 7 = .ok (.ifCond .lt 11, 3) := by decide +kernel
theorem qJ2_getChar_3b067_10 : decode (mB mJ2_getChar_3b067) 10 = .ok (.iload_n 1, 1) := by decide +kernel
theorem qJ2_getChar_3b067_11 : decode (mB mJ2_getChar_3b067) 11 = .ok (.aload_n 0, 1) := by decide +kernel
theorem qJ2_getChar_3b067_12 : decode (mB mJ2_getChar_3b067) 12 = .ok (.invokestatic 48, 3) := by decide +kernel
theorem qJ2_getChar_3b067_15 : decode (mB mJ2_getChar_3b067) 15 = .ok (.if_icmp .lt 13, 3) := by decide +kernel
theorem qJ2_getChar_3b067_18 : decode (mB mJ2_getChar_3b067) 18 = .ok (.new 52, 3) := by decide +kernel
theorem qJ2_getChar_3b067_21 : decode (mB mJ2_getChar_3b067) 21 = .ok (.dup, 1) := by decide +kernel
theorem qJ2_getChar_3b067_22 : decode (mB mJ2_getChar_3b067) 22 = .ok (.ldc 54, 2) := by decide +kernel
theorem qJ2_getChar_3b067_24 : decode (mB mJ2_getChar_3b067) 24 = .ok (.invokespecial 56, 3) := by decide +kernel
theorem qJ2_getChar_3b067_27 : decode (mB mJ2_getChar_3b067) 27 = .ok (.athrow, 1) := by decide +kernel
theorem qJ2_getChar_3b067_28 : decode (mB mJ2_getChar_3b067) 28 = .ok (.iload_n 1, 1) := by decide +kernel
theorem qJ2_getChar_3b067_29 : decode (mB mJ2_getChar_3b067) 29 = .ok (.iconst 1, 1) := by decide +kernel
theorem qJ2_getChar_3b067_30 : decode (mB mJ2_getChar_3b067) 30 = .ok (.ishl, 1) := by decide +kernel
theorem qJ2_getChar_3b067_31 : decode (mB mJ2_getChar_3b067) 31 = .ok (.istore_n 1, 1) := by decide +kernel
theorem qJ2_getChar_3b067_32 : decode (mB mJ2_getChar_3b067) 32 = .ok (.aload_n 0, 1) := by decide +kernel
theorem qJ2_getChar_3b067_33 : decode (mB mJ2_getChar_3b067) 33 = .ok (.iload_n 1, 1) := by decide +kernel
theorem qJ2_getChar_3b067_34 : decode (mB mJ2_getChar_3b067) 34 = .ok (.iinc 1 1, 3) := by decide +kernel
theorem qJ2_getChar_3b067_37 : decode (mB mJ2_getChar_3b067) 37 = .ok (.baload, 1) := by decide +kernel
theorem qJ2_getChar_3b067_38 : decode (mB mJ2_getChar_3b067) 38 = .ok (.sipush 255, 3) := by decide +kernel
theorem qJ2_getChar_3b067_41 : decode (mB mJ2_getChar_3b067) 41 = .ok (.iand, 1) := by decide +kernel
theorem qJ2_getChar_3b067_42 : decode (mB mJ2_getChar_3b067) 42 = .ok (.getstatic 59, 3) := by decide +kernel
theorem qJ2_getChar_3b067_45 : decode (mB mJ2_getChar_3b067) 45 = .ok (.ishl, 1) := by decide +kernel
theorem qJ2_getChar_3b067_46 : decode (mB mJ2_getChar_3b067) 46 = .ok (.aload_n 0, 1) := by decide +kernel
theorem qJ2_getChar_3b067_47 : decode (mB mJ2_getChar_3b067) 47 = .ok (.iload_n 1, 1) := by decide +kernel
theorem qJ2_getChar_3b067_48 : decode (mB mJ2_getChar_3b067) 48 = .ok (.baload, 1) := by decide +kernel
theorem qJ2_getChar_3b067_49 : decode (mB mJ2_getChar_3b067) 49 = .ok (.sipush 255, 3) := by decide +kernel
theorem qJ2_getChar_3b067_52 : decode (mB mJ2_getChar_3b067) 52 = .ok (.iand, 1) := by decide +kernel
theorem qJ2_getChar_3b067_53 : decode (mB mJ2_getChar_3b067) 53 = .ok (.getstatic 63, 3) := by decide +kernel
theorem qJ2_getChar_3b067_56 : decode (mB mJ2_getChar_3b067) 56 = .ok (.ishl, 1) := by decide +kernel
theorem qJ2_getChar_3b067_57 : decode (mB mJ2_getChar_3b067) 57 = .ok (.ior, 1) := by decide +kernel
theorem qJ2_getChar_3b067_58 : decode (mB mJ2_getChar_3b067) 58 = .ok (.i2c, 1) := by decide +kernel
theorem qJ2_getChar_3b067_59 : decode (mB mJ2_getChar_3b067) 59 = .ok (.ireturn, 1) := by decide +kernel
theorem qJ2_getChars_46870_0 : decode (mB mJ2_getChars_46870) 0 = .ok (.iload_n 1, 1) := by decide +kernel
theorem qJ2_getChars_46870_1 : decode (mB mJ2_getChars_46870) 1 = .ok (.iload_n 2, 1) := by decide +kernel
theorem qJ2_getChars_46870_2 : decode (mB mJ2_getChars_46870) 2 = .ok (.aload_n 3, 1) := by decide +kernel
theorem qJ2_getChars_46870_3 : decode (mB mJ2_getChars_46870) 3 = .ok (.invokestatic 96, 3) := by decide +kernel
theorem qJ2_getChars_46870_6 : decode (mB mJ2_getChars_46870) 6 = .ok (.iload_n 0, 1) := by decide +kernel
theorem qJ2_getChars_46870_7 : decode (mB mJ2_getChars_46870) 7 = .ok (.iload_n 2, 1) := by decide +kernel
theorem qJ2_getChars_46870_8 : decode (mB mJ2_getChars_46870) 8 = .ok (.aload_n 3, 1) := by decide +kernel
theorem qJ2_getChars_46870_9 : decode (mB mJ2_getChars_46870) 9 = .ok (.invokestatic 393, 3) := by decide +kernel
theorem qJ2_getChars_46870_12 : decode (mB mJ2_getChars_46870) 12 = .ok (.istore 4, 2) := by decide +kernel
theorem qJ2_getChars_46870_14 : decode (mB mJ2_getChars_46870) 14 = .ok (.getstatic 44, 3) := by decide +kernel
theorem qJ2_getChars_46870_17 : decode (mB mJ2_getChars_46870) 17 = .ok (.ifCond .ne 17, 3) := by decide +kernel
theorem qJ2_getChars_46870_20 : decode (mB mJ2_getChars_46870) 20 = .ok (.iload_n 1, 1) := by decide +kernel
theorem qJ2_getChars_46870_21 : decode (mB mJ2_getChars_46870) 21 = .ok (.iload 4, 2) := by decide +kernel
theorem qJ2_getChars_46870_23 : decode (mB mJ2_getChars_46870) 23 = .ok (.if_icmp .eq 11, 3) := by decide +kernel
theorem qJ2_getChars_46870_26 : decode (mB mJ2_getChars_46870) 26 = .ok (.new 52, 3) := by decide +kernel
theorem qJ2_getChars_46870_29 : decode (mB mJ2_getChars_46870) 29 = .ok (.dup, 1) := by decide +kernel
theorem qJ2_getChars_46870_30 : decode (mB mJ2_getChars_46870) 30 = .ok (.invokespecial 66, 3) := by decide +kernel
theorem qJ2_getChars_46870_33 : decode (mB mJ2_getChars_46870) 33 = .ok (.athrow, 1) := by decide +kernel
theorem qJ2_getChars_46870_34 : decode (mB mJ2_getChars_46870) 34 = .ok (.iload 4, 2) := by decide +kernel
theorem qJ2_getChars_46870_36 : decode (mB mJ2_getChars_46870) 36 = .ok (.ireturn, 1) := by decide +kernel
theorem qJ2_getChars_ba4f3_0 : decode (mB mJ2_getChars_ba4f3) 0 = .ok (.iload_n 1, 1) := by decide +kernel
theorem qJ2_getChars_ba4f3_1 : decode (mB mJ2_getChars_ba4f3) 1 = .ok (.istore 5, 2) := by decide +kernel
theorem qJ2_getChars_ba4f3_3 : decode (mB mJ2_getChars_ba4f3) 3 = .ok (.iload_n 0, 1) := by decide +kernel
theorem qJ2_getChars_ba4f3_4 : decode (mB mJ2_getChars_ba4f3) 4 = .ok (.ifCond .ge 7, 3) := by decide +kernel
theorem qJ2_getChars_ba4f3_7 : decode (mB mJ2_getChars_ba4f3) 7 = .ok (.iconst 1, 1) := by decide +kernel
theorem qJ2_getChars_ba4f3_8 : decode (mB mJ2_getChars_ba4f3) 8 = .ok (.goto 4, 3) := by decide +kernel
theorem qJ2_getChars_ba4f3_11 : decode (mB mJ2_getChars_ba4f3) 11 = .ok (.iconst 0, 1) := by decide +kernel
theorem qJ2_getChars_ba4f3_12 : decode (mB mJ2_getChars_ba4f3) 12 = .ok (.istore 6, 2) := by decide +kernel
theorem qJ2_getChars_ba4f3_14 : decode (mB mJ2_getChars_ba4f3) 14 = .ok (.iload 6, 2) := by decide +kernel
theorem qJ2_getChars_ba4f3_16 : decode (mB mJ2_getChars_ba4f3) 16 = .ok (.ifCond .ne 6, 3) := by decide +kernel
theorem qJ2_getChars_ba4f3_19 : decode (mB mJ2_getChars_ba4f3) 19 = .ok (.iload_n 0, 1) := by decide +kernel
theorem qJ2_getChars_ba4f3_20 : decode (mB mJ2_getChars_ba4f3) 20 = .ok (.ineg, 1) := by decide +kernel
theorem qJ2_getChars_ba4f3_21 : decode (mB mJ2_getChars_ba4f3) 21 = .ok (.istore_n 0, 1) := by decide +kernel
theorem qJ2_getChars_ba4f3_22 : decode (mB mJ2_getChars_ba4f3) 22 = .ok (.iload_n 0, 1) := by decide +kernel
theorem qJ2_getChars_ba4f3_23 : decode (mB mJ2_getChars_ba4f3) 23 = .ok (.bipush (-100), 2) := by decide +kernel
theorem qJ2_getChars_ba4f3_25 : decode (mB mJ2_getChars_ba4f3) 25 = .ok (.if_icmp .gt 51, 3) := by decide +kernel
theorem qJ2_getChars_ba4f3_28 : decode (mB mJ2_getChars_ba4f3) 28 = .ok (.iload_n 0, 1) := by decide +kernel
theorem qJ2_getChars_ba4f3_29 : decode (mB mJ2_getChars_ba4f3) 29 = .ok (.bipush 100, 2) := by decide +kernel
theorem qJ2_getChars_ba4f3_31 : decode (mB mJ2_getChars_ba4f3) 31 = .ok (.idiv, 1) := by decide +kernel
theorem qJ2_getChars_ba4f3_32 : decode (mB mJ2_getChars_ba4f3) 32 = .ok (.istore_n 3, 1) := by decide +kernel
theorem qJ2_getChars_ba4f3_33 : decode (mB mJ2_getChars_ba4f3) 33 = .ok (.iload_n 3, 1) := by decide +kernel
theorem qJ2_getChars_ba4f3_34 : decode (mB mJ2_getChars_ba4f3) 34 = .ok (.bipush 100, 2) := by decide +kernel
theorem qJ2_getChars_ba4f3_36 : decode (mB mJ2_getChars_ba4f3) 36 = .ok (.imul, 1) := by decide +kernel
theorem qJ2_getChars_ba4f3_37 : decode (mB mJ2_getChars_ba4f3) 37 = .ok (.iload_n 0, 1) := by decide +kernel
theorem qJ2_getChars_ba4f3_38 : decode (mB mJ2_getChars_ba4f3) 38 = .ok (.isub, 1) := by decide +kernel
theorem qJ2_getChars_ba4f3_39 : decode (mB mJ2_getChars_ba4f3) 39 = .ok (.istore 4, 2) := by decide +kernel
theorem qJ2_getChars_ba4f3_41 : decode (mB mJ2_getChars_ba4f3) 41 = .ok (.iload_n 3, 1) := by decide +kernel
theorem qJ2_getChars_ba4f3_42 : decode (mB mJ2_getChars_ba4f3) 42 = .ok (.istore_n 0, 1) := by decide +kernel
theorem qJ2_getChars_ba4f3_43 : decode (mB mJ2_getChars_ba4f3) 43 = .ok (.aload_n 2, 1) := by decide +kernel
theorem qJ2_getChars_ba4f3_44 : decode (mB mJ2_getChars_ba4f3) 44 = .ok (.iinc 5 (-1), 3) := by decide +kernel
theorem qJ2_getChars_ba4f3_47 : decode (mB mJ2_getChars_ba4f3) 47 = .ok (.iload 5, 2) := by decide +kernel
theorem qJ2_getChars_ba4f3_49 : decode (mB mJ2_getChars_ba4f3) 49 = .ok (.getstatic 403, 3) := by decide +kernel
theorem qJ2_getChars_ba4f3_52 : decode (mB mJ2_getChars_ba4f3) 52 = .ok (.iload 4, 2) := by decide +kernel
theorem qJ2_getChars_ba4f3_54 : decode (mB mJ2_getChars_ba4f3) 54 = .ok (.baload, 1) := by decide +kernel
theorem qJ2_getChars_ba4f3_55 : decode (mB mJ2_getChars_ba4f3) 55 = .ok (.invokestatic 111, 3) := by decide +kernel
theorem qJ2_getChars_ba4f3_58 : decode (mB mJ2_getChars_ba4f3) 58 = .ok (.aload_n 2, 1) := by decide +kernel
theorem qJ2_getChars_ba4f3_59 : decode (mB mJ2_getChars_ba4f3) 59 = .ok (.iinc 5 (-1), 3) := by decide +kernel
theorem qJ2_getChars_ba4f3_62 : decode (mB mJ2_getChars_ba4f3) 62 = .ok (.iload 5, 2) := by decide +kernel
theorem qJ2_getChars_ba4f3_64 : decode (mB mJ2_getChars_ba4f3) 64 = .ok (.getstatic 407, 3) := by decide +kernel
theorem qJ2_getChars_ba4f3_67 : decode (mB mJ2_getChars_ba4f3) 67 = .ok (.iload 4, 2) := by decide +kernel
theorem qJ2_getChars_ba4f3_69 : decode (mB mJ2_getChars_ba4f3) 69 = .ok (.baload, 1) := by decide +kernel
theorem qJ2_getChars_ba4f3_70 : decode (mB mJ2_getChars_ba4f3) 70 = .ok (.invokestatic 111, 3) := by decide +kernel
theorem qJ2_getChars_ba4f3_73 : decode (mB mJ2_getChars_ba4f3) 73 = .ok (.goto (-51), 3) := by decide +kernel
theorem qJ2_getChars_ba4f3_76 : decode (mB mJ2_getChars_ba4f3) 76 = .ok (.aload_n 2, 1) := by decide +kernel
theorem qJ2_getChars_ba4f3_77 : decode (mB mJ2_getChars_ba4f3) 77 = .ok (.iinc 5 (-1), 3) := by decide +kernel
theorem qJ2_getChars_ba4f3_80 : decode (mB mJ2_getChars_ba4f3) 80 = .ok (.iload 5, 2) := by decide +kernel
theorem qJ2_getChars_ba4f3_82 : decode (mB mJ2_getChars_ba4f3) 82 = .ok (.getstatic 403, 3) := by decide +kernel
theorem qJ2_getChars_ba4f3_85 : decode (mB mJ2_getChars_ba4f3) 85 = .ok (.iload_n 0, 1) := by decide +kernel
theorem qJ2_getChars_ba4f3_86 : decode (mB mJ2_getChars_ba4f3) 86 = .ok (.ineg, 1) := by decide +kernel
theorem qJ2_getChars_ba4f3_87 : decode (mB mJ2_getChars_ba4f3) 87 = .ok (.baload, 1) := by decide +kernel
theorem qJ2_getChars_ba4f3_88 : decode (mB mJ2_getChars_ba4f3) 88 = .ok (.invokestatic 111, 3) := by decide +kernel
theorem qJ2_getChars_ba4f3_91 : decode (mB mJ2_getChars_ba4f3) 91 = .ok (.iload_n 0, 1) := by decide +kernel
theorem qJ2_getChars_ba4f3_92 : decode (mB mJ2_getChars_ba4f3) 92 = .ok (.bipush (-9), 2) := by decide +kernel
theorem qJ2_getChars_ba4f3_94 : decode (mB mJ2_getChars_ba4f3) 94 = .ok (.if_icmp .ge 18, 3) := by decide +kernel
theorem qJ2_getChars_ba4f3_97 : decode (mB mJ2_getChars_ba4f3) 97 = .ok (.aload_n 2, 1) := by decide +kernel
theorem qJ2_getChars_ba4f3_98 : decode (mB mJ2_getChars_ba4f3) 98 = .ok (.iinc 5 (-1), 3) := by decide +kernel
theorem qJ2_getChars_ba4f3_101 : decode (mB mJ2_getChars_ba4f3) 101 = .ok (.iload 5, 2) := by decide +kernel
theorem qJ2_getChars_ba4f3_103 : decode (mB mJ2_getChars_ba4f3) 103 = .ok (.getstatic 407, 3) := by decide +kernel
theorem qJ2_getChars_ba4f3_106 : decode (mB mJ2_getChars_ba4f3) 106 = .ok (.iload_n 0, 1) := by decide +kernel
theorem qJ2_getChars_ba4f3_107 : decode (mB mJ2_getChars_ba4f3) 107 = .ok (.ineg, 1) := by decide +kernel
theorem qJ2_getChars_ba4f3_108 : decode (mB mJ2_getChars_ba4f3) 108 = .ok (.baload, 1) := by decide +kernel
theorem qJ2_getChars_ba4f3_109 : decode (mB mJ2_getChars_ba4f3) 109 = .ok (.invokestatic 111, 3) := by decide +kernel
theorem qJ2_getChars_ba4f3_112 : decode (mB mJ2_getChars_ba4f3) 112 = .ok (.iload 6, 2) := by decide +kernel
theorem qJ2_getChars_ba4f3_114 : decode (mB mJ2_getChars_ba4f3) 114 = .ok (.ifCond .eq 14, 3) := by decide +kernel
theorem qJ2_getChars_ba4f3_117 : decode (mB mJ2_getChars_ba4f3) 117 = .ok (.aload_n 2, 1) := by decide +kernel
theorem qJ2_getChars_ba4f3_118 : decode (mB mJ2_getChars_ba4f3) 118 = .ok (.iinc 5 (-1), 3) := by decide +kernel
theorem qJ2_getChars_ba4f3_121 : decode (mB mJ2_getChars_ba4f3) 121 = .ok (.iload 5, 2) := by decide +kernel
theorem qJ2_getChars_ba4f3_123 : decode (mB mJ2_getChars_ba4f3) 123 = .ok (.bipush 45, 2) := by decide +kernel
theorem qJ2_getChars_ba4f3_125 : decode (mB mJ2_getChars_ba4f3) 125 = .ok (.invokestatic 111, 3) := by decide +kernel
theorem qJ2_getChars_ba4f3_128 : decode (mB mJ2_getChars_ba4f3) 128 = .ok (.iload 5, 2) := by decide +kernel
theorem qJ2_getChars_ba4f3_130 : decode (mB mJ2_getChars_ba4f3) 130 = .ok (.ireturn, 1) := by decide +kernel
theorem qJ2_inflate_0e8fd_0 : decode (mB mJ2_inflate_0e8fd) 0 = .ok (.iload_n 3, 1) := by decide +kernel
theorem qJ2_inflate_0e8fd_1 : decode (mB mJ2_inflate_0e8fd) 1 = .ok (.iload 4, 2) := by decide +kernel
theorem qJ2_inflate_0e8fd_3 : decode (mB mJ2_inflate_0e8fd) 3 = .ok (.aload_n 2, 1) := by decide +kernel
theorem qJ2_inflate_0e8fd_4 : decode (mB mJ2_inflate_0e8fd) 4 = .ok (.invokestatic 173, 3) := by decide +kernel
theorem qJ2_inflate_0e8fd_7 : decode (mB mJ2_inflate_0e8fd) 7 = .ok (.iconst 0, 1) := by decide +kernel
theorem qJ2_inflate_0e8fd_8 : decode (mB mJ2_inflate_0e8fd) 8 = .ok (.istore 5, 2) := by decide +kernel
theorem qJ2_inflate_0e8fd_10 : decode (mB mJ2_inflate_0e8fd) 10 = .ok (.iload 5, 2) := by decide +kernel
theorem qJ2_inflate_0e8fd_12 : decode (mB mJ2_inflate_0e8fd) 12 = .ok (.iload 4, 2) := by decide +kernel
theorem qJ2_inflate_0e8fd_14 : decode (mB mJ2_inflate_0e8fd) 14 = .ok (.if_icmp .ge 27, 3) := by decide +kernel
theorem qJ2_inflate_0e8fd_17 : decode (mB mJ2_inflate_0e8fd) 17 = .ok (.aload_n 2, 1) := by decide +kernel
theorem qJ2_inflate_0e8fd_18 : decode (mB mJ2_inflate_0e8fd) 18 = .ok (.iload_n 3, 1) := by decide +kernel
theorem qJ2_inflate_0e8fd_19 : decode (mB mJ2_inflate_0e8fd) 19 = .ok (.iinc 3 1, 3) := by decide +kernel
theorem qJ2_inflate_0e8fd_22 : decode (mB mJ2_inflate_0e8fd) 22 = .ok (.aload_n 0, 1) := by decide +kernel
theorem qJ2_inflate_0e8fd_23 : decode (mB mJ2_inflate_0e8fd) 23 = .ok (.iload_n 1, 1) := by decide +kernel
theorem qJ2_inflate_0e8fd_24 : decode (mB mJ2_inflate_0e8fd) 24 = .ok (.iinc 1 1, 3) := by decide +kernel
theorem qJ2_inflate_0e8fd_27 : decode (mB mJ2_inflate_0e8fd) 27 = .ok (.baload, 1) := by decide +kernel
theorem qJ2_inflate_0e8fd_28 : decode (mB mJ2_inflate_0e8fd) 28 = .ok (.sipush 255, 3) := by decide +kernel
theorem qJ2_inflate_0e8fd_31 : decode (mB mJ2_inflate_0e8fd) 31 = .ok (.iand, 1) := by decide +kernel
theorem qJ2_inflate_0e8fd_32 : decode (mB mJ2_inflate_0e8fd) 32 = .ok (.invokestatic 111, 3) := by decide +kernel
theorem qJ2_inflate_0e8fd_35 : decode (mB mJ2_inflate_0e8fd) 35 = .ok (.iinc 5 1, 3) := by decide +kernel
theorem qJ2_inflate_0e8fd_38 : decode (mB mJ2_inflate_0e8fd) 38 = .ok (.goto (-28), 3) := by decide +kernel
theorem qJ2_inflate_0e8fd_41 : decode (mB mJ2_inflate_0e8fd) 41 = .ok (.return_, 1) := by decide +kernel
theorem qJ2_length_9d52b_0 : decode (mB mJ2_length_9d52b) 0 = .ok (.aload_n 0, 1) := by decide +kernel
theorem qJ2_length_9d52b_1 : decode (mB mJ2_length_9d52b) 1 = .ok (.arraylength, 1) := by decide +kernel
theorem qJ2_length_9d52b_2 : decode (mB mJ2_length_9d52b) 2 = .ok (.iconst 1, 1) := by decide +kernel
theorem qJ2_length_9d52b_3 : decode (mB mJ2_length_9d52b) 3 = .ok (.ishr, 1) := by decide +kernel
theorem qJ2_length_9d52b_4 : decode (mB mJ2_length_9d52b) 4 = .ok (.ireturn, 1) := by decide +kernel
theorem qJ2_newBytesFor_77867_0 : decode (mB mJ2_newBytesFor_77867) 0 = .ok (.iload_n 0, 1) := by decide +kernel
theorem qJ2_newBytesFor_77867_1 : decode (mB mJ2_newBytesFor_77867) 1 = .ok (.invokestatic 11, 3) := by decide +kernel
theorem qJ2_newBytesFor_77867_4 : decode (mB mJ2_newBytesFor_77867) 4 = .ok (.newarray .byte, 2) := by decide +kernel
theorem qJ2_newBytesFor_77867_6 : decode (mB mJ2_newBytesFor_77867) 6 = .ok (.areturn, 1) := by decide +kernel
theorem qJ2_newBytesLength_0f7a4_0 : decode (mB mJ2_newBytesLength_0f7a4) 0 = .ok (.iload_n 0, 1) := by decide +kernel
theorem qJ2_newBytesLength_0f7a4_1 : decode (mB mJ2_newBytesLength_0f7a4) 1 = .ok (.ifCond .ge 11, 3) := by decide +kernel
theorem qJ2_newBytesLength_0f7a4_4 : decode (mB mJ2_newBytesLength_0f7a4) 4 = .ok (.new 17, 3) := by decide +kernel
theorem qJ2_newBytesLength_0f7a4_7 : decode (mB mJ2_newBytesLength_0f7a4) 7 = .ok (.dup, 1) := by decide +kernel
theorem qJ2_newBytesLength_0f7a4_8 : decode (mB mJ2_newBytesLength_0f7a4) 8 = .ok (.invokespecial 19, 3) := by decide +kernel
theorem qJ2_newBytesLength_0f7a4_11 : decode (mB mJ2_newBytesLength_0f7a4) 11 = .ok (.athrow, 1) := by decide +kernel
theorem qJ2_newBytesLength_0f7a4_12 : decode (mB mJ2_newBytesLength_0f7a4) 12 = .ok (.iload_n 0, 1) := by decide +kernel
theorem qJ2_newBytesLength_0f7a4_13 : decode (mB mJ2_newBytesLength_0f7a4) 13 = .ok (.ldc 20, 2) := by decide +kernel
theorem qJ2_newBytesLength_0f7a4_15 : decode (mB mJ2_newBytesLength_0f7a4) 15 = .ok (.if_icmp .lt 40, 3) := by decide +kernel
theorem qJ2_newBytesLength_0f7a4_18 : decode (mB mJ2_newBytesLength_0f7a4) 18 = .ok (.new 21, 3) := by decide +kernel
theorem qJ2_newBytesLength_0f7a4_21 : decode (mB mJ2_newBytesLength_0f7a4) 21 = .ok (.dup, 1) := by decide +kernel
theorem qJ2_newBytesLength_0f7a4_22 : decode (mB mJ2_newBytesLength_0f7a4) 22 = .ok (.new 23, 3) := by decide +kernel
theorem qJ2_newBytesLength_0f7a4_25 : decode (mB mJ2_newBytesLength_0f7a4) 25 = .ok (.dup, 1) := by decide +kernel
theorem qJ2_newBytesLength_0f7a4_26 : decode (mB mJ2_newBytesLength_0f7a4) 26 = .ok (.invokespecial 25, 3) := by decide +kernel
theorem qJ2_newBytesLength_0f7a4_29 : decode (mB mJ2_newBytesLength_0f7a4) 29 = .ok (.ldc 26, 2) := by decide +kernel
theorem qJ2_newBytesLength_0f7a4_31 : decode (mB mJ2_newBytesLength_0f7a4) 31 = .ok (.invokevirtual 28, 3) := by decide +kernel
theorem qJ2_newBytesLength_0f7a4_34 : decode (mB mJ2_newBytesLength_0f7a4) 34 = .ok (.iload_n 0, 1) := by decide +kernel
theorem qJ2_newBytesLength_0f7a4_35 : decode (mB mJ2_newBytesLength_0f7a4) 35 = .ok (.invokevirtual 32, 3) := by decide +kernel
theorem qJ2_newBytesLength_0f7a4_38 : decode (mB mJ2_newBytesLength_0f7a4) 38 = .ok (.ldc 35, 2) := by decide +kernel
theorem qJ2_newBytesLength_0f7a4_40 : decode (mB mJ2_newBytesLength_0f7a4) 40 = .ok (.invokevirtual 28, 3) := by decide +kernel
theorem qJ2_newBytesLength_0f7a4_43 : decode (mB mJ2_newBytesLength_0f7a4) 43 = .ok (.ldc 20, 2) := by decide +kernel
theorem qJ2_newBytesLength_0f7a4_45 : decode (mB mJ2_newBytesLength_0f7a4) 45 = .ok (.invokevirtual 32, 3) := by decide +kernel
theorem qJ2_newBytesLength_0f7a4_48 : decode (mB mJ2_newBytesLength_0f7a4) 48 = .ok (.invokevirtual 37, 3) := by decide +kernel
theorem qJ2_newBytesLength_0f7a4_51 : decode (mB mJ2_newBytesLength_0f7a4) 51 = .ok (.invokespecial 41, 3) := by decide +kernel
theorem qJ2_newBytesLength_0f7a4_54 : decode (mB mJ2_newBytesLength_0f7a4) 54 = .ok (.athrow, 1) := by decide +kernel
theorem qJ2_newBytesLength_0f7a4_55 : decode (mB mJ2_newBytesLength_0f7a4) 55 = .ok (.iload_n 0, 1) := by decide +kernel
theorem qJ2_newBytesLength_0f7a4_56 : decode (mB mJ2_newBytesLength_0f7a4) 56 = .ok (.iconst 1, 1) := by decide +kernel
theorem qJ2_newBytesLength_0f7a4_57 : decode (mB mJ2_newBytesLength_0f7a4) 57 = .ok (.ishl, 1) := by decide +kernel
theorem qJ2_newBytesLength_0f7a4_58 : decode (mB mJ2_newBytesLength_0f7a4) 58 = .ok (.ireturn, 1) := by decide +kernel
theorem qJ2_putChar_b72d1_0 : decode (mB mJ2_putChar_b72d1) 0 = .ok (.getstatic 44, 3) := by decide +kernel
theorem qJ2_putChar_b72d1_3 : decode (mB mJ2_putChar_b72d1) 3 = .ok (.ifCond .ne 25, 3) := by decide +kernel
theorem qJ2_putChar_b72d1_6 : decode (mB mJ2_putChar_b72d1) 6 = .ok (.iload_n 1, 1) := by decide +kernel
theorem qJ2_putChar_b72d1_7 : decode (mB mJ2_putChar_b72d1) 7 = .ok (.ifCond .lt 11, 3) := by decide +kernel
theorem qJ2_putChar_b72d1_10 : decode (mB mJ2_putChar_b72d1) 10 = .ok (.iload_n 1, 1) := by decide +kernel
theorem qJ2_putChar_b72d1_11 : decode (mB mJ2_putChar_b72d1) 11 = .ok (.aload_n 0, 1) := by decide +kernel
theorem qJ2_putChar_b72d1_12 : decode (mB mJ2_putChar_b72d1) 12 = .ok (.invokestatic 48, 3) := by decide +kernel
theorem qJ2_putChar_b72d1_15 : decode (mB mJ2_putChar_b72d1) 15 = .ok (.if_icmp .lt 13, 3) := by decide +kernel
theorem qJ2_putChar_b72d1_18 : decode (mB mJ2_putChar_b72d1) 18 = .ok (.new 52, 3) := by decide +kernel
theorem qJ2_putChar_b72d1_21 : decode (mB mJ2_putChar_b72d1) 21 = .ok (.dup, 1) := by decide +kernel
theorem qJ2_putChar_b72d1_22 : decode (mB mJ2_putChar_b72d1) 22 = .ok (.ldc 54, 2) := by decide +kernel
theorem qJ2_putChar_b72d1_24 : decode (mB mJ2_putChar_b72d1) 24 = .ok (.invokespecial 56, 3) := by decide +kernel
theorem qJ2_putChar_b72d1_27 : decode (mB mJ2_putChar_b72d1) 27 = .ok (.athrow, 1) := by decide +kernel
theorem qJ2_putChar_b72d1_28 : decode (mB mJ2_putChar_b72d1) 28 = .ok (.iload_n 1, 1) := by decide +kernel
theorem qJ2_putChar_b72d1_29 : decode (mB mJ2_putChar_b72d1) 29 = .ok (.iconst 1, 1) := by decide +kernel
theorem qJ2_putChar_b72d1_30 : decode (mB mJ2_putChar_b72d1) 30 = .ok (.ishl, 1) := by decide +kernel
theorem qJ2_putChar_b72d1_31 : decode (mB mJ2_putChar_b72d1) 31 = .ok (.istore_n 1, 1) := by decide +kernel
theorem qJ2_putChar_b72d1_32 : decode (mB mJ2_putChar_b72d1) 32 = .ok (.aload_n 0, 1) := by decide +kernel
theorem qJ2_putChar_b72d1_33 : decode (mB mJ2_putChar_b72d1) 33 = .ok (.iload_n 1, 1) := by decide +kernel
theorem qJ2_putChar_b72d1_34 : decode (mB mJ2_putChar_b72d1) 34 = .ok (.iinc 1 1, 3) := by decide +kernel
theorem qJ2_putChar_b72d1_37 : decode (mB mJ2_putChar_b72d1) 37 = .ok (.iload_n 2, 1) := by decide +kernel
theorem qJ2_putChar_b72d1_38 : decode (mB mJ2_putChar_b72d1) 38 = .ok (.getstatic 59, 3) := by decide +kernel
theorem qJ2_putChar_b72d1_41 : decode (mB mJ2_putChar_b72d1) 41 = .ok (.ishr, 1) := by decide +kernel
theorem qJ2_putChar_b72d1_42 : decode (mB mJ2_putChar_b72d1) 42 = .ok (.i2b, 1) := by decide +kernel
theorem qJ2_putChar_b72d1_43 : decode (mB mJ2_putChar_b72d1) 43 = .ok (.bastore, 1) := by decide +kernel
theorem qJ2_putChar_b72d1_44 : decode (mB mJ2_putChar_b72d1) 44 = .ok (.aload_n 0, 1) := by decide +kernel
theorem qJ2_putChar_b72d1_45 : decode (mB mJ2_putChar_b72d1) 45 = .ok (.iload_n 1, 1) := by decide +kernel
theorem qJ2_putChar_b72d1_46 : decode (mB mJ2_putChar_b72d1) 46 = .ok (.iload_n 2, 1) := by decide +kernel
theorem qJ2_putChar_b72d1_47 : decode (mB mJ2_putChar_b72d1) 47 = .ok (.getstatic 63, 3) := by decide +kernel
theorem qJ2_putChar_b72d1_50 : decode (mB mJ2_putChar_b72d1) 50 = .ok (.ishr, 1) := by decide +kernel
theorem qJ2_putChar_b72d1_51 : decode (mB mJ2_putChar_b72d1) 51 = .ok (.i2b, 1) := by decide +kernel
theorem qJ2_putChar_b72d1_52 : decode (mB mJ2_putChar_b72d1) 52 = .ok (.bastore, 1) := by decide +kernel
theorem qJ2_putChar_b72d1_53 : decode (mB mJ2_putChar_b72d1) 53 = .ok (.return_, 1) := by decide +kernel
theorem qJ2_putCharsAt_cd4e5_0 : decode (mB mJ2_putCharsAt_cd4e5) 0 = .ok (.iload_n 1, 1) := by decide +kernel
theorem qJ2_putCharsAt_cd4e5_1 : decode (mB mJ2_putCharsAt_cd4e5) 1 = .ok (.iconst 4, 1) := by decide +kernel
theorem qJ2_putCharsAt_cd4e5_2 : decode (mB mJ2_putCharsAt_cd4e5) 2 = .ok (.iadd, 1) := by decide +kernel
theorem qJ2_putCharsAt_cd4e5_3 : decode (mB mJ2_putCharsAt_cd4e5) 3 = .ok (.istore 6, 2) := by decide +kernel
theorem qJ2_putCharsAt_cd4e5_5 : decode (mB mJ2_putCharsAt_cd4e5) 5 = .ok (.iload_n 1, 1) := by decide +kernel
theorem qJ2_putCharsAt_cd4e5_6 : decode (mB mJ2_putCharsAt_cd4e5) 6 = .ok (.iload 6, 2) := by decide +kernel
theorem qJ2_putCharsAt_cd4e5_8 : decode (mB mJ2_putCharsAt_cd4e5) 8 = .ok (.aload_n 0, 1) := by decide +kernel
theorem qJ2_putCharsAt_cd4e5_9 : decode (mB mJ2_putCharsAt_cd4e5) 9 = .ok (.invokestatic 96, 3) := by decide +kernel
theorem qJ2_putCharsAt_cd4e5_12 : decode (mB mJ2_putCharsAt_cd4e5) 12 = .ok (.aload_n 0, 1) := by decide +kernel
theorem qJ2_putCharsAt_cd4e5_13 : decode (mB mJ2_putCharsAt_cd4e5) 13 = .ok (.iload_n 1, 1) := by decide +kernel
theorem qJ2_putCharsAt_cd4e5_14 : decode (mB mJ2_putCharsAt_cd4e5) 14 = .ok (.iinc 1 1, 3) := by decide +kernel
theorem qJ2_putCharsAt_cd4e5_17 : decode (mB mJ2_putCharsAt_cd4e5) 17 = .ok (.iload_n 2, 1) := by decide +kernel
theorem qJ2_putCharsAt_cd4e5_18 : decode (mB mJ2_putCharsAt_cd4e5) 18 = .ok (.invokestatic 111, 3) := by decide +kernel
theorem qJ2_putCharsAt_cd4e5_21 : decode (mB mJ2_putCharsAt_cd4e5) 21 = .ok (.aload_n 0, 1) := by decide +kernel
theorem qJ2_putCharsAt_cd4e5_22 : decode (mB mJ2_putCharsAt_cd4e5) 22 = .ok (.iload_n 1, 1) := by decide +kernel
theorem qJ2_putCharsAt_cd4e5_23 : decode (mB mJ2_putCharsAt_cd4e5) 23 = .ok (.iinc 1 1, 3) := by decide +kernel
theorem qJ2_putCharsAt_cd4e5_26 : decode (mB mJ2_putCharsAt_cd4e5) 26 = .ok (.iload_n 3, 1) := by decide +kernel
theorem qJ2_putCharsAt_cd4e5_27 : decode (mB mJ2_putCharsAt_cd4e5) 27 = .ok (.invokestatic 111, 3) := by decide +kernel
theorem qJ2_putCharsAt_cd4e5_30 : decode (mB mJ2_putCharsAt_cd4e5) 30 = .ok (.aload_n 0, 1) := by decide +kernel
theorem qJ2_putCharsAt_cd4e5_31 : decode (mB mJ2_putCharsAt_cd4e5) 31 = .ok (.iload_n 1, 1) := by decide +kernel
theorem qJ2_putCharsAt_cd4e5_32 : decode (mB mJ2_putCharsAt_cd4e5) 32 = .ok (.iinc 1 1, 3) := by decide +kernel
theorem qJ2_putCharsAt_cd4e5_35 : decode (mB mJ2_putCharsAt_cd4e5) 35 = .ok (.iload 4, 2) := by decide +kernel
theorem qJ2_putCharsAt_cd4e5_37 : decode (mB mJ2_putCharsAt_cd4e5) 37 = .ok (.invokestatic 111, 3) := by decide +kernel
theorem qJ2_putCharsAt_cd4e5_40 : decode (mB mJ2_putCharsAt_cd4e5) 40 = .ok (.aload_n 0, 1) := by decide +kernel
theorem qJ2_putCharsAt_cd4e5_41 : decode (mB mJ2_putCharsAt_cd4e5) 41 = .ok (.iload_n 1, 1) := by decide +kernel
theorem qJ2_putCharsAt_cd4e5_42 : decode (mB mJ2_putCharsAt_cd4e5) 42 = .ok (.iinc 1 1, 3) := by decide +kernel
theorem qJ2_putCharsAt_cd4e5_45 : decode (mB mJ2_putCharsAt_cd4e5) 45 = .ok (.iload 5, 2) := by decide +kernel
theorem qJ2_putCharsAt_cd4e5_47 : decode (mB mJ2_putCharsAt_cd4e5) 47 = .ok (.invokestatic 111, 3) := by decide +kernel
theorem qJ2_putCharsAt_cd4e5_50 : decode (mB mJ2_putCharsAt_cd4e5) 50 = .ok (.getstatic 44, 3) := by decide +kernel
theorem qJ2_putCharsAt_cd4e5_53 : decode (mB mJ2_putCharsAt_cd4e5) 53 = .ok (.ifCond .ne 17, 3) := by decide +kernel
theorem qJ2_putCharsAt_cd4e5_56 : decode (mB mJ2_putCharsAt_cd4e5) 56 = .ok (.iload_n 1, 1) := by decide +kernel
theorem qJ2_putCharsAt_cd4e5_57 : decode (mB mJ2_putCharsAt_cd4e5) 57 = .ok (.iload 6, 2) := by decide +kernel
theorem qJ2_putCharsAt_cd4e5_59 : decode (mB mJ2_putCharsAt_cd4e5) 59 = .ok (.if_icmp .eq 11, 3) := by decide +kernel
theorem qJ2_putCharsAt_cd4e5_62 : decode (mB mJ2_putCharsAt_cd4e5) 62 = .ok (.new 52, 3) := by decide +kernel
theorem qJ2_putCharsAt_cd4e5_65 : decode (mB mJ2_putCharsAt_cd4e5) 65 = .ok (.dup, 1) := by decide +kernel
theorem qJ2_putCharsAt_cd4e5_66 : decode (mB mJ2_putCharsAt_cd4e5) 66 = .ok (.invokespecial 66, 3) := by decide +kernel
theorem qJ2_putCharsAt_cd4e5_69 : decode (mB mJ2_putCharsAt_cd4e5) 69 = .ok (.athrow, 1) := by decide +kernel
theorem qJ2_putCharsAt_cd4e5_70 : decode (mB mJ2_putCharsAt_cd4e5) 70 = .ok (.iload 6, 2) := by decide +kernel
theorem qJ2_putCharsAt_cd4e5_72 : decode (mB mJ2_putCharsAt_cd4e5) 72 = .ok (.ireturn, 1) := by decide +kernel
theorem qJ3_checkFromIndexSize_8c36e_0 : decode (mB mJ3_checkFromIndexSize_8c36e) 0 = .ok (.iload_n 2, 1) := by decide +kernel
theorem qJ3_checkFromIndexSize_8c36e_1 : decode (mB mJ3_checkFromIndexSize_8c36e) 1 = .ok (.iload_n 0, 1) := by decide +kernel
theorem qJ3_checkFromIndexSize_8c36e_2 : decode (mB mJ3_checkFromIndexSize_8c36e) 2 = .ok (.ior, 1) := by decide +kernel
theorem qJ3_checkFromIndexSize_8c36e_3 : decode (mB mJ3_checkFromIndexSize_8c36e) 3 = .ok (.iload_n 1, 1) := by decide +kernel
theorem qJ3_checkFromIndexSize_8c36e_4 : decode (mB mJ3_checkFromIndexSize_8c36e) 4 = .ok (.ior, 1) := by decide +kernel
theorem qJ3_checkFromIndexSize_8c36e_5 : decode (mB mJ3_checkFromIndexSize_8c36e) 5 = .ok (.ifCond .lt 10, 3) := by decide +kernel
theorem qJ3_checkFromIndexSize_8c36e_8 : decode (mB mJ3_checkFromIndexSize_8c36e) 8 = .ok (.iload_n 1, 1) := by decide +kernel
theorem qJ3_checkFromIndexSize_8c36e_9 : decode (mB mJ3_checkFromIndexSize_8c36e) 9 = .ok (.iload_n 2, 1) := by decide +kernel
theorem qJ3_checkFromIndexSize_8c36e_10 : decode (mB mJ3_checkFromIndexSize_8c36e) 10 = .ok (.iload_n 0, 1) := by decide +kernel
theorem qJ3_checkFromIndexSize_8c36e_11 : decode (mB mJ3_checkFromIndexSize_8c36e) 11 = .ok (.isub, 1) := by decide +kernel
theorem qJ3_checkFromIndexSize_8c36e_12 : decode (mB mJ3_checkFromIndexSize_8c36e) 12 = .ok (.if_icmp .le 11, 3) := by decide +kernel
theorem qJ3_checkFromIndexSize_8c36e_15 : decode (mB mJ3_checkFromIndexSize_8c36e) 15 = .ok (.aload_n 3, 1) := by decide +kernel
theorem qJ3_checkFromIndexSize_8c36e_16 : decode (mB mJ3_checkFromIndexSize_8c36e) 16 = .ok (.iload_n 0, 1) := by decide +kernel
theorem qJ3_checkFromIndexSize_8c36e_17 : decode (mB mJ3_checkFromIndexSize_8c36e) 17 = .ok (.iload_n 1, 1) := by decide +kernel
theorem qJ3_checkFromIndexSize_8c36e_18 : decode (mB mJ3_checkFromIndexSize_8c36e) 18 = .ok (.iload_n 2, 1) := by decide +kernel
theorem qJ3_checkFromIndexSize_8c36e_19 : decode (mB mJ3_checkFromIndexSize_8c36e) 19 = .ok (.invokestatic 103, 3) := by decide +kernel
theorem qJ3_checkFromIndexSize_8c36e_22 : decode (mB mJ3_checkFromIndexSize_8c36e) 22 = .ok (.athrow, 1) := by decide +kernel
theorem qJ3_checkFromIndexSize_8c36e_23 : decode (mB mJ3_checkFromIndexSize_8c36e) 23 = .ok (.iload_n 0, 1) := by decide +kernel
theorem qJ3_checkFromIndexSize_8c36e_24 : decode (mB mJ3_checkFromIndexSize_8c36e) 24 = .ok (.ireturn, 1) := by decide +kernel
theorem qJ3_checkFromToIndex_8c36e_0 : decode (mB mJ3_checkFromToIndex_8c36e) 0 = .ok (.iload_n 0, 1) := by decide +kernel
theorem qJ3_checkFromToIndex_8c36e_1 : decode (mB mJ3_checkFromToIndex_8c36e) 1 = .ok (.ifCond .lt 13, 3) := by decide +kernel
theorem qJ3_checkFromToIndex_8c36e_4 : decode (mB mJ3_checkFromToIndex_8c36e) 4 = .ok (.iload_n 0, 1) := by decide +kernel
theorem qJ3_checkFromToIndex_8c36e_5 : decode (mB mJ3_checkFromToIndex_8c36e) 5 = .ok (.iload_n 1, 1) := by decide +kernel
theorem qJ3_checkFromToIndex_8c36e_6 : decode (mB mJ3_checkFromToIndex_8c36e) 6 = .ok (.if_icmp .gt 8, 3) := by decide +kernel
theorem qJ3_checkFromToIndex_8c36e_9 : decode (mB mJ3_checkFromToIndex_8c36e) 9 = .ok (.iload_n 1, 1) := by decide +kernel
theorem qJ3_checkFromToIndex_8c36e_10 : decode (mB mJ3_checkFromToIndex_8c36e) 10 = .ok (.iload_n 2, 1) := by decide +kernel
theorem qJ3_checkFromToIndex_8c36e_11 : decode (mB mJ3_checkFromToIndex_8c36e) 11 = .ok (.if_icmp .le 11, 3) := by decide +kernel
theorem qJ3_checkFromToIndex_8c36e_14 : decode (mB mJ3_checkFromToIndex_8c36e) 14 = .ok (.aload_n 3, 1) := by decide +kernel
theorem qJ3_checkFromToIndex_8c36e_15 : decode (mB mJ3_checkFromToIndex_8c36e) 15 = .ok (.iload_n 0, 1) := by decide +kernel
theorem qJ3_checkFromToIndex_8c36e_16 : decode (mB mJ3_checkFromToIndex_8c36e) 16 = .ok (.iload_n 1, 1) := by decide +kernel
theorem qJ3_checkFromToIndex_8c36e_17 : decode (mB mJ3_checkFromToIndex_8c36e) 17 = .ok (.iload_n 2, 1) := by decide +kernel
theorem qJ3_checkFromToIndex_8c36e_18 : decode (mB mJ3_checkFromToIndex_8c36e) 18 = .ok (.invokestatic 99, 3) := by decide +kernel
theorem qJ3_checkFromToIndex_8c36e_21 : decode (mB mJ3_checkFromToIndex_8c36e) 21 = .ok (.athrow, 1) := by decide +kernel
theorem qJ3_checkFromToIndex_8c36e_22 : decode (mB mJ3_checkFromToIndex_8c36e) 22 = .ok (.iload_n 0, 1) := by decide +kernel
theorem qJ3_checkFromToIndex_8c36e_23 : decode (mB mJ3_checkFromToIndex_8c36e) 23 = .ok (.ireturn, 1) := by decide +kernel
theorem qJ3_checkIndex_8e157_0 : decode (mB mJ3_checkIndex_8e157) 0 = .ok (.iload_n 0, 1) := by decide +kernel
theorem qJ3_checkIndex_8e157_1 : decode (mB mJ3_checkIndex_8e157) 1 = .ok (.ifCond .lt 8, 3) := by decide +kernel
theorem qJ3_checkIndex_8e157_4 : decode (mB mJ3_checkIndex_8e157) 4 = .ok (.iload_n 0, 1) := by decide +kernel
theorem qJ3_checkIndex_8e157_5 : decode (mB mJ3_checkIndex_8e157) 5 = .ok (.iload_n 1, 1) := by decide +kernel
theorem qJ3_checkIndex_8e157_6 : decode (mB mJ3_checkIndex_8e157) 6 = .ok (.if_icmp .lt 10, 3) := by decide +kernel
theorem qJ3_checkIndex_8e157_9 : decode (mB mJ3_checkIndex_8e157) 9 = .ok (.aload_n 2, 1) := by decide +kernel
theorem qJ3_checkIndex_8e157_10 : decode (mB mJ3_checkIndex_8e157) 10 = .ok (.iload_n 0, 1) := by decide +kernel
theorem qJ3_checkIndex_8e157_11 : decode (mB mJ3_checkIndex_8e157) 11 = .ok (.iload_n 1, 1) := by decide +kernel
theorem qJ3_checkIndex_8e157_12 : decode (mB mJ3_checkIndex_8e157) 12 = .ok (.invokestatic 95, 3) := by decide +kernel
theorem qJ3_checkIndex_8e157_15 : decode (mB mJ3_checkIndex_8e157) 15 = .ok (.athrow, 1) := by decide +kernel
theorem qJ3_checkIndex_8e157_16 : decode (mB mJ3_checkIndex_8e157) 16 = .ok (.iload_n 0, 1) := by decide +kernel
theorem qJ3_checkIndex_8e157_17 : decode (mB mJ3_checkIndex_8e157) 17 = .ok (.ireturn, 1) := by decide +kernel
theorem qJ4_append_15ec4_0 : decode (mB mJ4_append_15ec4) 0 = .ok (.aload_n 0, 1) := by decide +kernel
theorem qJ4_append_15ec4_1 : decode (mB mJ4_append_15ec4) 1 = .ok (.aload_n 1, 1) := by decide +kernel
theorem qJ4_append_15ec4_2 : decode (mB mJ4_append_15ec4) 2 = .ok (.invokespecial 29, 3) := by decide +kernel
theorem qJ4_append_15ec4_5 : decode (mB mJ4_append_15ec4) 5 = .ok (.pop, 1) := by decide +kernel
theorem qJ4_append_15ec4_6 : decode (mB mJ4_append_15ec4) 6 = .ok (.aload_n 0, 1) := by decide +kernel
theorem qJ4_append_15ec4_7 : decode (mB mJ4_append_15ec4) 7 = .ok (.areturn, 1) := by decide +kernel
theorem qJ4_append_bf812_0 : decode (mB mJ4_append_bf812) 0 = .ok (.aload_n 0, 1) := by decide +kernel
theorem qJ4_append_bf812_1 : decode (mB mJ4_append_bf812) 1 = .ok (.iload_n 1, 1) := by decide +kernel
theorem qJ4_append_bf812_2 : decode (mB mJ4_append_bf812) 2 = .ok (.invokespecial 53, 3) := by decide +kernel
theorem qJ4_append_bf812_5 : decode (mB mJ4_append_bf812) 5 = .ok (.pop, 1) := by decide +kernel
theorem qJ4_append_bf812_6 : decode (mB mJ4_append_bf812) 6 = .ok (.aload_n 0, 1) := by decide +kernel
theorem qJ4_append_bf812_7 : decode (mB mJ4_append_bf812) 7 = .ok (.areturn, 1) := by decide +kernel
theorem qJ4_append_cf1ce_0 : decode (mB mJ4_append_cf1ce) 0 = .ok (.aload_n 0, 1) := by decide +kernel
theorem qJ4_append_cf1ce_1 : decode (mB mJ4_append_cf1ce) 1 = .ok (.aload_n 1, 1) := by decide +kernel
theorem qJ4_append_cf1ce_2 : decode (mB mJ4_append_cf1ce) 2 = .ok (.invokevirtual 23, 3) := by decide +kernel
theorem qJ4_append_cf1ce_5 : decode (mB mJ4_append_cf1ce) 5 = .ok (.areturn, 1) := by decide +kernel
theorem qJ4_init_a7421_0 : decode (mB mJ4_init_a7421) 0 = .ok (.aload_n 0, 1) := by decide +kernel
theorem qJ4_init_a7421_1 : decode (mB mJ4_init_a7421) 1 = .ok (.aload_n 1, 1) := by decide +kernel
theorem qJ4_init_a7421_2 : decode (mB mJ4_init_a7421) 2 = .ok (.invokespecial 7, 3) := by decide +kernel
theorem qJ4_init_a7421_5 : decode (mB mJ4_init_a7421) 5 = .ok (.return_, 1) := by decide +kernel
theorem qJ4_init_da8c8_0 : decode (mB mJ4_init_da8c8) 0 = .ok (.aload_n 0, 1) := by decide +kernel
theorem qJ4_init_da8c8_1 : decode (mB mJ4_init_da8c8) 1 = .ok (.bipush 16, 2) := by decide +kernel
theorem qJ4_init_da8c8_3 : decode (mB mJ4_init_da8c8) 3 = .ok (.invokespecial 1, 3) := by decide +kernel
theorem qJ4_init_da8c8_6 : decode (mB mJ4_init_da8c8) 6 = .ok (.return_, 1) := by decide +kernel
theorem qJ4_length_8abf5_0 : decode (mB mJ4_length_8abf5) 0 = .ok (.aload_n 0, 1) := by decide +kernel
theorem qJ4_length_8abf5_1 : decode (mB mJ4_length_8abf5) 1 = .ok (.invokespecial 343, 3) := by decide +kernel
theorem qJ4_length_8abf5_4 : decode (mB mJ4_length_8abf5) 4 = .ok (.ireturn, 1) := by decide +kernel
theorem qJ4_toString_0e30d_0 : decode (mB mJ4_toString_0e30d) 0 = .ok (.new 18, 3) := by decide +kernel
theorem qJ4_toString_0e30d_3 : decode (mB mJ4_toString_0e30d) 3 = .ok (.dup, 1) := by decide +kernel
theorem qJ4_toString_0e30d_4 : decode (mB mJ4_toString_0e30d) 4 = .ok (.aload_n 0, 1) := by decide +kernel
theorem qJ4_toString_0e30d_5 : decode (mB mJ4_toString_0e30d) 5 = .ok (.invokespecial 137, 3) := by decide +kernel
theorem qJ4_toString_0e30d_8 : decode (mB mJ4_toString_0e30d) 8 = .ok (.areturn, 1) := by decide +kernel
theorem qJ5_appendNull_278bc_0 : decode (mB mJ5_appendNull_278bc) 0 = .ok (.aload_n 0, 1) := by decide +kernel
theorem qJ5_appendNull_278bc_1 : decode (mB mJ5_appendNull_278bc) 1 = .ok (.aload_n 0, 1) := by decide +kernel
theorem qJ5_appendNull_278bc_2 : decode (mB mJ5_appendNull_278bc) 2 = .ok (.getfield 79, 3) := by decide +kernel
theorem qJ5_appendNull_278bc_5 : decode (mB mJ5_appendNull_278bc) 5 = .ok (.iconst 4, 1) := by decide +kernel
theorem qJ5_appendNull_278bc_6 : decode (mB mJ5_appendNull_278bc) 6 = .ok (.iadd, 1) := by decide +kernel
theorem qJ5_appendNull_278bc_7 : decode (mB mJ5_appendNull_278bc) 7 = .ok (.invokevirtual 100, 3) := by decide +kernel
theorem qJ5_appendNull_278bc_10 : decode (mB mJ5_appendNull_278bc) 10 = .ok (.aload_n 0, 1) := by decide +kernel
theorem qJ5_appendNull_278bc_11 : decode (mB mJ5_appendNull_278bc) 11 = .ok (.getfield 79, 3) := by decide +kernel
theorem qJ5_appendNull_278bc_14 : decode (mB mJ5_appendNull_278bc) 14 = .ok (.istore_n 1, 1) := by decide +kernel
theorem qJ5_appendNull_278bc_15 : decode (mB mJ5_appendNull_278bc) 15 = .ok (.aload_n 0, 1) := by decide +kernel
theorem qJ5_appendNull_278bc_16 : decode (mB mJ5_appendNull_278bc) 16 = .ok (.getfield 15, 3) := by decide +kernel
theorem qJ5_appendNull_278bc_19 : decode (mB mJ5_appendNull_278bc) 19 = .ok (.astore_n 2, 1) := by decide +kernel
theorem qJ5_appendNull_278bc_20 : decode (mB mJ5_appendNull_278bc) 20 = .ok (.aload_n 0, 1) := by decide +kernel
theorem qJ5_appendNull_278bc_21 : decode (mB mJ5_appendNull_278bc) 21 = .ok (.invokevirtual 83, 3) := by decide +kernel
theorem qJ5_appendNull_278bc_24 : decode (mB mJ5_appendNull_278bc) 24 = .ok (.ifCond .eq 38, 3) := by decide +kernel
theorem qJ5_appendNull_278bc_27 : decode (mB mJ5_appendNull_278bc) 27 = .ok (.aload_n 2, 1) := by decide +kernel
theorem qJ5_appendNull_278bc_28 : decode (mB mJ5_appendNull_278bc) 28 = .ok (.iload_n 1, 1) := by decide +kernel
theorem qJ5_appendNull_278bc_29 : decode (mB mJ5_appendNull_278bc) 29 = .ok (.iinc 1 1, 3) := by decide +kernel
theorem qJ5_appendNull_278bc_32 : decode (mB mJ5_appendNull_278bc) 32 = .ok (.bipush 110, 2) := by decide +kernel
theorem qJ5_appendNull_278bc_34 : decode (mB mJ5_appendNull_278bc) 34 = .ok (.bastore, 1) := by decide +kernel
theorem qJ5_appendNull_278bc_35 : decode (mB mJ5_appendNull_278bc) 35 = .ok (.aload_n 2, 1) := by decide +kernel
theorem qJ5_appendNull_278bc_36 : decode (mB mJ5_appendNull_278bc) 36 = .ok (.iload_n 1, 1) := by decide +kernel
theorem qJ5_appendNull_278bc_37 : decode (mB mJ5_appendNull_278bc) 37 = .ok (.iinc 1 1, 3) := by decide +kernel
theorem qJ5_appendNull_278bc_40 : decode (mB mJ5_appendNull_278bc) 40 = .ok (.bipush 117, 2) := by decide +kernel
theorem qJ5_appendNull_278bc_42 : decode (mB mJ5_appendNull_278bc) 42 = .ok (.bastore, 1) := by decide +kernel
theorem qJ5_appendNull_278bc_43 : decode (mB mJ5_appendNull_278bc) 43 = .ok (.aload_n 2, 1) := by decide +kernel
theorem qJ5_appendNull_278bc_44 : decode (mB mJ5_appendNull_278bc) 44 = .ok (.iload_n 1, 1) := by decide +kernel
theorem qJ5_appendNull_278bc_45 : decode (mB mJ5_appendNull_278bc) 45 = .ok (.iinc 1 1, 3) := by decide +kernel
theorem qJ5_appendNull_278bc_48 : decode (mB mJ5_appendNull_278bc) 48 = .ok (.bipush 108, 2) := by decide +kernel
theorem qJ5_appendNull_278bc_50 : decode (mB mJ5_appendNull_278bc) 50 = .ok (.bastore, 1) := by decide +kernel
theorem qJ5_appendNull_278bc_51 : decode (mB mJ5_appendNull_278bc) 51 = .ok (.aload_n 2, 1) := by decide +kernel
theorem qJ5_appendNull_278bc_52 : decode (mB mJ5_appendNull_278bc) 52 = .ok (.iload_n 1, 1) := by decide +kernel
theorem qJ5_appendNull_278bc_53 : decode (mB mJ5_appendNull_278bc) 53 = .ok (.iinc 1 1, 3) := by decide +kernel
theorem qJ5_appendNull_278bc_56 : decode (mB mJ5_appendNull_278bc) 56 = .ok (.bipush 108, 2) := by decide +kernel
theorem qJ5_appendNull_278bc_58 : decode (mB mJ5_appendNull_278bc) 58 = .ok (.bastore, 1) := by decide +kernel
theorem qJ5_appendNull_278bc_59 : decode (mB mJ5_appendNull_278bc) 59 = .ok (.goto 17, 3) := by decide +kernel
theorem qJ5_appendNull_278bc_62 : decode (mB mJ5_appendNull_278bc) 62 = .ok (.aload_n 2, 1) := by decide +kernel
theorem qJ5_appendNull_278bc_63 : decode (mB mJ5_appendNull_278bc) 63 = .ok (.iload_n 1, 1) := by decide +kernel
theorem qJ5_appendNull_278bc_64 : decode (mB mJ5_appendNull_278bc) 64 = .ok (.bipush 110, 2) := by decide +kernel
theorem qJ5_appendNull_278bc_66 : decode (mB mJ5_appendNull_278bc) 66 = .ok (.bipush 117, 2) := by decide +kernel
theorem qJ5_appendNull_278bc_68 : decode (mB mJ5_appendNull_278bc) 68 = .ok (.bipush 108, 2) := by decide +kernel
theorem qJ5_appendNull_278bc_70 : decode (mB mJ5_appendNull_278bc) 70 = .ok (.bipush 108, 2) := by decide +kernel
theorem qJ5_appendNull_278bc_72 : decode (mB mJ5_appendNull_278bc) 72 = .ok (.invokestatic 226, 3) := by decide +kernel
theorem qJ5_appendNull_278bc_75 : decode (mB mJ5_appendNull_278bc) 75 = .ok (.istore_n 1, 1) := by decide +kernel
theorem qJ5_appendNull_278bc_76 : decode (mB mJ5_appendNull_278bc) 76 = .ok (.aload_n 0, 1) := by decide +kernel
theorem qJ5_appendNull_278bc_77 : decode (mB mJ5_appendNull_278bc) 77 = .ok (.iload_n 1, 1) := by decide +kernel
theorem qJ5_appendNull_278bc_78 : decode (mB mJ5_appendNull_278bc) 78 = .ok (.putfield 79, 3) := by decide +kernel
theorem qJ5_appendNull_278bc_81 : decode (mB mJ5_appendNull_278bc) 81 = .ok (.aload_n 0, 1) := by decide +kernel
theorem qJ5_appendNull_278bc_82 : decode (mB mJ5_appendNull_278bc) 82 = .ok (.areturn, 1) := by decide +kernel
theorem qJ5_append_c97b9_0 : decode (mB mJ5_append_c97b9) 0 = .ok (.aload_n 0, 1) := by decide +kernel
theorem qJ5_append_c97b9_1 : decode (mB mJ5_append_c97b9) 1 = .ok (.getfield 79, 3) := by decide +kernel
theorem qJ5_append_c97b9_4 : decode (mB mJ5_append_c97b9) 4 = .ok (.istore_n 2, 1) := by decide +kernel
theorem qJ5_append_c97b9_5 : decode (mB mJ5_append_c97b9) 5 = .ok (.iload_n 2, 1) := by decide +kernel
theorem qJ5_append_c97b9_6 : decode (mB mJ5_append_c97b9) 6 = .ok (.iload_n 1, 1) := by decide +kernel
theorem qJ5_append_c97b9_7 : decode (mB mJ5_append_c97b9) 7 = .ok (.invokestatic 245, 3) := by decide +kernel
theorem qJ5_append_c97b9_10 : decode (mB mJ5_append_c97b9) 10 = .ok (.iadd, 1) := by decide +kernel
theorem qJ5_append_c97b9_11 : decode (mB mJ5_append_c97b9) 11 = .ok (.istore_n 3, 1) := by decide +kernel
theorem qJ5_append_c97b9_12 : decode (mB mJ5_append_c97b9) 12 = .ok (.aload_n 0, 1) := by decide +kernel
theorem qJ5_append_c97b9_13 : decode (mB mJ5_append_c97b9) 13 = .ok (.iload_n 3, 1) := by decide +kernel
theorem qJ5_append_c97b9_14 : decode (mB mJ5_append_c97b9) 14 = .ok (.invokevirtual 100, 3) := by decide +kernel
theorem qJ5_append_c97b9_17 : decode (mB mJ5_append_c97b9) 17 = .ok (.aload_n 0, 1) := by decide +kernel
theorem qJ5_append_c97b9_18 : decode (mB mJ5_append_c97b9) 18 = .ok (.invokevirtual 83, 3) := by decide +kernel
theorem qJ5_append_c97b9_21 : decode (mB mJ5_append_c97b9) 21 = .ok (.ifCond .eq 16, 3) := by decide +kernel
theorem qJ5_append_c97b9_24 : decode (mB mJ5_append_c97b9) 24 = .ok (.iload_n 1, 1) := by decide +kernel
theorem qJ5_append_c97b9_25 : decode (mB mJ5_append_c97b9) 25 = .ok (.iload_n 3, 1) := by decide +kernel
theorem qJ5_append_c97b9_26 : decode (mB mJ5_append_c97b9) 26 = .ok (.aload_n 0, 1) := by decide +kernel
theorem qJ5_append_c97b9_27 : decode (mB mJ5_append_c97b9) 27 = .ok (.getfield 15, 3) := by decide +kernel
theorem qJ5_append_c97b9_30 : decode (mB mJ5_append_c97b9) 30 = .ok (.invokestatic 248, 3) := by decide +kernel
theorem qJ5_append_c97b9_33 : decode (mB mJ5_append_c97b9) 33 = .ok (.pop, 1) := by decide +kernel
theorem qJ5_append_c97b9_34 : decode (mB mJ5_append_c97b9) 34 = .ok (.goto 14, 3) := by decide +kernel
theorem qJ5_append_c97b9_37 : decode (mB mJ5_append_c97b9) 37 = .ok (.iload_n 1, 1) := by decide +kernel
theorem qJ5_append_c97b9_38 : decode (mB mJ5_append_c97b9) 38 = .ok (.iload_n 2, 1) := by decide +kernel
theorem qJ5_append_c97b9_39 : decode (mB mJ5_append_c97b9) 39 = .ok (.iload_n 3, 1) := by decide +kernel
theorem qJ5_append_c97b9_40 : decode (mB mJ5_append_c97b9) 40 = .ok (.aload_n 0, 1) := by decide +kernel
theorem qJ5_append_c97b9_41 : decode (mB mJ5_append_c97b9) 41 = .ok (.getfield 15, 3) := by decide +kernel
theorem qJ5_append_c97b9_44 : decode (mB mJ5_append_c97b9) 44 = .ok (.invokestatic 251, 3) := by decide +kernel
theorem qJ5_append_c97b9_47 : decode (mB mJ5_append_c97b9) 47 = .ok (.pop, 1) := by decide +kernel
theorem qJ5_append_c97b9_48 : decode (mB mJ5_append_c97b9) 48 = .ok (.aload_n 0, 1) := by decide +kernel
theorem qJ5_append_c97b9_49 : decode (mB mJ5_append_c97b9) 49 = .ok (.iload_n 3, 1) := by decide +kernel
theorem qJ5_append_c97b9_50 : decode (mB mJ5_append_c97b9) 50 = .ok (.putfield 79, 3) := by decide +kernel
theorem qJ5_append_c97b9_53 : decode (mB mJ5_append_c97b9) 53 = .ok (.aload_n 0, 1) := by decide +kernel
theorem qJ5_append_c97b9_54 : decode (mB mJ5_append_c97b9) 54 = .ok (.areturn, 1) := by decide +kernel
theorem qJ5_append_cf1ce_0 : decode (mB mJ5_append_cf1ce) 0 = .ok (.aload_n 1, 1) := by decide +kernel
theorem qJ5_append_cf1ce_1 : decode (mB mJ5_append_cf1ce) 1 = .ok (.ifnonnull 8, 3) := by decide +kernel
theorem qJ5_append_cf1ce_4 : decode (mB mJ5_append_cf1ce) 4 = .ok (.aload_n 0, 1) := by decide +kernel
theorem qJ5_append_cf1ce_5 : decode (mB mJ5_append_cf1ce) 5 = .ok (.invokevirtual 204, 3) := by decide +kernel
theorem qJ5_append_cf1ce_8 : decode (mB mJ5_append_cf1ce) 8 = .ok (.areturn, 1) := by decide +kernel
theorem qJ5_append_cf1ce_9 : decode (mB mJ5_append_cf1ce) 9 = .ok (.aload_n 1, 1) := by decide +kernel
theorem qJ5_append_cf1ce_10 : decode (mB mJ5_append_cf1ce) 10 = .ok (.invokevirtual 32, 3) := by decide +kernel
theorem qJ5_append_cf1ce_13 : decode (mB mJ5_append_cf1ce) 13 = .ok (.istore_n 2, 1) := by decide +kernel
theorem qJ5_append_cf1ce_14 : decode (mB mJ5_append_cf1ce) 14 = .ok (.aload_n 0, 1) := by decide +kernel
theorem qJ5_append_cf1ce_15 : decode (mB mJ5_append_cf1ce) 15 = .ok (.aload_n 0, 1) := by decide +kernel
theorem qJ5_append_cf1ce_16 : decode (mB mJ5_append_cf1ce) 16 = .ok (.getfield 79, 3) := by decide +kernel
theorem qJ5_append_cf1ce_19 : decode (mB mJ5_append_cf1ce) 19 = .ok (.iload_n 2, 1) := by decide +kernel
theorem qJ5_append_cf1ce_20 : decode (mB mJ5_append_cf1ce) 20 = .ok (.iadd, 1) := by decide +kernel
theorem qJ5_append_cf1ce_21 : decode (mB mJ5_append_cf1ce) 21 = .ok (.invokevirtual 100, 3) := by decide +kernel
theorem qJ5_append_cf1ce_24 : decode (mB mJ5_append_cf1ce) 24 = .ok (.aload_n 0, 1) := by decide +kernel
theorem qJ5_append_cf1ce_25 : decode (mB mJ5_append_cf1ce) 25 = .ok (.aload_n 0, 1) := by decide +kernel
theorem qJ5_append_cf1ce_26 : decode (mB mJ5_append_cf1ce) 26 = .ok (.getfield 79, 3) := by decide +kernel
theorem qJ5_append_cf1ce_29 : decode (mB mJ5_append_cf1ce) 29 = .ok (.aload_n 1, 1) := by decide +kernel
theorem qJ5_append_cf1ce_30 : decode (mB mJ5_append_cf1ce) 30 = .ok (.invokevirtual 208, 3) := by decide +kernel
theorem qJ5_append_cf1ce_33 : decode (mB mJ5_append_cf1ce) 33 = .ok (.aload_n 0, 1) := by decide +kernel
theorem qJ5_append_cf1ce_34 : decode (mB mJ5_append_cf1ce) 34 = .ok (.dup, 1) := by decide +kernel
theorem qJ5_append_cf1ce_35 : decode (mB mJ5_append_cf1ce) 35 = .ok (.getfield 79, 3) := by decide +kernel
theorem qJ5_append_cf1ce_38 : decode (mB mJ5_append_cf1ce) 38 = .ok (.iload_n 2, 1) := by decide +kernel
theorem qJ5_append_cf1ce_39 : decode (mB mJ5_append_cf1ce) 39 = .ok (.iadd, 1) := by decide +kernel
theorem qJ5_append_cf1ce_40 : decode (mB mJ5_append_cf1ce) 40 = .ok (.putfield 79, 3) := by decide +kernel
theorem qJ5_append_cf1ce_43 : decode (mB mJ5_append_cf1ce) 43 = .ok (.aload_n 0, 1) := by decide +kernel
theorem qJ5_append_cf1ce_44 : decode (mB mJ5_append_cf1ce) 44 = .ok (.areturn, 1) := by decide +kernel
theorem qJ5_ensureCapacityInternal_d00df_0 : decode (mB mJ5_ensureCapacityInternal_d00df) 0 = .ok (.aload_n 0, 1) := by decide +kernel
theorem qJ5_ensureCapacityInternal_d00df_1 : decode (mB mJ5_ensureCapacityInternal_d00df) 1 = .ok (.getfield 15, 3) := by decide +kernel
theorem qJ5_ensureCapacityInternal_d00df_4 : decode (mB mJ5_ensureCapacityInternal_d00df) 4 = .ok (.arraylength, 1) := by decide +kernel
theorem qJ5_ensureCapacityInternal_d00df_5 : decode (mB mJ5_ensureCapacityInternal_d00df) 5 = .ok (.aload_n 0, 1) := by decide +kernel
theorem qJ5_ensureCapacityInternal_d00df_6 : decode (mB mJ5_ensureCapacityInternal_d00df) 6 = .ok (.getfield 22, 3) := by decide +kernel
theorem qJ5_ensureCapacityInternal_d00df_9 : decode (mB mJ5_ensureCapacityInternal_d00df) 9 = .ok (.ishr, 1) := by decide +kernel
theorem qJ5_ensureCapacityInternal_d00df_10 : decode (mB mJ5_ensureCapacityInternal_d00df) 10 = .ok (.istore_n 2, 1) := by decide +kernel
theorem qJ5_ensureCapacityInternal_d00df_11 : decode (mB mJ5_ensureCapacityInternal_d00df) 11 = .ok (.iload_n 1, 1) := by decide +kernel
theorem qJ5_ensureCapacityInternal_d00df_12 : decode (mB mJ5_ensureCapacityInternal_d00df) 12 = .ok (.iload_n 2, 1) := by decide +kernel
theorem qJ5_ensureCapacityInternal_d00df_13 : decode (mB mJ5_ensureCapacityInternal_d00df) 13 = .ok (.isub, 1) := by decide +kernel
theorem qJ5_ensureCapacityInternal_d00df_14 : decode (mB mJ5_ensureCapacityInternal_d00df) 14 = .ok (.ifCond .le 24, 3) := by decide +kernel
theorem qJ5_ensureCapacityInternal_d00df_17 : decode (mB mJ5_ensureCapacityInternal_d00df) 17 = .ok (.aload_n 0, 1) := by decide +kernel
theorem qJ5_ensureCapacityInternal_d00df_18 : decode (mB mJ5_ensureCapacityInternal_d00df) 18 = .ok (.aload_n 0, 1) := by decide +kernel
theorem qJ5_ensureCapacityInternal_d00df_19 : decode (mB mJ5_ensureCapacityInternal_d00df) 19 = .ok (.getfield 15, 3) := by decide +kernel
theorem qJ5_ensureCapacityInternal_d00df_22 : decode (mB mJ5_ensureCapacityInternal_d00df) 22 = .ok (.aload_n 0, 1) := by decide +kernel
theorem qJ5_ensureCapacityInternal_d00df_23 : decode (mB mJ5_ensureCapacityInternal_d00df) 23 = .ok (.iload_n 1, 1) := by decide +kernel
theorem qJ5_ensureCapacityInternal_d00df_24 : decode (mB mJ5_ensureCapacityInternal_d00df) 24 = .ok (.invokevirtual 104, 3) := by decide +kernel
theorem qJ5_ensureCapacityInternal_d00df_27 : decode (mB mJ5_ensureCapacityInternal_d00df) 27 = .ok (.aload_n 0, 1) := by decide +kernel
theorem qJ5_ensureCapacityInternal_d00df_28 : decode (mB mJ5_ensureCapacityInternal_d00df) 28 = .ok (.getfield 22, 3) := by decide +kernel
theorem qJ5_ensureCapacityInternal_d00df_31 : decode (mB mJ5_ensureCapacityInternal_d00df) 31 = .ok (.ishl, 1) := by decide +kernel
theorem qJ5_ensureCapacityInternal_d00df_32 : decode (mB mJ5_ensureCapacityInternal_d00df) 32 = .ok (.invokestatic 108, 3) := by decide +kernel
theorem qJ5_ensureCapacityInternal_d00df_35 : decode (mB mJ5_ensureCapacityInternal_d00df) 35 = .ok (.putfield 15, 3) := by decide +kernel
theorem qJ5_ensureCapacityInternal_d00df_38 : decode (mB mJ5_ensureCapacityInternal_d00df) 38 = .ok (.return_, 1) := by decide +kernel
theorem qJ5_getValue_6d5f1_0 : decode (mB mJ5_getValue_6d5f1) 0 = .ok (.aload_n 0, 1) := by decide +kernel
theorem qJ5_getValue_6d5f1_1 : decode (mB mJ5_getValue_6d5f1) 1 = .ok (.getfield 15, 3) := by decide +kernel
theorem qJ5_getValue_6d5f1_4 : decode (mB mJ5_getValue_6d5f1) 4 = .ok (.areturn, 1) := by decide +kernel
theorem qJ5_inflateIfNeededFor_a7421_0 : decode (mB mJ5_inflateIfNeededFor_a7421) 0 = .ok (.getstatic 18, 3) := by decide +kernel
theorem qJ5_inflateIfNeededFor_a7421_3 : decode (mB mJ5_inflateIfNeededFor_a7421) 3 = .ok (.ifCond .eq 18, 3) := by decide +kernel
theorem qJ5_inflateIfNeededFor_a7421_6 : decode (mB mJ5_inflateIfNeededFor_a7421) 6 = .ok (.aload_n 0, 1) := by decide +kernel
theorem qJ5_inflateIfNeededFor_a7421_7 : decode (mB mJ5_inflateIfNeededFor_a7421) 7 = .ok (.getfield 22, 3) := by decide +kernel
theorem qJ5_inflateIfNeededFor_a7421_10 : decode (mB mJ5_inflateIfNeededFor_a7421) 10 = .ok (.aload_n 1, 1) := by decide +kernel
theorem qJ5_inflateIfNeededFor_a7421_11 : decode (mB mJ5_inflateIfNeededFor_a7421) 11 = .ok (.invokevirtual 40, 3) := by decide +kernel
theorem qJ5_inflateIfNeededFor_a7421_14 : decode (mB mJ5_inflateIfNeededFor_a7421) 14 = .ok (.if_icmp .eq 7, 3) := by decide +kernel
theorem qJ5_inflateIfNeededFor_a7421_17 : decode (mB mJ5_inflateIfNeededFor_a7421) 17 = .ok (.aload_n 0, 1) := by decide +kernel
theorem qJ5_inflateIfNeededFor_a7421_18 : decode (mB mJ5_inflateIfNeededFor_a7421) 18 = .ok (.invokevirtual 195, 3) := by decide +kernel
theorem qJ5_inflateIfNeededFor_a7421_21 : decode (mB mJ5_inflateIfNeededFor_a7421) 21 = .ok (.return_, 1) := by decide +kernel
theorem qJ5_inflate_da8c8_0 : decode (mB mJ5_inflate_da8c8) 0 = .ok (.aload_n 0, 1) := by decide +kernel
theorem qJ5_inflate_da8c8_1 : decode (mB mJ5_inflate_da8c8) 1 = .ok (.invokevirtual 83, 3) := by decide +kernel
theorem qJ5_inflate_da8c8_4 : decode (mB mJ5_inflate_da8c8) 4 = .ok (.ifCond .ne 4, 3) := by decide +kernel
theorem qJ5_inflate_da8c8_7 : decode (mB mJ5_inflate_da8c8) 7 = .ok (.return_, 1) := by decide +kernel
theorem qJ5_inflate_da8c8_8 : decode (mB mJ5_inflate_da8c8) 8 = .ok (.aload_n 0, 1) := by decide +kernel
theorem qJ5_inflate_da8c8_9 : decode (mB mJ5_inflate_da8c8) 9 = .ok (.getfield 15, 3) := by decide +kernel
theorem qJ5_inflate_da8c8_12 : decode (mB mJ5_inflate_da8c8) 12 = .ok (.arraylength, 1) := by decide +kernel
theorem qJ5_inflate_da8c8_13 : decode (mB mJ5_inflate_da8c8) 13 = .ok (.invokestatic 26, 3) := by decide +kernel
theorem qJ5_inflate_da8c8_16 : decode (mB mJ5_inflate_da8c8) 16 = .ok (.astore_n 1, 1) := by decide +kernel
theorem qJ5_inflate_da8c8_17 : decode (mB mJ5_inflate_da8c8) 17 = .ok (.aload_n 0, 1) := by decide +kernel
theorem qJ5_inflate_da8c8_18 : decode (mB mJ5_inflate_da8c8) 18 = .ok (.getfield 15, 3) := by decide +kernel
theorem qJ5_inflate_da8c8_21 : decode (mB mJ5_inflate_da8c8) 21 = .ok (.iconst 0, 1) := by decide +kernel
theorem qJ5_inflate_da8c8_22 : decode (mB mJ5_inflate_da8c8) 22 = .ok (.aload_n 1, 1) := by decide +kernel
theorem qJ5_inflate_da8c8_23 : decode (mB mJ5_inflate_da8c8) 23 = .ok (.iconst 0, 1) := by decide +kernel
theorem qJ5_inflate_da8c8_24 : decode (mB mJ5_inflate_da8c8) 24 = .ok (.aload_n 0, 1) := by decide +kernel
theorem qJ5_inflate_da8c8_25 : decode (mB mJ5_inflate_da8c8) 25 = .ok (.getfield 79, 3) := by decide +kernel
theorem qJ5_inflate_da8c8_28 : decode (mB mJ5_inflate_da8c8) 28 = .ok (.invokestatic 125, 3) := by decide +kernel
theorem qJ5_inflate_da8c8_31 : decode (mB mJ5_inflate_da8c8) 31 = .ok (.aload_n 0, 1) := by decide +kernel
theorem qJ5_inflate_da8c8_32 : decode (mB mJ5_inflate_da8c8) 32 = .ok (.aload_n 1, 1) := by decide +kernel
theorem qJ5_inflate_da8c8_33 : decode (mB mJ5_inflate_da8c8) 33 = .ok (.putfield 15, 3) := by decide +kernel
theorem qJ5_inflate_da8c8_36 : decode (mB mJ5_inflate_da8c8) 36 = .ok (.aload_n 0, 1) := by decide +kernel
theorem qJ5_inflate_da8c8_37 : decode (mB mJ5_inflate_da8c8) 37 = .ok (.iconst 1, 1) := by decide +kernel
theorem qJ5_inflate_da8c8_38 : decode (mB mJ5_inflate_da8c8) 38 = .ok (.putfield 22, 3) := by decide +kernel
theorem qJ5_inflate_da8c8_41 : decode (mB mJ5_inflate_da8c8) 41 = .ok (.return_, 1) := by decide +kernel
theorem qJ5_init_a7421_0 : decode (mB mJ5_init_a7421) 0 = .ok (.aload_n 0, 1) := by decide +kernel
theorem qJ5_init_a7421_1 : decode (mB mJ5_init_a7421) 1 = .ok (.invokespecial 3, 3) := by decide +kernel
theorem qJ5_init_a7421_4 : decode (mB mJ5_init_a7421) 4 = .ok (.aload_n 1, 1) := by decide +kernel
theorem qJ5_init_a7421_5 : decode (mB mJ5_init_a7421) 5 = .ok (.invokevirtual 32, 3) := by decide +kernel
theorem qJ5_init_a7421_8 : decode (mB mJ5_init_a7421) 8 = .ok (.istore_n 2, 1) := by decide +kernel
theorem qJ5_init_a7421_9 : decode (mB mJ5_init_a7421) 9 = .ok (.iload_n 2, 1) := by decide +kernel
theorem qJ5_init_a7421_10 : decode (mB mJ5_init_a7421) 10 = .ok (.ldc 38, 2) := by decide +kernel
theorem qJ5_init_a7421_12 : decode (mB mJ5_init_a7421) 12 = .ok (.if_icmp .ge 10, 3) := by decide +kernel
theorem qJ5_init_a7421_15 : decode (mB mJ5_init_a7421) 15 = .ok (.iload_n 2, 1) := by decide +kernel
theorem qJ5_init_a7421_16 : decode (mB mJ5_init_a7421) 16 = .ok (.bipush 16, 2) := by decide +kernel
theorem qJ5_init_a7421_18 : decode (mB mJ5_init_a7421) 18 = .ok (.iadd, 1) := by decide +kernel
theorem qJ5_init_a7421_19 : decode (mB mJ5_init_a7421) 19 = .ok (.goto 5, 3) := by decide +kernel
theorem qJ5_init_a7421_22 : decode (mB mJ5_init_a7421) 22 = .ok (.ldc 39, 2) := by decide +kernel
theorem qJ5_init_a7421_24 : decode (mB mJ5_init_a7421) 24 = .ok (.istore_n 3, 1) := by decide +kernel
theorem qJ5_init_a7421_25 : decode (mB mJ5_init_a7421) 25 = .ok (.aload_n 1, 1) := by decide +kernel
theorem qJ5_init_a7421_26 : decode (mB mJ5_init_a7421) 26 = .ok (.invokevirtual 40, 3) := by decide +kernel
theorem qJ5_init_a7421_29 : decode (mB mJ5_init_a7421) 29 = .ok (.istore 4, 2) := by decide +kernel
theorem qJ5_init_a7421_31 : decode (mB mJ5_init_a7421) 31 = .ok (.aload_n 0, 1) := by decide +kernel
theorem qJ5_init_a7421_32 : decode (mB mJ5_init_a7421) 32 = .ok (.iload 4, 2) := by decide +kernel
theorem qJ5_init_a7421_34 : decode (mB mJ5_init_a7421) 34 = .ok (.putfield 22, 3) := by decide +kernel
theorem qJ5_init_a7421_37 : decode (mB mJ5_init_a7421) 37 = .ok (.aload_n 0, 1) := by decide +kernel
theorem qJ5_init_a7421_38 : decode (mB mJ5_init_a7421) 38 = .ok (.iload 4, 2) := by decide +kernel
theorem qJ5_init_a7421_40 : decode (mB mJ5_init_a7421) 40 = .ok (.ifCond .ne 9, 3) := by decide +kernel
theorem qJ5_init_a7421_43 : decode (mB mJ5_init_a7421) 43 = .ok (.iload_n 3, 1) := by decide +kernel
theorem qJ5_init_a7421_44 : decode (mB mJ5_init_a7421) 44 = .ok (.newarray .byte, 2) := by decide +kernel
theorem qJ5_init_a7421_46 : decode (mB mJ5_init_a7421) 46 = .ok (.goto 7, 3) := by decide +kernel
theorem qJ5_init_a7421_49 : decode (mB mJ5_init_a7421) 49 = .ok (.iload_n 3, 1) := by decide +kernel
theorem qJ5_init_a7421_50 : decode (mB mJ5_init_a7421) 50 = .ok (.invokestatic 26, 3) := by decide +kernel
theorem qJ5_init_a7421_53 : decode (mB mJ5_init_a7421) 53 = .ok (.putfield 15, 3) := by decide +kernel
theorem qJ5_init_a7421_56 : decode (mB mJ5_init_a7421) 56 = .ok (.aload_n 0, 1) := by decide +kernel
theorem qJ5_init_a7421_57 : decode (mB mJ5_init_a7421) 57 = .ok (.aload_n 1, 1) := by decide +kernel
theorem qJ5_init_a7421_58 : decode (mB mJ5_init_a7421) 58 = .ok (.invokevirtual 43, 3) := by decide +kernel
theorem qJ5_init_a7421_61 : decode (mB mJ5_init_a7421) 61 = .ok (.pop, 1) := by decide +kernel
theorem qJ5_init_a7421_62 : decode (mB mJ5_init_a7421) 62 = .ok (.return_, 1) := by decide +kernel
theorem qJ5_init_d00df_0 : decode (mB mJ5_init_d00df) 0 = .ok (.aload_n 0, 1) := by decide +kernel
theorem qJ5_init_d00df_1 : decode (mB mJ5_init_d00df) 1 = .ok (.invokespecial 3, 3) := by decide +kernel
theorem qJ5_init_d00df_4 : decode (mB mJ5_init_d00df) 4 = .ok (.getstatic 18, 3) := by decide +kernel
theorem qJ5_init_d00df_7 : decode (mB mJ5_init_d00df) 7 = .ok (.ifCond .eq 18, 3) := by decide +kernel
theorem qJ5_init_d00df_10 : decode (mB mJ5_init_d00df) 10 = .ok (.aload_n 0, 1) := by decide +kernel
theorem qJ5_init_d00df_11 : decode (mB mJ5_init_d00df) 11 = .ok (.iload_n 1, 1) := by decide +kernel
theorem qJ5_init_d00df_12 : decode (mB mJ5_init_d00df) 12 = .ok (.newarray .byte, 2) := by decide +kernel
theorem qJ5_init_d00df_14 : decode (mB mJ5_init_d00df) 14 = .ok (.putfield 15, 3) := by decide +kernel
theorem qJ5_init_d00df_17 : decode (mB mJ5_init_d00df) 17 = .ok (.aload_n 0, 1) := by decide +kernel
theorem qJ5_init_d00df_18 : decode (mB mJ5_init_d00df) 18 = .ok (.iconst 0, 1) := by decide +kernel
theorem qJ5_init_d00df_19 : decode (mB mJ5_init_d00df) 19 = .ok (.putfield 22, 3) := by decide +kernel
theorem qJ5_init_d00df_22 : decode (mB mJ5_init_d00df) 22 = .ok (.goto 16, 3) := by decide +kernel
theorem qJ5_init_d00df_25 : decode (mB mJ5_init_d00df) 25 = .ok (.aload_n 0, 1) := by decide +kernel
theorem qJ5_init_d00df_26 : decode (mB mJ5_init_d00df) 26 = .ok (.iload_n 1, 1) := by decide +kernel
theorem qJ5_init_d00df_27 : decode (mB mJ5_init_d00df) 27 = .ok (.invokestatic 26, 3) := by decide +kernel
theorem qJ5_init_d00df_30 : decode (mB mJ5_init_d00df) 30 = .ok (.putfield 15, 3) := by decide +kernel
theorem qJ5_init_d00df_33 : decode (mB mJ5_init_d00df) 33 = .ok (.aload_n 0, 1) := by decide +kernel
theorem qJ5_init_d00df_34 : decode (mB mJ5_init_d00df) 34 = .ok (.iconst 1, 1) := by decide +kernel
theorem qJ5_init_d00df_35 : decode (mB mJ5_init_d00df) 35 = .ok (.putfield 22, 3) := by decide +kernel
theorem qJ5_init_d00df_38 : decode (mB mJ5_init_d00df) 38 = .ok (.return_, 1) := by decide +kernel
theorem qJ5_isLatin1_aae02_0 : decode (mB mJ5_isLatin1_aae02) 0 = .ok (.getstatic 18, 3) := by decide +kernel
theorem qJ5_isLatin1_aae02_3 : decode (mB mJ5_isLatin1_aae02) 3 = .ok (.ifCond .eq 14, 3) := by decide +kernel
theorem qJ5_isLatin1_aae02_6 : decode (mB mJ5_isLatin1_aae02) 6 = .ok (.aload_n 0, 1) := by decide +kernel
theorem qJ5_isLatin1_aae02_7 : decode (mB mJ5_isLatin1_aae02) 7 = .ok (.getfield 22, 3) := by decide +kernel
theorem qJ5_isLatin1_aae02_10 : decode (mB mJ5_isLatin1_aae02) 10 = .ok (.ifCond .ne 7, 3) := by decide +kernel
theorem qJ5_isLatin1_aae02_13 : decode (mB mJ5_isLatin1_aae02) 13 = .ok (.iconst 1, 1) := by decide +kernel
theorem qJ5_isLatin1_aae02_14 : decode (mB mJ5_isLatin1_aae02) 14 = .ok (.goto 4, 3) := by decide +kernel
theorem qJ5_isLatin1_aae02_17 : decode (mB mJ5_isLatin1_aae02) 17 = .ok (.iconst 0, 1) := by decide +kernel
theorem qJ5_isLatin1_aae02_18 : decode (mB mJ5_isLatin1_aae02) 18 = .ok (.ireturn, 1) := by decide +kernel
theorem qJ5_length_8abf5_0 : decode (mB mJ5_length_8abf5) 0 = .ok (.aload_n 0, 1) := by decide +kernel
theorem qJ5_length_8abf5_1 : decode (mB mJ5_length_8abf5) 1 = .ok (.getfield 79, 3) := by decide +kernel
theorem qJ5_length_8abf5_4 : decode (mB mJ5_length_8abf5) 4 = .ok (.ireturn, 1) := by decide +kernel
theorem qJ5_newCapacity_0f7a4_0 : decode (mB mJ5_newCapacity_0f7a4) 0 = .ok (.aload_n 0, 1) := by decide +kernel
theorem qJ5_newCapacity_0f7a4_1 : decode (mB mJ5_newCapacity_0f7a4) 1 = .ok (.getfield 15, 3) := by decide +kernel
theorem qJ5_newCapacity_0f7a4_4 : decode (mB mJ5_newCapacity_0f7a4) 4 = .ok (.arraylength, 1) := by decide +kernel
theorem qJ5_newCapacity_0f7a4_5 : decode (mB mJ5_newCapacity_0f7a4) 5 = .ok (.istore_n 2, 1) := by decide +kernel
theorem qJ5_newCapacity_0f7a4_6 : decode (mB mJ5_newCapacity_0f7a4) 6 = .ok (.iload_n 1, 1) := by decide +kernel
theorem qJ5_newCapacity_0f7a4_7 : decode (mB mJ5_newCapacity_0f7a4) 7 = .ok (.aload_n 0, 1) := by decide +kernel
theorem qJ5_newCapacity_0f7a4_8 : decode (mB mJ5_newCapacity_0f7a4) 8 = .ok (.getfield 22, 3) := by decide +kernel
theorem qJ5_newCapacity_0f7a4_11 : decode (mB mJ5_newCapacity_0f7a4) 11 = .ok (.ishl, 1) := by decide +kernel
theorem qJ5_newCapacity_0f7a4_12 : decode (mB mJ5_newCapacity_0f7a4) 12 = .ok (.istore_n 3, 1) := by decide +kernel
theorem qJ5_newCapacity_0f7a4_13 : decode (mB mJ5_newCapacity_0f7a4) 13 = .ok (.iload_n 3, 1) := by decide +kernel
theorem qJ5_newCapacity_0f7a4_14 : decode (mB mJ5_newCapacity_0f7a4) 14 = .ok (.iload_n 2, 1) := by decide +kernel
theorem qJ5_newCapacity_0f7a4_15 : decode (mB mJ5_newCapacity_0f7a4) 15 = .ok (.isub, 1) := by decide +kernel
theorem qJ5_newCapacity_0f7a4_16 : decode (mB mJ5_newCapacity_0f7a4) 16 = .ok (.istore 4, 2) := by decide +kernel
theorem qJ5_newCapacity_0f7a4_18 : decode (mB mJ5_newCapacity_0f7a4) 18 = .ok (.iload_n 2, 1) := by decide +kernel
theorem qJ5_newCapacity_0f7a4_19 : decode (mB mJ5_newCapacity_0f7a4) 19 = .ok (.iload 4, 2) := by decide +kernel
theorem qJ5_newCapacity_0f7a4_21 : decode (mB mJ5_newCapacity_0f7a4) 21 = .ok (.iload_n 2, 1) := by decide +kernel
theorem qJ5_newCapacity_0f7a4_22 : decode (mB mJ5_newCapacity_0f7a4) 22 = .ok (.iconst 2, 1) := by decide +kernel
theorem qJ5_newCapacity_0f7a4_23 : decode (mB mJ5_newCapacity_0f7a4) 23 = .ok (.aload_n 0, 1) := by decide +kernel
theorem qJ5_newCapacity_0f7a4_24 : decode (mB mJ5_newCapacity_0f7a4) 24 = .ok (.getfield 22, 3) := by decide +kernel
theorem qJ5_newCapacity_0f7a4_27 : decode (mB mJ5_newCapacity_0f7a4) 27 = .ok (.ishl, 1) := by decide +kernel
theorem qJ5_newCapacity_0f7a4_28 : decode (mB mJ5_newCapacity_0f7a4) 28 = .ok (.iadd, 1) := by decide +kernel
theorem qJ5_newCapacity_0f7a4_29 : decode (mB mJ5_newCapacity_0f7a4) 29 = .ok (.invokestatic 114, 3) := by decide +kernel
theorem qJ5_newCapacity_0f7a4_32 : decode (mB mJ5_newCapacity_0f7a4) 32 = .ok (.istore 5, 2) := by decide +kernel
theorem qJ5_newCapacity_0f7a4_34 : decode (mB mJ5_newCapacity_0f7a4) 34 = .ok (.iload 5, 2) := by decide +kernel
theorem qJ5_newCapacity_0f7a4_36 : decode (mB mJ5_newCapacity_0f7a4) 36 = .ok (.ldc 39, 2) := by decide +kernel
theorem qJ5_newCapacity_0f7a4_38 : decode (mB mJ5_newCapacity_0f7a4) 38 = .ok (.if_icmp .ne 13, 3) := by decide +kernel
theorem qJ5_newCapacity_0f7a4_41 : decode (mB mJ5_newCapacity_0f7a4) 41 = .ok (.new 120, 3) := by decide +kernel
theorem qJ5_newCapacity_0f7a4_44 : decode (mB mJ5_newCapacity_0f7a4) 44 = .ok (.dup, 1) := by decide +kernel
theorem qJ5_newCapacity_0f7a4_45 : decode (mB mJ5_newCapacity_0f7a4) 45 = .ok (.ldc 122, 2) := by decide +kernel
theorem qJ5_newCapacity_0f7a4_47 : decode (mB mJ5_newCapacity_0f7a4) 47 = .ok (.invokespecial 124, 3) := by decide +kernel
theorem qJ5_newCapacity_0f7a4_50 : decode (mB mJ5_newCapacity_0f7a4) 50 = .ok (.athrow, 1) := by decide +kernel
theorem qJ5_newCapacity_0f7a4_51 : decode (mB mJ5_newCapacity_0f7a4) 51 = .ok (.iload 5, 2) := by decide +kernel
theorem qJ5_newCapacity_0f7a4_53 : decode (mB mJ5_newCapacity_0f7a4) 53 = .ok (.aload_n 0, 1) := by decide +kernel
theorem qJ5_newCapacity_0f7a4_54 : decode (mB mJ5_newCapacity_0f7a4) 54 = .ok (.getfield 22, 3) := by decide +kernel
theorem qJ5_newCapacity_0f7a4_57 : decode (mB mJ5_newCapacity_0f7a4) 57 = .ok (.ishr, 1) := by decide +kernel
theorem qJ5_newCapacity_0f7a4_58 : decode (mB mJ5_newCapacity_0f7a4) 58 = .ok (.ireturn, 1) := by decide +kernel
theorem qJ5_putStringAt_47b60_0 : decode (mB mJ5_putStringAt_47b60) 0 = .ok (.aload_n 0, 1) := by decide +kernel
theorem qJ5_putStringAt_47b60_1 : decode (mB mJ5_putStringAt_47b60) 1 = .ok (.aload_n 2, 1) := by decide +kernel
theorem qJ5_putStringAt_47b60_2 : decode (mB mJ5_putStringAt_47b60) 2 = .ok (.invokevirtual 397, 3) := by decide +kernel
theorem qJ5_putStringAt_47b60_5 : decode (mB mJ5_putStringAt_47b60) 5 = .ok (.aload_n 2, 1) := by decide +kernel
theorem qJ5_putStringAt_47b60_6 : decode (mB mJ5_putStringAt_47b60) 6 = .ok (.aload_n 0, 1) := by decide +kernel
theorem qJ5_putStringAt_47b60_7 : decode (mB mJ5_putStringAt_47b60) 7 = .ok (.getfield 15, 3) := by decide +kernel
theorem qJ5_putStringAt_47b60_10 : decode (mB mJ5_putStringAt_47b60) 10 = .ok (.iload_n 1, 1) := by decide +kernel
theorem qJ5_putStringAt_47b60_11 : decode (mB mJ5_putStringAt_47b60) 11 = .ok (.aload_n 0, 1) := by decide +kernel
theorem qJ5_putStringAt_47b60_12 : decode (mB mJ5_putStringAt_47b60) 12 = .ok (.getfield 22, 3) := by decide +kernel
theorem qJ5_putStringAt_47b60_15 : decode (mB mJ5_putStringAt_47b60) 15 = .ok (.invokevirtual 399, 3) := by decide +kernel
theorem qJ5_putStringAt_47b60_18 : decode (mB mJ5_putStringAt_47b60) 18 = .ok (.return_, 1) := by decide +kernel
theorem qJ6_getChars_ba4f3_0 : decode (mB mJ6_getChars_ba4f3) 0 = .ok (.iload_n 1, 1) := by decide +kernel
theorem qJ6_getChars_ba4f3_1 : decode (mB mJ6_getChars_ba4f3) 1 = .ok (.istore 5, 2) := by decide +kernel
theorem qJ6_getChars_ba4f3_3 : decode (mB mJ6_getChars_ba4f3) 3 = .ok (.iload_n 0, 1) := by decide +kernel
theorem qJ6_getChars_ba4f3_4 : decode (mB mJ6_getChars_ba4f3) 4 = .ok (.ifCond .ge 7, 3) := by decide +kernel
theorem qJ6_getChars_ba4f3_7 : decode (mB mJ6_getChars_ba4f3) 7 = .ok (.iconst 1, 1) := by decide +kernel
theorem qJ6_getChars_ba4f3_8 : decode (mB mJ6_getChars_ba4f3) 8 = .ok (.goto 4, 3) := by decide +kernel
theorem qJ6_getChars_ba4f3_11 : decode (mB mJ6_getChars_ba4f3) 11 = .ok (.iconst 0, 1) := by decide +kernel
theorem qJ6_getChars_ba4f3_12 : decode (mB mJ6_getChars_ba4f3) 12 = .ok (.istore 6, 2) := by decide +kernel
theorem qJ6_getChars_ba4f3_14 : decode (mB mJ6_getChars_ba4f3) 14 = .ok (.iload 6, 2) := by decide +kernel
theorem qJ6_getChars_ba4f3_16 : decode (mB mJ6_getChars_ba4f3) 16 = .ok (.ifCond .ne 6, 3) := by decide +kernel
theorem qJ6_getChars_ba4f3_19 : decode (mB mJ6_getChars_ba4f3) 19 = .ok (.iload_n 0, 1) := by decide +kernel
theorem qJ6_getChars_ba4f3_20 : decode (mB mJ6_getChars_ba4f3) 20 = .ok (.ineg, 1) := by decide +kernel
theorem qJ6_getChars_ba4f3_21 : decode (mB mJ6_getChars_ba4f3) 21 = .ok (.istore_n 0, 1) := by decide +kernel
theorem qJ6_getChars_ba4f3_22 : decode (mB mJ6_getChars_ba4f3) 22 = .ok (.iload_n 0, 1) := by decide +kernel
theorem qJ6_getChars_ba4f3_23 : decode (mB mJ6_getChars_ba4f3) 23 = .ok (.bipush (-100), 2) := by decide +kernel
theorem qJ6_getChars_ba4f3_25 : decode (mB mJ6_getChars_ba4f3) 25 = .ok (.if_icmp .gt 47, 3) := by decide +kernel
theorem qJ6_getChars_ba4f3_28 : decode (mB mJ6_getChars_ba4f3) 28 = .ok (.iload_n 0, 1) := by decide +kernel
theorem qJ6_getChars_ba4f3_29 : decode (mB mJ6_getChars_ba4f3) 29 = .ok (.bipush 100, 2) := by decide +kernel
theorem qJ6_getChars_ba4f3_31 : decode (mB mJ6_getChars_ba4f3) 31 = .ok (.idiv, 1) := by decide +kernel
theorem qJ6_getChars_ba4f3_32 : decode (mB mJ6_getChars_ba4f3) 32 = .ok (.istore_n 3, 1) := by decide +kernel
theorem qJ6_getChars_ba4f3_33 : decode (mB mJ6_getChars_ba4f3) 33 = .ok (.iload_n 3, 1) := by decide +kernel
theorem qJ6_getChars_ba4f3_34 : decode (mB mJ6_getChars_ba4f3) 34 = .ok (.bipush 100, 2) := by decide +kernel
theorem qJ6_getChars_ba4f3_36 : decode (mB mJ6_getChars_ba4f3) 36 = .ok (.imul, 1) := by decide +kernel
theorem qJ6_getChars_ba4f3_37 : decode (mB mJ6_getChars_ba4f3) 37 = .ok (.iload_n 0, 1) := by decide +kernel
theorem qJ6_getChars_ba4f3_38 : decode (mB mJ6_getChars_ba4f3) 38 = .ok (.isub, 1) := by decide +kernel
theorem qJ6_getChars_ba4f3_39 : decode (mB mJ6_getChars_ba4f3) 39 = .ok (.istore 4, 2) := by decide +kernel
theorem qJ6_getChars_ba4f3_41 : decode (mB mJ6_getChars_ba4f3) 41 = .ok (.iload_n 3, 1) := by decide +kernel
theorem qJ6_getChars_ba4f3_42 : decode (mB mJ6_getChars_ba4f3) 42 = .ok (.istore_n 0, 1) := by decide +kernel
theorem qJ6_getChars_ba4f3_43 : decode (mB mJ6_getChars_ba4f3) 43 = .ok (.aload_n 2, 1) := by decide +kernel
theorem qJ6_getChars_ba4f3_44 : decode (mB mJ6_getChars_ba4f3) 44 = .ok (.iinc 5 (-1), 3) := by decide +kernel
theorem qJ6_getChars_ba4f3_47 : decode (mB mJ6_getChars_ba4f3) 47 = .ok (.iload 5, 2) := by decide +kernel
theorem qJ6_getChars_ba4f3_49 : decode (mB mJ6_getChars_ba4f3) 49 = .ok (.getstatic 83, 3) := by decide +kernel
theorem qJ6_getChars_ba4f3_52 : decode (mB mJ6_getChars_ba4f3) 52 = .ok (.iload 4, 2) := by decide +kernel
theorem qJ6_getChars_ba4f3_54 : decode (mB mJ6_getChars_ba4f3) 54 = .ok (.baload, 1) := by decide +kernel
theorem qJ6_getChars_ba4f3_55 : decode (mB mJ6_getChars_ba4f3) 55 = .ok (.bastore, 1) := by decide +kernel
theorem qJ6_getChars_ba4f3_56 : decode (mB mJ6_getChars_ba4f3) 56 = .ok (.aload_n 2, 1) := by decide +kernel
theorem qJ6_getChars_ba4f3_57 : decode (mB mJ6_getChars_ba4f3) 57 = .ok (.iinc 5 (-1), 3) := by decide +kernel
theorem qJ6_getChars_ba4f3_60 : decode (mB mJ6_getChars_ba4f3) 60 = .ok (.iload 5, 2) := by decide +kernel
theorem qJ6_getChars_ba4f3_62 : decode (mB mJ6_getChars_ba4f3) 62 = .ok (.getstatic 87, 3) := by decide +kernel
theorem qJ6_getChars_ba4f3_65 : decode (mB mJ6_getChars_ba4f3) 65 = .ok (.iload 4, 2) := by decide +kernel
theorem qJ6_getChars_ba4f3_67 : decode (mB mJ6_getChars_ba4f3) 67 = .ok (.baload, 1) := by decide +kernel
theorem qJ6_getChars_ba4f3_68 : decode (mB mJ6_getChars_ba4f3) 68 = .ok (.bastore, 1) := by decide +kernel
theorem qJ6_getChars_ba4f3_69 : decode (mB mJ6_getChars_ba4f3) 69 = .ok (.goto (-47), 3) := by decide +kernel
theorem qJ6_getChars_ba4f3_72 : decode (mB mJ6_getChars_ba4f3) 72 = .ok (.aload_n 2, 1) := by decide +kernel
theorem qJ6_getChars_ba4f3_73 : decode (mB mJ6_getChars_ba4f3) 73 = .ok (.iinc 5 (-1), 3) := by decide +kernel
theorem qJ6_getChars_ba4f3_76 : decode (mB mJ6_getChars_ba4f3) 76 = .ok (.iload 5, 2) := by decide +kernel
theorem qJ6_getChars_ba4f3_78 : decode (mB mJ6_getChars_ba4f3) 78 = .ok (.getstatic 83, 3) := by decide +kernel
theorem qJ6_getChars_ba4f3_81 : decode (mB mJ6_getChars_ba4f3) 81 = .ok (.iload_n 0, 1) := by decide +kernel
theorem qJ6_getChars_ba4f3_82 : decode (mB mJ6_getChars_ba4f3) 82 = .ok (.ineg, 1) := by decide +kernel
theorem qJ6_getChars_ba4f3_83 : decode (mB mJ6_getChars_ba4f3) 83 = .ok (.baload, 1) := by decide +kernel
theorem qJ6_getChars_ba4f3_84 : decode (mB mJ6_getChars_ba4f3) 84 = .ok (.bastore, 1) := by decide +kernel
theorem qJ6_getChars_ba4f3_85 : decode (mB mJ6_getChars_ba4f3) 85 = .ok (.iload_n 0, 1) := by decide +kernel
theorem qJ6_getChars_ba4f3_86 : decode (mB mJ6_getChars_ba4f3) 86 = .ok (.bipush (-9), 2) := by decide +kernel
theorem qJ6_getChars_ba4f3_88 : decode (mB mJ6_getChars_ba4f3) 88 = .ok (.if_icmp .ge 16, 3) := by decide +kernel
theorem qJ6_getChars_ba4f3_91 : decode (mB mJ6_getChars_ba4f3) 91 = .ok (.aload_n 2, 1) := by decide +kernel
theorem qJ6_getChars_ba4f3_92 : decode (mB mJ6_getChars_ba4f3) 92 = .ok (.iinc 5 (-1), 3) := by decide +kernel
theorem qJ6_getChars_ba4f3_95 : decode (mB mJ6_getChars_ba4f3) 95 = .ok (.iload 5, 2) := by decide +kernel
theorem qJ6_getChars_ba4f3_97 : decode (mB mJ6_getChars_ba4f3) 97 = .ok (.getstatic 87, 3) := by decide +kernel
theorem qJ6_getChars_ba4f3_100 : decode (mB mJ6_getChars_ba4f3) 100 = .ok (.iload_n 0, 1) := by decide +kernel
theorem qJ6_getChars_ba4f3_101 : decode (mB mJ6_getChars_ba4f3) 101 = .ok (.ineg, 1) := by decide +kernel
theorem qJ6_getChars_ba4f3_102 : decode (mB mJ6_getChars_ba4f3) 102 = .ok (.baload, 1) := by decide +kernel
theorem qJ6_getChars_ba4f3_103 : decode (mB mJ6_getChars_ba4f3) 103 = .ok (.bastore, 1) := by decide +kernel
theorem qJ6_getChars_ba4f3_104 : decode (mB mJ6_getChars_ba4f3) 104 = .ok (.iload 6, 2) := by decide +kernel
theorem qJ6_getChars_ba4f3_106 : decode (mB mJ6_getChars_ba4f3) 106 = .ok (.ifCond .eq 12, 3) := by decide +kernel
theorem qJ6_getChars_ba4f3_109 : decode (mB mJ6_getChars_ba4f3) 109 = .ok (.aload_n 2, 1) := by decide +kernel
theorem qJ6_getChars_ba4f3_110 : decode (mB mJ6_getChars_ba4f3) 110 = .ok (.iinc 5 (-1), 3) := by decide +kernel
theorem qJ6_getChars_ba4f3_113 : decode (mB mJ6_getChars_ba4f3) 113 = .ok (.iload 5, 2) := by decide +kernel
theorem qJ6_getChars_ba4f3_115 : decode (mB mJ6_getChars_ba4f3) 115 = .ok (.bipush 45, 2) := by decide +kernel
theorem qJ6_getChars_ba4f3_117 : decode (mB mJ6_getChars_ba4f3) 117 = .ok (.bastore, 1) := by decide +kernel
theorem qJ6_getChars_ba4f3_118 : decode (mB mJ6_getChars_ba4f3) 118 = .ok (.iload 5, 2) := by decide +kernel
theorem qJ6_getChars_ba4f3_120 : decode (mB mJ6_getChars_ba4f3) 120 = .ok (.ireturn, 1) := by decide +kernel
theorem qJ6_stringSize_0f7a4_0 : decode (mB mJ6_stringSize_0f7a4) 0 = .ok (.iconst 1, 1) := by decide +kernel
theorem qJ6_stringSize_0f7a4_1 : decode (mB mJ6_stringSize_0f7a4) 1 = .ok (.istore_n 1, 1) := by decide +kernel
theorem qJ6_stringSize_0f7a4_2 : decode (mB mJ6_stringSize_0f7a4) 2 = .ok (.iload_n 0, 1) := by decide +kernel
theorem qJ6_stringSize_0f7a4_3 : decode (mB mJ6_stringSize_0f7a4) 3 = .ok (.ifCond .lt 8, 3) := by decide +kernel
theorem qJ6_stringSize_0f7a4_6 : decode (mB mJ6_stringSize_0f7a4) 6 = .ok (.iconst 0, 1) := by decide +kernel
theorem qJ6_stringSize_0f7a4_7 : decode (mB mJ6_stringSize_0f7a4) 7 = .ok (.istore_n 1, 1) := by decide +kernel
theorem qJ6_stringSize_0f7a4_8 : decode (mB mJ6_stringSize_0f7a4) 8 = .ok (.iload_n 0, 1) := by decide +kernel
theorem qJ6_stringSize_0f7a4_9 : decode (mB mJ6_stringSize_0f7a4) 9 = .ok (.ineg, 1) := by decide +kernel
theorem qJ6_stringSize_0f7a4_10 : decode (mB mJ6_stringSize_0f7a4) 10 = .ok (.istore_n 0, 1) := by decide +kernel
theorem qJ6_stringSize_0f7a4_11 : decode (mB mJ6_stringSize_0f7a4) 11 = .ok (.bipush (-10), 2) := by decide +kernel
theorem qJ6_stringSize_0f7a4_13 : decode (mB mJ6_stringSize_0f7a4) 13 = .ok (.istore_n 2, 1) := by decide +kernel
theorem qJ6_stringSize_0f7a4_14 : decode (mB mJ6_stringSize_0f7a4) 14 = .ok (.iconst 1, 1) := by decide +kernel
theorem qJ6_stringSize_0f7a4_15 : decode (mB mJ6_stringSize_0f7a4) 15 = .ok (.istore_n 3, 1) := by decide +kernel
theorem qJ6_stringSize_0f7a4_16 : decode (mB mJ6_stringSize_0f7a4) 16 = .ok (.iload_n 3, 1) := by decide +kernel
theorem qJ6_stringSize_0f7a4_17 : decode (mB mJ6_stringSize_0f7a4) 17 = .ok (.bipush 10, 2) := by decide +kernel
theorem qJ6_stringSize_0f7a4_19 : decode (mB mJ6_stringSize_0f7a4) 19 = .ok (.if_icmp .ge 23, 3) := by decide +kernel
theorem qJ6_stringSize_0f7a4_22 : decode (mB mJ6_stringSize_0f7a4) 22 = .ok (.iload_n 0, 1) := by decide +kernel
theorem qJ6_stringSize_0f7a4_23 : decode (mB mJ6_stringSize_0f7a4) 23 = .ok (.iload_n 2, 1) := by decide +kernel
theorem qJ6_stringSize_0f7a4_24 : decode (mB mJ6_stringSize_0f7a4) 24 = .ok (.if_icmp .le 7, 3) := by decide +kernel
theorem qJ6_stringSize_0f7a4_27 : decode (mB mJ6_stringSize_0f7a4) 27 = .ok (.iload_n 3, 1) := by decide +kernel
theorem qJ6_stringSize_0f7a4_28 : decode (mB mJ6_stringSize_0f7a4) 28 = .ok (.iload_n 1, 1) := by decide +kernel
theorem qJ6_stringSize_0f7a4_29 : decode (mB mJ6_stringSize_0f7a4) 29 = .ok (.iadd, 1) := by decide +kernel
theorem qJ6_stringSize_0f7a4_30 : decode (mB mJ6_stringSize_0f7a4) 30 = .ok (.ireturn, 1) := by decide +kernel
theorem qJ6_stringSize_0f7a4_31 : decode (mB mJ6_stringSize_0f7a4) 31 = .ok (.bipush 10, 2) := by decide +kernel
theorem qJ6_stringSize_0f7a4_33 : decode (mB mJ6_stringSize_0f7a4) 33 = .ok (.iload_n 2, 1) := by decide +kernel
theorem qJ6_stringSize_0f7a4_34 : decode (mB mJ6_stringSize_0f7a4) 34 = .ok (.imul, 1) := by decide +kernel
theorem qJ6_stringSize_0f7a4_35 : decode (mB mJ6_stringSize_0f7a4) 35 = .ok (.istore_n 2, 1) := by decide +kernel
theorem qJ6_stringSize_0f7a4_36 : decode (mB mJ6_stringSize_0f7a4) 36 = .ok (.iinc 3 1, 3) := by decide +kernel
theorem qJ6_stringSize_0f7a4_39 : decode (mB mJ6_stringSize_0f7a4) 39 = .ok (.goto (-23), 3) := by decide +kernel
theorem qJ6_stringSize_0f7a4_42 : decode (mB mJ6_stringSize_0f7a4) 42 = .ok (.bipush 10, 2) := by decide +kernel
theorem qJ6_stringSize_0f7a4_44 : decode (mB mJ6_stringSize_0f7a4) 44 = .ok (.iload_n 1, 1) := by decide +kernel
theorem qJ6_stringSize_0f7a4_45 : decode (mB mJ6_stringSize_0f7a4) 45 = .ok (.iadd, 1) := by decide +kernel
theorem qJ6_stringSize_0f7a4_46 : decode (mB mJ6_stringSize_0f7a4) 46 = .ok (.ireturn, 1) := by decide +kernel
theorem qJ7_checkLength_df160_0 : decode (mB mJ7_checkLength_df160) 0 = .ok (.iload_n 1, 1) := by decide +kernel
theorem qJ7_checkLength_df160_1 : decode (mB mJ7_checkLength_df160) 1 = .ok (.iload_n 0, 1) := by decide +kernel
theorem qJ7_checkLength_df160_2 : decode (mB mJ7_checkLength_df160) 2 = .ok (.if_icmp .ge 35, 3) := by decide +kernel
theorem qJ7_checkLength_df160_5 : decode (mB mJ7_checkLength_df160) 5 = .ok (.new 43, 3) := by decide +kernel
theorem qJ7_checkLength_df160_8 : decode (mB mJ7_checkLength_df160) 8 = .ok (.dup, 1) := by decide +kernel
theorem qJ7_checkLength_df160_9 : decode (mB mJ7_checkLength_df160) 9 = .ok (.new 45, 3) := by decide +kernel
theorem qJ7_checkLength_df160_12 : decode (mB mJ7_checkLength_df160) 12 = .ok (.dup, 1) := by decide +kernel
theorem qJ7_checkLength_df160_13 : decode (mB mJ7_checkLength_df160) 13 = .ok (.invokespecial 47, 3) := by decide +kernel
theorem qJ7_checkLength_df160_16 : decode (mB mJ7_checkLength_df160) 16 = .ok (.iload_n 0, 1) := by decide +kernel
theorem qJ7_checkLength_df160_17 : decode (mB mJ7_checkLength_df160) 17 = .ok (.invokevirtual 54, 3) := by decide +kernel
theorem qJ7_checkLength_df160_20 : decode (mB mJ7_checkLength_df160) 20 = .ok (.ldc_w 337, 3) := by decide +kernel
theorem qJ7_checkLength_df160_23 : decode (mB mJ7_checkLength_df160) 23 = .ok (.invokevirtual 50, 3) := by decide +kernel
theorem qJ7_checkLength_df160_26 : decode (mB mJ7_checkLength_df160) 26 = .ok (.iload_n 1, 1) := by decide +kernel
theorem qJ7_checkLength_df160_27 : decode (mB mJ7_checkLength_df160) 27 = .ok (.invokevirtual 54, 3) := by decide +kernel
theorem qJ7_checkLength_df160_30 : decode (mB mJ7_checkLength_df160) 30 = .ok (.invokevirtual 61, 3) := by decide +kernel
theorem qJ7_checkLength_df160_33 : decode (mB mJ7_checkLength_df160) 33 = .ok (.invokespecial 65, 3) := by decide +kernel
theorem qJ7_checkLength_df160_36 : decode (mB mJ7_checkLength_df160) 36 = .ok (.athrow, 1) := by decide +kernel
theorem qJ7_checkLength_df160_37 : decode (mB mJ7_checkLength_df160) 37 = .ok (.return_, 1) := by decide +kernel
theorem qJ7_copyOfRangeByte_39247_0 : decode (mB mJ7_copyOfRangeByte_39247) 0 = .ok (.iload_n 1, 1) := by decide +kernel
theorem qJ7_copyOfRangeByte_39247_1 : decode (mB mJ7_copyOfRangeByte_39247) 1 = .ok (.iload_n 2, 1) := by decide +kernel
theorem qJ7_copyOfRangeByte_39247_2 : decode (mB mJ7_copyOfRangeByte_39247) 2 = .ok (.invokestatic 343, 3) := by decide +kernel
theorem qJ7_copyOfRangeByte_39247_5 : decode (mB mJ7_copyOfRangeByte_39247) 5 = .ok (.iload_n 2, 1) := by decide +kernel
theorem qJ7_copyOfRangeByte_39247_6 : decode (mB mJ7_copyOfRangeByte_39247) 6 = .ok (.iload_n 1, 1) := by decide +kernel
theorem qJ7_copyOfRangeByte_39247_7 : decode (mB mJ7_copyOfRangeByte_39247) 7 = .ok (.isub, 1) := by decide +kernel
theorem qJ7_copyOfRangeByte_39247_8 : decode (mB mJ7_copyOfRangeByte_39247) 8 = .ok (.istore_n 3, 1) := by decide +kernel
theorem qJ7_copyOfRangeByte_39247_9 : decode (mB mJ7_copyOfRangeByte_39247) 9 = .ok (.iload_n 3, 1) := by decide +kernel
theorem qJ7_copyOfRangeByte_39247_10 : decode (mB mJ7_copyOfRangeByte_39247) 10 = .ok (.newarray .byte, 2) := by decide +kernel
theorem qJ7_copyOfRangeByte_39247_12 : decode (mB mJ7_copyOfRangeByte_39247) 12 = .ok (.astore 4, 2) := by decide +kernel
theorem qJ7_copyOfRangeByte_39247_14 : decode (mB mJ7_copyOfRangeByte_39247) 14 = .ok (.aload_n 0, 1) := by decide +kernel
theorem qJ7_copyOfRangeByte_39247_15 : decode (mB mJ7_copyOfRangeByte_39247) 15 = .ok (.iload_n 1, 1) := by decide +kernel
theorem qJ7_copyOfRangeByte_39247_16 : decode (mB mJ7_copyOfRangeByte_39247) 16 = .ok (.aload 4, 2) := by decide +kernel
theorem qJ7_copyOfRangeByte_39247_18 : decode (mB mJ7_copyOfRangeByte_39247) 18 = .ok (.iconst 0, 1) := by decide +kernel
theorem qJ7_copyOfRangeByte_39247_19 : decode (mB mJ7_copyOfRangeByte_39247) 19 = .ok (.aload_n 0, 1) := by decide +kernel
theorem qJ7_copyOfRangeByte_39247_20 : decode (mB mJ7_copyOfRangeByte_39247) 20 = .ok (.arraylength, 1) := by decide +kernel
theorem qJ7_copyOfRangeByte_39247_21 : decode (mB mJ7_copyOfRangeByte_39247) 21 = .ok (.iload_n 1, 1) := by decide +kernel
theorem qJ7_copyOfRangeByte_39247_22 : decode (mB mJ7_copyOfRangeByte_39247) 22 = .ok (.isub, 1) := by decide +kernel
theorem qJ7_copyOfRangeByte_39247_23 : decode (mB mJ7_copyOfRangeByte_39247) 23 = .ok (.iload_n 3, 1) := by decide +kernel
theorem qJ7_copyOfRangeByte_39247_24 : decode (mB mJ7_copyOfRangeByte_39247) 24 = .ok (.invokestatic 304, 3) := by decide +kernel
theorem qJ7_copyOfRangeByte_39247_27 : decode (mB mJ7_copyOfRangeByte_39247) 27 = .ok (.invokestatic 150, 3) := by decide +kernel
theorem qJ7_copyOfRangeByte_39247_30 : decode (mB mJ7_copyOfRangeByte_39247) 30 = .ok (.aload 4, 2) := by decide +kernel
theorem qJ7_copyOfRangeByte_39247_32 : decode (mB mJ7_copyOfRangeByte_39247) 32 = .ok (.areturn, 1) := by decide +kernel
theorem qJ7_copyOfRange_39247_0 : decode (mB mJ7_copyOfRange_39247) 0 = .ok (.iload_n 1, 1) := by decide +kernel
theorem qJ7_copyOfRange_39247_1 : decode (mB mJ7_copyOfRange_39247) 1 = .ok (.ifCond .ne 9, 3) := by decide +kernel
theorem qJ7_copyOfRange_39247_4 : decode (mB mJ7_copyOfRange_39247) 4 = .ok (.iload_n 2, 1) := by decide +kernel
theorem qJ7_copyOfRange_39247_5 : decode (mB mJ7_copyOfRange_39247) 5 = .ok (.aload_n 0, 1) := by decide +kernel
theorem qJ7_copyOfRange_39247_6 : decode (mB mJ7_copyOfRange_39247) 6 = .ok (.arraylength, 1) := by decide +kernel
theorem qJ7_copyOfRange_39247_7 : decode (mB mJ7_copyOfRange_39247) 7 = .ok (.if_icmp .eq 10, 3) := by decide +kernel
theorem qJ7_copyOfRange_39247_10 : decode (mB mJ7_copyOfRange_39247) 10 = .ok (.aload_n 0, 1) := by decide +kernel
theorem qJ7_copyOfRange_39247_11 : decode (mB mJ7_copyOfRange_39247) 11 = .ok (.iload_n 1, 1) := by decide +kernel
theorem qJ7_copyOfRange_39247_12 : decode (mB mJ7_copyOfRange_39247) 12 = .ok (.iload_n 2, 1) := by decide +kernel
theorem qJ7_copyOfRange_39247_13 : decode (mB mJ7_copyOfRange_39247) 13 = .ok (.invokestatic 339, 3) := by decide +kernel
theorem qJ7_copyOfRange_39247_16 : decode (mB mJ7_copyOfRange_39247) 16 = .ok (.areturn, 1) := by decide +kernel
theorem qJ7_copyOfRange_39247_17 : decode (mB mJ7_copyOfRange_39247) 17 = .ok (.aload_n 0, 1) := by decide +kernel
theorem qJ7_copyOfRange_39247_18 : decode (mB mJ7_copyOfRange_39247) 18 = .ok (.invokevirtual 310, 3) := by decide +kernel
theorem qJ7_copyOfRange_39247_21 : decode (mB mJ7_copyOfRange_39247) 21 = .ok (.checkcast 311, 3) := by decide +kernel
theorem qJ7_copyOfRange_39247_24 : decode (mB mJ7_copyOfRange_39247) 24 = .ok (.areturn, 1) := by decide +kernel
theorem qJ7_copyOf_9075b_0 : decode (mB mJ7_copyOf_9075b) 0 = .ok (.iload_n 1, 1) := by decide +kernel
theorem qJ7_copyOf_9075b_1 : decode (mB mJ7_copyOf_9075b) 1 = .ok (.aload_n 0, 1) := by decide +kernel
theorem qJ7_copyOf_9075b_2 : decode (mB mJ7_copyOf_9075b) 2 = .ok (.arraylength, 1) := by decide +kernel
theorem qJ7_copyOf_9075b_3 : decode (mB mJ7_copyOf_9075b) 3 = .ok (.if_icmp .ne 11, 3) := by decide +kernel
theorem qJ7_copyOf_9075b_6 : decode (mB mJ7_copyOf_9075b) 6 = .ok (.aload_n 0, 1) := by decide +kernel
theorem qJ7_copyOf_9075b_7 : decode (mB mJ7_copyOf_9075b) 7 = .ok (.invokevirtual 310, 3) := by decide +kernel
theorem qJ7_copyOf_9075b_10 : decode (mB mJ7_copyOf_9075b) 10 = .ok (.checkcast 311, 3) := by decide +kernel
theorem qJ7_copyOf_9075b_13 : decode (mB mJ7_copyOf_9075b) 13 = .ok (.areturn, 1) := by decide +kernel
theorem qJ7_copyOf_9075b_14 : decode (mB mJ7_copyOf_9075b) 14 = .ok (.iload_n 1, 1) := by decide +kernel
theorem qJ7_copyOf_9075b_15 : decode (mB mJ7_copyOf_9075b) 15 = .ok (.newarray .byte, 2) := by decide +kernel
theorem qJ7_copyOf_9075b_17 : decode (mB mJ7_copyOf_9075b) 17 = .ok (.astore_n 2, 1) := by decide +kernel
theorem qJ7_copyOf_9075b_18 : decode (mB mJ7_copyOf_9075b) 18 = .ok (.aload_n 0, 1) := by decide +kernel
theorem qJ7_copyOf_9075b_19 : decode (mB mJ7_copyOf_9075b) 19 = .ok (.iconst 0, 1) := by decide +kernel
theorem qJ7_copyOf_9075b_20 : decode (mB mJ7_copyOf_9075b) 20 = .ok (.aload_n 2, 1) := by decide +kernel
theorem qJ7_copyOf_9075b_21 : decode (mB mJ7_copyOf_9075b) 21 = .ok (.iconst 0, 1) := by decide +kernel
theorem qJ7_copyOf_9075b_22 : decode (mB mJ7_copyOf_9075b) 22 = .ok (.aload_n 0, 1) := by decide +kernel
theorem qJ7_copyOf_9075b_23 : decode (mB mJ7_copyOf_9075b) 23 = .ok (.arraylength, 1) := by decide +kernel
theorem qJ7_copyOf_9075b_24 : decode (mB mJ7_copyOf_9075b) 24 = .ok (.iload_n 1, 1) := by decide +kernel
theorem qJ7_copyOf_9075b_25 : decode (mB mJ7_copyOf_9075b) 25 = .ok (.invokestatic 304, 3) := by decide +kernel
theorem qJ7_copyOf_9075b_28 : decode (mB mJ7_copyOf_9075b) 28 = .ok (.invokestatic 150, 3) := by decide +kernel
theorem qJ7_copyOf_9075b_31 : decode (mB mJ7_copyOf_9075b) 31 = .ok (.aload_n 2, 1) := by decide +kernel
theorem qJ7_copyOf_9075b_32 : decode (mB mJ7_copyOf_9075b) 32 = .ok (.areturn, 1) := by decide +kernel
theorem qJ8_hugeLength_7cf53_0 : decode (mB mJ8_hugeLength_7cf53) 0 = .ok (.iload_n 0, 1) := by decide +kernel
theorem qJ8_hugeLength_7cf53_1 : decode (mB mJ8_hugeLength_7cf53) 1 = .ok (.iload_n 1, 1) := by decide +kernel
theorem qJ8_hugeLength_7cf53_2 : decode (mB mJ8_hugeLength_7cf53) 2 = .ok (.iadd, 1) := by decide +kernel
theorem qJ8_hugeLength_7cf53_3 : decode (mB mJ8_hugeLength_7cf53) 3 = .ok (.istore_n 2, 1) := by decide +kernel
theorem qJ8_hugeLength_7cf53_4 : decode (mB mJ8_hugeLength_7cf53) 4 = .ok (.iload_n 2, 1) := by decide +kernel
theorem qJ8_hugeLength_7cf53_5 : decode (mB mJ8_hugeLength_7cf53) 5 = .ok (.ifCond .ge 44, 3) := by decide +kernel
theorem qJ8_hugeLength_7cf53_8 : decode (mB mJ8_hugeLength_7cf53) 8 = .ok (.new 204, 3) := by decide +kernel
theorem qJ8_hugeLength_7cf53_11 : decode (mB mJ8_hugeLength_7cf53) 11 = .ok (.dup, 1) := by decide +kernel
theorem qJ8_hugeLength_7cf53_12 : decode (mB mJ8_hugeLength_7cf53) 12 = .ok (.new 89, 3) := by decide +kernel
theorem qJ8_hugeLength_7cf53_15 : decode (mB mJ8_hugeLength_7cf53) 15 = .ok (.dup, 1) := by decide +kernel
theorem qJ8_hugeLength_7cf53_16 : decode (mB mJ8_hugeLength_7cf53) 16 = .ok (.invokespecial 91, 3) := by decide +kernel
theorem qJ8_hugeLength_7cf53_19 : decode (mB mJ8_hugeLength_7cf53) 19 = .ok (.ldc 206, 2) := by decide +kernel
theorem qJ8_hugeLength_7cf53_21 : decode (mB mJ8_hugeLength_7cf53) 21 = .ok (.invokevirtual 94, 3) := by decide +kernel
theorem qJ8_hugeLength_7cf53_24 : decode (mB mJ8_hugeLength_7cf53) 24 = .ok (.iload_n 0, 1) := by decide +kernel
theorem qJ8_hugeLength_7cf53_25 : decode (mB mJ8_hugeLength_7cf53) 25 = .ok (.invokevirtual 98, 3) := by decide +kernel
theorem qJ8_hugeLength_7cf53_28 : decode (mB mJ8_hugeLength_7cf53) 28 = .ok (.ldc 208, 2) := by decide +kernel
theorem qJ8_hugeLength_7cf53_30 : decode (mB mJ8_hugeLength_7cf53) 30 = .ok (.invokevirtual 94, 3) := by decide +kernel
theorem qJ8_hugeLength_7cf53_33 : decode (mB mJ8_hugeLength_7cf53) 33 = .ok (.iload_n 1, 1) := by decide +kernel
theorem qJ8_hugeLength_7cf53_34 : decode (mB mJ8_hugeLength_7cf53) 34 = .ok (.invokevirtual 98, 3) := by decide +kernel
theorem qJ8_hugeLength_7cf53_37 : decode (mB mJ8_hugeLength_7cf53) 37 = .ok (.ldc 210, 2) := by decide +kernel
theorem qJ8_hugeLength_7cf53_39 : decode (mB mJ8_hugeLength_7cf53) 39 = .ok (.invokevirtual 94, 3) := by decide +kernel
theorem qJ8_hugeLength_7cf53_42 : decode (mB mJ8_hugeLength_7cf53) 42 = .ok (.invokevirtual 101, 3) := by decide +kernel
theorem qJ8_hugeLength_7cf53_45 : decode (mB mJ8_hugeLength_7cf53) 45 = .ok (.invokespecial 212, 3) := by decide +kernel
theorem qJ8_hugeLength_7cf53_48 : decode (mB mJ8_hugeLength_7cf53) 48 = .ok (.athrow, 1) := by decide +kernel
theorem qJ8_hugeLength_7cf53_49 : decode (mB mJ8_hugeLength_7cf53) 49 = .ok (.iload_n 2, 1) := by decide +kernel
theorem qJ8_hugeLength_7cf53_50 : decode (mB mJ8_hugeLength_7cf53) 50 = .ok (.ldc 200, 2) := by decide +kernel
theorem qJ8_hugeLength_7cf53_52 : decode (mB mJ8_hugeLength_7cf53) 52 = .ok (.if_icmp .gt 6, 3) := by decide +kernel
theorem qJ8_hugeLength_7cf53_55 : decode (mB mJ8_hugeLength_7cf53) 55 = .ok (.ldc 200, 2) := by decide +kernel
theorem qJ8_hugeLength_7cf53_57 : decode (mB mJ8_hugeLength_7cf53) 57 = .ok (.ireturn, 1) := by decide +kernel
theorem qJ8_hugeLength_7cf53_58 : decode (mB mJ8_hugeLength_7cf53) 58 = .ok (.iload_n 2, 1) := by decide +kernel
theorem qJ8_hugeLength_7cf53_59 : decode (mB mJ8_hugeLength_7cf53) 59 = .ok (.ireturn, 1) := by decide +kernel
theorem qJ8_newLength_cabcc_0 : decode (mB mJ8_newLength_cabcc) 0 = .ok (.iload_n 0, 1) := by decide +kernel
theorem qJ8_newLength_cabcc_1 : decode (mB mJ8_newLength_cabcc) 1 = .ok (.iload_n 1, 1) := by decide +kernel
theorem qJ8_newLength_cabcc_2 : decode (mB mJ8_newLength_cabcc) 2 = .ok (.iload_n 2, 1) := by decide +kernel
theorem qJ8_newLength_cabcc_3 : decode (mB mJ8_newLength_cabcc) 3 = .ok (.invokestatic 194, 3) := by decide +kernel
theorem qJ8_newLength_cabcc_6 : decode (mB mJ8_newLength_cabcc) 6 = .ok (.iadd, 1) := by decide +kernel
theorem qJ8_newLength_cabcc_7 : decode (mB mJ8_newLength_cabcc) 7 = .ok (.istore_n 3, 1) := by decide +kernel
theorem qJ8_newLength_cabcc_8 : decode (mB mJ8_newLength_cabcc) 8 = .ok (.iconst 0, 1) := by decide +kernel
theorem qJ8_newLength_cabcc_9 : decode (mB mJ8_newLength_cabcc) 9 = .ok (.iload_n 3, 1) := by decide +kernel
theorem qJ8_newLength_cabcc_10 : decode (mB mJ8_newLength_cabcc) 10 = .ok (.if_icmp .ge 11, 3) := by decide +kernel
theorem qJ8_newLength_cabcc_13 : decode (mB mJ8_newLength_cabcc) 13 = .ok (.iload_n 3, 1) := by decide +kernel
theorem qJ8_newLength_cabcc_14 : decode (mB mJ8_newLength_cabcc) 14 = .ok (.ldc 200, 2) := by decide +kernel
theorem qJ8_newLength_cabcc_16 : decode (mB mJ8_newLength_cabcc) 16 = .ok (.if_icmp .gt 5, 3) := by decide +kernel
theorem qJ8_newLength_cabcc_19 : decode (mB mJ8_newLength_cabcc) 19 = .ok (.iload_n 3, 1) := by decide +kernel
theorem qJ8_newLength_cabcc_20 : decode (mB mJ8_newLength_cabcc) 20 = .ok (.ireturn, 1) := by decide +kernel
theorem qJ8_newLength_cabcc_21 : decode (mB mJ8_newLength_cabcc) 21 = .ok (.iload_n 0, 1) := by decide +kernel
theorem qJ8_newLength_cabcc_22 : decode (mB mJ8_newLength_cabcc) 22 = .ok (.iload_n 1, 1) := by decide +kernel
theorem qJ8_newLength_cabcc_23 : decode (mB mJ8_newLength_cabcc) 23 = .ok (.invokestatic 201, 3) := by decide +kernel
theorem qJ8_newLength_cabcc_26 : decode (mB mJ8_newLength_cabcc) 26 = .ok (.ireturn, 1) := by decide +kernel
theorem qJ9_abs_0f7a4_0 : decode (mB mJ9_abs_0f7a4) 0 = .ok (.iload_n 0, 1) := by decide +kernel
theorem qJ9_abs_0f7a4_1 : decode (mB mJ9_abs_0f7a4) 1 = .ok (.ifCond .ge 8, 3) := by decide +kernel
theorem qJ9_abs_0f7a4_4 : decode (mB mJ9_abs_0f7a4) 4 = .ok (.iload_n 0, 1) := by decide +kernel
theorem qJ9_abs_0f7a4_5 : decode (mB mJ9_abs_0f7a4) 5 = .ok (.ineg, 1) := by decide +kernel
theorem qJ9_abs_0f7a4_6 : decode (mB mJ9_abs_0f7a4) 6 = .ok (.goto 4, 3) := by decide +kernel
theorem qJ9_abs_0f7a4_9 : decode (mB mJ9_abs_0f7a4) 9 = .ok (.iload_n 0, 1) := by decide +kernel
theorem qJ9_abs_0f7a4_10 : decode (mB mJ9_abs_0f7a4) 10 = .ok (.ireturn, 1) := by decide +kernel
theorem qJ9_max_7cf53_0 : decode (mB mJ9_max_7cf53) 0 = .ok (.iload_n 0, 1) := by decide +kernel
theorem qJ9_max_7cf53_1 : decode (mB mJ9_max_7cf53) 1 = .ok (.iload_n 1, 1) := by decide +kernel
theorem qJ9_max_7cf53_2 : decode (mB mJ9_max_7cf53) 2 = .ok (.if_icmp .lt 7, 3) := by decide +kernel
theorem qJ9_max_7cf53_5 : decode (mB mJ9_max_7cf53) 5 = .ok (.iload_n 0, 1) := by decide +kernel
theorem qJ9_max_7cf53_6 : decode (mB mJ9_max_7cf53) 6 = .ok (.goto 4, 3) := by decide +kernel
theorem qJ9_max_7cf53_9 : decode (mB mJ9_max_7cf53) 9 = .ok (.iload_n 1, 1) := by decide +kernel
theorem qJ9_max_7cf53_10 : decode (mB mJ9_max_7cf53) 10 = .ok (.ireturn, 1) := by decide +kernel
theorem qJ9_min_7cf53_0 : decode (mB mJ9_min_7cf53) 0 = .ok (.iload_n 0, 1) := by decide +kernel
theorem qJ9_min_7cf53_1 : decode (mB mJ9_min_7cf53) 1 = .ok (.iload_n 1, 1) := by decide +kernel
theorem qJ9_min_7cf53_2 : decode (mB mJ9_min_7cf53) 2 = .ok (.if_icmp .gt 7, 3) := by decide +kernel
theorem qJ9_min_7cf53_5 : decode (mB mJ9_min_7cf53) 5 = .ok (.iload_n 0, 1) := by decide +kernel
theorem qJ9_min_7cf53_6 : decode (mB mJ9_min_7cf53) 6 = .ok (.goto 4, 3) := by decide +kernel
theorem qJ9_min_7cf53_9 : decode (mB mJ9_min_7cf53) 9 = .ok (.iload_n 1, 1) := by decide +kernel
theorem qJ9_min_7cf53_10 : decode (mB mJ9_min_7cf53) 10 = .ok (.ireturn, 1) := by decide +kernel
theorem qL_act_0 : decode (mB mL_act) 0 = .ok (.aload_n 1, 1) := by decide +kernel
theorem qL_act_1 : decode (mB mL_act) 1 = .ok (.iload_n 2, 1) := by decide +kernel
theorem qL_act_2 : decode (mB mL_act) 2 = .ok (.iconst 1, 1) := by decide +kernel
theorem qL_act_3 : decode (mB mL_act) 3 = .ok (.iadd, 1) := by decide +kernel
theorem qL_act_4 : decode (mB mL_act) 4 = .ok (.ldc 218, 2) := by decide +kernel
theorem qL_act_6 : decode (mB mL_act) 6 = .ok (.invokestatic 40, 3) := by decide +kernel
theorem qL_act_9 : decode (mB mL_act) 9 = .ok (.istore_n 3, 1) := by decide +kernel
theorem qL_act_10 : decode (mB mL_act) 10 = .ok (.aload_n 1, 1) := by decide +kernel
theorem qL_act_11 : decode (mB mL_act) 11 = .ok (.iload_n 2, 1) := by decide +kernel
theorem qL_act_12 : decode (mB mL_act) 12 = .ok (.iconst 2, 1) := by decide +kernel
theorem qL_act_13 : decode (mB mL_act) 13 = .ok (.iadd, 1) := by decide +kernel
theorem qL_act_14 : decode (mB mL_act) 14 = .ok (.ldc 218, 2) := by decide +kernel
theorem qL_act_16 : decode (mB mL_act) 16 = .ok (.invokestatic 40, 3) := by decide +kernel
theorem qL_act_19 : decode (mB mL_act) 19 = .ok (.istore 4, 2) := by decide +kernel
theorem qL_act_21 : decode (mB mL_act) 21 = .ok (.aload_n 1, 1) := by decide +kernel
theorem qL_act_22 : decode (mB mL_act) 22 = .ok (.iload_n 2, 1) := by decide +kernel
theorem qL_act_23 : decode (mB mL_act) 23 = .ok (.bipush 24, 2) := by decide +kernel
theorem qL_act_25 : decode (mB mL_act) 25 = .ok (.invokestatic 40, 3) := by decide +kernel
theorem qL_act_28 : decode (mB mL_act) 28 = .ok (.istore 5, 2) := by decide +kernel
theorem qL_act_30 : decode (mB mL_act) 30 = .ok (.iload 5, 2) := by decide +kernel
theorem qL_act_32 : decode (mB mL_act) 32 = .ok (.bipush 7, 2) := by decide +kernel
theorem qL_act_34 : decode (mB mL_act) 34 = .ok (.if_icmp .ge 14, 3) := by decide +kernel
theorem qL_act_37 : decode (mB mL_act) 37 = .ok (.aload_n 0, 1) := by decide +kernel
theorem qL_act_38 : decode (mB mL_act) 38 = .ok (.iconst 1, 1) := by decide +kernel
theorem qL_act_39 : decode (mB mL_act) 39 = .ok (.iload_n 3, 1) := by decide +kernel
theorem qL_act_40 : decode (mB mL_act) 40 = .ok (.bipush 90, 2) := by decide +kernel
theorem qL_act_42 : decode (mB mL_act) 42 = .ok (.irem, 1) := by decide +kernel
theorem qL_act_43 : decode (mB mL_act) 43 = .ok (.iadd, 1) := by decide +kernel
theorem qL_act_44 : decode (mB mL_act) 44 = .ok (.invokevirtual 219, 3) := by decide +kernel
theorem qL_act_47 : decode (mB mL_act) 47 = .ok (.ireturn, 1) := by decide +kernel
theorem qL_act_48 : decode (mB mL_act) 48 = .ok (.iload 5, 2) := by decide +kernel
theorem qL_act_50 : decode (mB mL_act) 50 = .ok (.bipush 7, 2) := by decide +kernel
theorem qL_act_52 : decode (mB mL_act) 52 = .ok (.if_icmp .ne 19, 3) := by decide +kernel
theorem qL_act_55 : decode (mB mL_act) 55 = .ok (.aload_n 0, 1) := by decide +kernel
theorem qL_act_56 : decode (mB mL_act) 56 = .ok (.iload_n 3, 1) := by decide +kernel
theorem qL_act_57 : decode (mB mL_act) 57 = .ok (.sipush 171, 3) := by decide +kernel
theorem qL_act_60 : decode (mB mL_act) 60 = .ok (.irem, 1) := by decide +kernel
theorem qL_act_61 : decode (mB mL_act) 61 = .ok (.bipush 20, 2) := by decide +kernel
theorem qL_act_63 : decode (mB mL_act) 63 = .ok (.isub, 1) := by decide +kernel
theorem qL_act_64 : decode (mB mL_act) 64 = .ok (.invokevirtual 222, 3) := by decide +kernel
theorem qL_act_67 : decode (mB mL_act) 67 = .ok (.bipush 100, 2) := by decide +kernel
theorem qL_act_69 : decode (mB mL_act) 69 = .ok (.iadd, 1) := by decide +kernel
theorem qL_act_70 : decode (mB mL_act) 70 = .ok (.ireturn, 1) := by decide +kernel
theorem qL_act_71 : decode (mB mL_act) 71 = .ok (.aload_n 1, 1) := by decide +kernel
theorem qL_act_72 : decode (mB mL_act) 72 = .ok (.invokestatic 106, 3) := by decide +kernel
theorem qL_act_75 : decode (mB mL_act) 75 = .ok (.ifCond .ne 7, 3) := by decide +kernel
theorem qL_act_78 : decode (mB mL_act) 78 = .ok (.sipush (-9999), 3) := by decide +kernel
theorem qL_act_81 : decode (mB mL_act) 81 = .ok (.ireturn, 1) := by decide +kernel
theorem qL_act_82 : decode (mB mL_act) 82 = .ok (.iload_n 3, 1) := by decide +kernel
theorem qL_act_83 : decode (mB mL_act) 83 = .ok (.aload_n 1, 1) := by decide +kernel
theorem qL_act_84 : decode (mB mL_act) 84 = .ok (.invokestatic 106, 3) := by decide +kernel
theorem qL_act_87 : decode (mB mL_act) 87 = .ok (.irem, 1) := by decide +kernel
theorem qL_act_88 : decode (mB mL_act) 88 = .ok (.istore 6, 2) := by decide +kernel
theorem qL_act_90 : decode (mB mL_act) 90 = .ok (.iload 5, 2) := by decide +kernel
theorem qL_act_92 : decode (mB mL_act) 92 = .ok (.bipush 13, 2) := by decide +kernel
theorem qL_act_94 : decode (mB mL_act) 94 = .ok (.if_icmp .ge 30, 3) := by decide +kernel
theorem qL_act_97 : decode (mB mL_act) 97 = .ok (.aload_n 1, 1) := by decide +kernel
theorem qL_act_98 : decode (mB mL_act) 98 = .ok (.invokestatic 93, 3) := by decide +kernel
theorem qL_act_101 : decode (mB mL_act) 101 = .ok (.ifCond .ne 9, 3) := by decide +kernel
theorem qL_act_104 : decode (mB mL_act) 104 = .ok (.sipush (-9999), 3) := by decide +kernel
theorem qL_act_107 : decode (mB mL_act) 107 = .ok (.goto 16, 3) := by decide +kernel
theorem qL_act_110 : decode (mB mL_act) 110 = .ok (.aload_n 0, 1) := by decide +kernel
theorem qL_act_111 : decode (mB mL_act) 111 = .ok (.iload 6, 2) := by decide +kernel
theorem qL_act_113 : decode (mB mL_act) 113 = .ok (.iload 4, 2) := by decide +kernel
theorem qL_act_115 : decode (mB mL_act) 115 = .ok (.aload_n 1, 1) := by decide +kernel
theorem qL_act_116 : decode (mB mL_act) 116 = .ok (.invokestatic 93, 3) := by decide +kernel
theorem qL_act_119 : decode (mB mL_act) 119 = .ok (.irem, 1) := by decide +kernel
theorem qL_act_120 : decode (mB mL_act) 120 = .ok (.invokestatic 225, 3) := by decide +kernel
theorem qL_act_123 : decode (mB mL_act) 123 = .ok (.ireturn, 1) := by decide +kernel
theorem qL_act_124 : decode (mB mL_act) 124 = .ok (.iload 5, 2) := by decide +kernel
theorem qL_act_126 : decode (mB mL_act) 126 = .ok (.bipush 18, 2) := by decide +kernel
theorem qL_act_128 : decode (mB mL_act) 128 = .ok (.if_icmp .ge 10, 3) := by decide +kernel
theorem qL_act_131 : decode (mB mL_act) 131 = .ok (.aload_n 0, 1) := by decide +kernel
theorem qL_act_132 : decode (mB mL_act) 132 = .ok (.iload 6, 2) := by decide +kernel
theorem qL_act_134 : decode (mB mL_act) 134 = .ok (.invokestatic 229, 3) := by decide +kernel
theorem qL_act_137 : decode (mB mL_act) 137 = .ok (.ireturn, 1) := by decide +kernel
theorem qL_act_138 : decode (mB mL_act) 138 = .ok (.iload 5, 2) := by decide +kernel
theorem qL_act_140 : decode (mB mL_act) 140 = .ok (.bipush 18, 2) := by decide +kernel
theorem qL_act_142 : decode (mB mL_act) 142 = .ok (.if_icmp .ne 10, 3) := by decide +kernel
theorem qL_act_145 : decode (mB mL_act) 145 = .ok (.aload_n 0, 1) := by decide +kernel
theorem qL_act_146 : decode (mB mL_act) 146 = .ok (.iload 6, 2) := by decide +kernel
theorem qL_act_148 : decode (mB mL_act) 148 = .ok (.invokestatic 233, 3) := by decide +kernel
theorem qL_act_151 : decode (mB mL_act) 151 = .ok (.ireturn, 1) := by decide +kernel
theorem qL_act_152 : decode (mB mL_act) 152 = .ok (.iload 5, 2) := by decide +kernel
theorem qL_act_154 : decode (mB mL_act) 154 = .ok (.bipush 19, 2) := by decide +kernel
theorem qL_act_156 : decode (mB mL_act) 156 = .ok (.if_icmp .ne 17, 3) := by decide +kernel
theorem qL_act_159 : decode (mB mL_act) 159 = .ok (.aload_n 0, 1) := by decide +kernel
theorem qL_act_160 : decode (mB mL_act) 160 = .ok (.iload 6, 2) := by decide +kernel
theorem qL_act_162 : decode (mB mL_act) 162 = .ok (.iconst 1, 1) := by decide +kernel
theorem qL_act_163 : decode (mB mL_act) 163 = .ok (.iload 4, 2) := by decide +kernel
theorem qL_act_165 : decode (mB mL_act) 165 = .ok (.bipush 20, 2) := by decide +kernel
theorem qL_act_167 : decode (mB mL_act) 167 = .ok (.irem, 1) := by decide +kernel
theorem qL_act_168 : decode (mB mL_act) 168 = .ok (.iadd, 1) := by decide +kernel
theorem qL_act_169 : decode (mB mL_act) 169 = .ok (.invokevirtual 236, 3) := by decide +kernel
theorem qL_act_172 : decode (mB mL_act) 172 = .ok (.ireturn, 1) := by decide +kernel
theorem qL_act_173 : decode (mB mL_act) 173 = .ok (.iload 5, 2) := by decide +kernel
theorem qL_act_175 : decode (mB mL_act) 175 = .ok (.bipush 20, 2) := by decide +kernel
theorem qL_act_177 : decode (mB mL_act) 177 = .ok (.if_icmp .ne 18, 3) := by decide +kernel
theorem qL_act_180 : decode (mB mL_act) 180 = .ok (.aload_n 0, 1) := by decide +kernel
theorem qL_act_181 : decode (mB mL_act) 181 = .ok (.iload 6, 2) := by decide +kernel
theorem qL_act_183 : decode (mB mL_act) 183 = .ok (.iconst 1, 1) := by decide +kernel
theorem qL_act_184 : decode (mB mL_act) 184 = .ok (.iload 4, 2) := by decide +kernel
theorem qL_act_186 : decode (mB mL_act) 186 = .ok (.sipush 300, 3) := by decide +kernel
theorem qL_act_189 : decode (mB mL_act) 189 = .ok (.irem, 1) := by decide +kernel
theorem qL_act_190 : decode (mB mL_act) 190 = .ok (.iadd, 1) := by decide +kernel
theorem qL_act_191 : decode (mB mL_act) 191 = .ok (.invokestatic 239, 3) := by decide +kernel
theorem qL_act_194 : decode (mB mL_act) 194 = .ok (.ireturn, 1) := by decide +kernel
theorem qL_act_195 : decode (mB mL_act) 195 = .ok (.iload 5, 2) := by decide +kernel
theorem qL_act_197 : decode (mB mL_act) 197 = .ok (.bipush 21, 2) := by decide +kernel
theorem qL_act_199 : decode (mB mL_act) 199 = .ok (.if_icmp .ne 30, 3) := by decide +kernel
theorem qL_act_202 : decode (mB mL_act) 202 = .ok (.aload_n 0, 1) := by decide +kernel
theorem qL_act_203 : decode (mB mL_act) 203 = .ok (.iload 6, 2) := by decide +kernel
theorem qL_act_205 : decode (mB mL_act) 205 = .ok (.iload 4, 2) := by decide +kernel
theorem qL_act_207 : decode (mB mL_act) 207 = .ok (.iconst 2, 1) := by decide +kernel
theorem qL_act_208 : decode (mB mL_act) 208 = .ok (.irem, 1) := by decide +kernel
theorem qL_act_209 : decode (mB mL_act) 209 = .ok (.ifCond .ne 7, 3) := by decide +kernel
theorem qL_act_212 : decode (mB mL_act) 212 = .ok (.iconst 1, 1) := by decide +kernel
theorem qL_act_213 : decode (mB mL_act) 213 = .ok (.goto 4, 3) := by decide +kernel
theorem qL_act_216 : decode (mB mL_act) 216 = .ok (.iconst 0, 1) := by decide +kernel
theorem qL_act_217 : decode (mB mL_act) 217 = .ok (.invokevirtual 242, 3) := by decide +kernel
theorem qL_act_220 : decode (mB mL_act) 220 = .ok (.ifCond .eq 7, 3) := by decide +kernel
theorem qL_act_223 : decode (mB mL_act) 223 = .ok (.iconst 1, 1) := by decide +kernel
theorem qL_act_224 : decode (mB mL_act) 224 = .ok (.goto 4, 3) := by decide +kernel
theorem qL_act_227 : decode (mB mL_act) 227 = .ok (.iconst 0, 1) := by decide +kernel
theorem qL_act_228 : decode (mB mL_act) 228 = .ok (.ireturn, 1) := by decide +kernel
theorem qL_act_229 : decode (mB mL_act) 229 = .ok (.iload 5, 2) := by decide +kernel
theorem qL_act_231 : decode (mB mL_act) 231 = .ok (.bipush 22, 2) := by decide +kernel
theorem qL_act_233 : decode (mB mL_act) 233 = .ok (.if_icmp .ne 34, 3) := by decide +kernel
theorem qL_act_236 : decode (mB mL_act) 236 = .ok (.aload_n 0, 1) := by decide +kernel
theorem qL_act_237 : decode (mB mL_act) 237 = .ok (.iload 6, 2) := by decide +kernel
theorem qL_act_239 : decode (mB mL_act) 239 = .ok (.invokevirtual 175, 3) := by decide +kernel
theorem qL_act_242 : decode (mB mL_act) 242 = .ok (.ifCond .ne 9, 3) := by decide +kernel
theorem qL_act_245 : decode (mB mL_act) 245 = .ok (.sipush (-9999), 3) := by decide +kernel
theorem qL_act_248 : decode (mB mL_act) 248 = .ok (.goto 18, 3) := by decide +kernel
theorem qL_act_251 : decode (mB mL_act) 251 = .ok (.aload_n 0, 1) := by decide +kernel
theorem qL_act_252 : decode (mB mL_act) 252 = .ok (.iload 6, 2) := by decide +kernel
theorem qL_act_254 : decode (mB mL_act) 254 = .ok (.iload 4, 2) := by decide +kernel
theorem qL_act_256 : decode (mB mL_act) 256 = .ok (.aload_n 0, 1) := by decide +kernel
theorem qL_act_257 : decode (mB mL_act) 257 = .ok (.iload 6, 2) := by decide +kernel
theorem qL_act_259 : decode (mB mL_act) 259 = .ok (.invokevirtual 175, 3) := by decide +kernel
theorem qL_act_262 : decode (mB mL_act) 262 = .ok (.irem, 1) := by decide +kernel
theorem qL_act_263 : decode (mB mL_act) 263 = .ok (.invokevirtual 246, 3) := by decide +kernel
theorem qL_act_266 : decode (mB mL_act) 266 = .ok (.ireturn, 1) := by decide +kernel
theorem qL_act_267 : decode (mB mL_act) 267 = .ok (.aload_n 0, 1) := by decide +kernel
theorem qL_act_268 : decode (mB mL_act) 268 = .ok (.iconst 1, 1) := by decide +kernel
theorem qL_act_269 : decode (mB mL_act) 269 = .ok (.invokevirtual 219, 3) := by decide +kernel
theorem qL_act_272 : decode (mB mL_act) 272 = .ok (.ireturn, 1) := by decide +kernel
theorem qL_all_0 : decode (mB mL_all) 0 = .ok (.ldc2_w 178, 3) := by decide +kernel
theorem qL_all_3 : decode (mB mL_all) 3 = .ok (.lstore_n 2, 1) := by decide +kernel
theorem qL_all_4 : decode (mB mL_all) 4 = .ok (.iconst 0, 1) := by decide +kernel
theorem qL_all_5 : decode (mB mL_all) 5 = .ok (.istore 4, 2) := by decide +kernel
theorem qL_all_7 : decode (mB mL_all) 7 = .ok (.iload 4, 2) := by decide +kernel
theorem qL_all_9 : decode (mB mL_all) 9 = .ok (.aload_n 1, 1) := by decide +kernel
theorem qL_all_10 : decode (mB mL_all) 10 = .ok (.invokestatic 106, 3) := by decide +kernel
theorem qL_all_13 : decode (mB mL_all) 13 = .ok (.if_icmp .ge 117, 3) := by decide +kernel
theorem qL_all_16 : decode (mB mL_all) 16 = .ok (.ldc2_w 180, 3) := by decide +kernel
theorem qL_all_19 : decode (mB mL_all) 19 = .ok (.lload_n 2, 1) := by decide +kernel
theorem qL_all_20 : decode (mB mL_all) 20 = .ok (.lmul, 1) := by decide +kernel
theorem qL_all_21 : decode (mB mL_all) 21 = .ok (.ldc2_w 182, 3) := by decide +kernel
theorem qL_all_24 : decode (mB mL_all) 24 = .ok (.aload_n 0, 1) := by decide +kernel
theorem qL_all_25 : decode (mB mL_all) 25 = .ok (.iload 4, 2) := by decide +kernel
theorem qL_all_27 : decode (mB mL_all) 27 = .ok (.invokevirtual 162, 3) := by decide +kernel
theorem qL_all_30 : decode (mB mL_all) 30 = .ok (.i2l, 1) := by decide +kernel
theorem qL_all_31 : decode (mB mL_all) 31 = .ok (.lmul, 1) := by decide +kernel
theorem qL_all_32 : decode (mB mL_all) 32 = .ok (.ladd, 1) := by decide +kernel
theorem qL_all_33 : decode (mB mL_all) 33 = .ok (.ldc2_w 184, 3) := by decide +kernel
theorem qL_all_36 : decode (mB mL_all) 36 = .ok (.aload_n 0, 1) := by decide +kernel
theorem qL_all_37 : decode (mB mL_all) 37 = .ok (.iload 4, 2) := by decide +kernel
theorem qL_all_39 : decode (mB mL_all) 39 = .ok (.invokevirtual 165, 3) := by decide +kernel
theorem qL_all_42 : decode (mB mL_all) 42 = .ok (.i2l, 1) := by decide +kernel
theorem qL_all_43 : decode (mB mL_all) 43 = .ok (.lmul, 1) := by decide +kernel
theorem qL_all_44 : decode (mB mL_all) 44 = .ok (.ladd, 1) := by decide +kernel
theorem qL_all_45 : decode (mB mL_all) 45 = .ok (.ldc2_w 186, 3) := by decide +kernel
theorem qL_all_48 : decode (mB mL_all) 48 = .ok (.aload_n 0, 1) := by decide +kernel
theorem qL_all_49 : decode (mB mL_all) 49 = .ok (.iload 4, 2) := by decide +kernel
theorem qL_all_51 : decode (mB mL_all) 51 = .ok (.invokevirtual 168, 3) := by decide +kernel
theorem qL_all_54 : decode (mB mL_all) 54 = .ok (.i2l, 1) := by decide +kernel
theorem qL_all_55 : decode (mB mL_all) 55 = .ok (.lmul, 1) := by decide +kernel
theorem qL_all_56 : decode (mB mL_all) 56 = .ok (.ladd, 1) := by decide +kernel
theorem qL_all_57 : decode (mB mL_all) 57 = .ok (.aload_n 0, 1) := by decide +kernel
theorem qL_all_58 : decode (mB mL_all) 58 = .ok (.iload 4, 2) := by decide +kernel
theorem qL_all_60 : decode (mB mL_all) 60 = .ok (.invokevirtual 171, 3) := by decide +kernel
theorem qL_all_63 : decode (mB mL_all) 63 = .ok (.ifCond .eq 7, 3) := by decide +kernel
theorem qL_all_66 : decode (mB mL_all) 66 = .ok (.iconst 1, 1) := by decide +kernel
theorem qL_all_67 : decode (mB mL_all) 67 = .ok (.goto 4, 3) := by decide +kernel
theorem qL_all_70 : decode (mB mL_all) 70 = .ok (.iconst 0, 1) := by decide +kernel
theorem qL_all_71 : decode (mB mL_all) 71 = .ok (.i2l, 1) := by decide +kernel
theorem qL_all_72 : decode (mB mL_all) 72 = .ok (.ladd, 1) := by decide +kernel
theorem qL_all_73 : decode (mB mL_all) 73 = .ok (.lstore_n 2, 1) := by decide +kernel
theorem qL_all_74 : decode (mB mL_all) 74 = .ok (.iconst 0, 1) := by decide +kernel
theorem qL_all_75 : decode (mB mL_all) 75 = .ok (.istore 5, 2) := by decide +kernel
theorem qL_all_77 : decode (mB mL_all) 77 = .ok (.iload 5, 2) := by decide +kernel
theorem qL_all_79 : decode (mB mL_all) 79 = .ok (.aload_n 0, 1) := by decide +kernel
theorem qL_all_80 : decode (mB mL_all) 80 = .ok (.iload 4, 2) := by decide +kernel
theorem qL_all_82 : decode (mB mL_all) 82 = .ok (.invokevirtual 175, 3) := by decide +kernel
theorem qL_all_85 : decode (mB mL_all) 85 = .ok (.if_icmp .ge 39, 3) := by decide +kernel
theorem qL_all_88 : decode (mB mL_all) 88 = .ok (.ldc2_w 188, 3) := by decide +kernel
theorem qL_all_91 : decode (mB mL_all) 91 = .ok (.lload_n 2, 1) := by decide +kernel
theorem qL_all_92 : decode (mB mL_all) 92 = .ok (.lmul, 1) := by decide +kernel
theorem qL_all_93 : decode (mB mL_all) 93 = .ok (.ldc2_w 190, 3) := by decide +kernel
theorem qL_all_96 : decode (mB mL_all) 96 = .ok (.aload_n 0, 1) := by decide +kernel
theorem qL_all_97 : decode (mB mL_all) 97 = .ok (.iload 4, 2) := by decide +kernel
theorem qL_all_99 : decode (mB mL_all) 99 = .ok (.iload 5, 2) := by decide +kernel
theorem qL_all_101 : decode (mB mL_all) 101 = .ok (.invokevirtual 192, 3) := by decide +kernel
theorem qL_all_104 : decode (mB mL_all) 104 = .ok (.i2l, 1) := by decide +kernel
theorem qL_all_105 : decode (mB mL_all) 105 = .ok (.lmul, 1) := by decide +kernel
theorem qL_all_106 : decode (mB mL_all) 106 = .ok (.ladd, 1) := by decide +kernel
theorem qL_all_107 : decode (mB mL_all) 107 = .ok (.aload_n 0, 1) := by decide +kernel
theorem qL_all_108 : decode (mB mL_all) 108 = .ok (.iload 4, 2) := by decide +kernel
theorem qL_all_110 : decode (mB mL_all) 110 = .ok (.iload 5, 2) := by decide +kernel
theorem qL_all_112 : decode (mB mL_all) 112 = .ok (.invokevirtual 195, 3) := by decide +kernel
theorem qL_all_115 : decode (mB mL_all) 115 = .ok (.i2l, 1) := by decide +kernel
theorem qL_all_116 : decode (mB mL_all) 116 = .ok (.ladd, 1) := by decide +kernel
theorem qL_all_117 : decode (mB mL_all) 117 = .ok (.lstore_n 2, 1) := by decide +kernel
theorem qL_all_118 : decode (mB mL_all) 118 = .ok (.iinc 5 1, 3) := by decide +kernel
theorem qL_all_121 : decode (mB mL_all) 121 = .ok (.goto (-44), 3) := by decide +kernel
theorem qL_all_124 : decode (mB mL_all) 124 = .ok (.iinc 4 1, 3) := by decide +kernel
theorem qL_all_127 : decode (mB mL_all) 127 = .ok (.goto (-120), 3) := by decide +kernel
theorem qL_all_130 : decode (mB mL_all) 130 = .ok (.iconst 0, 1) := by decide +kernel
theorem qL_all_131 : decode (mB mL_all) 131 = .ok (.istore 4, 2) := by decide +kernel
theorem qL_all_133 : decode (mB mL_all) 133 = .ok (.iload 4, 2) := by decide +kernel
theorem qL_all_135 : decode (mB mL_all) 135 = .ok (.aload_n 1, 1) := by decide +kernel
theorem qL_all_136 : decode (mB mL_all) 136 = .ok (.invokestatic 44, 3) := by decide +kernel
theorem qL_all_139 : decode (mB mL_all) 139 = .ok (.if_icmp .ge 23, 3) := by decide +kernel
theorem qL_all_142 : decode (mB mL_all) 142 = .ok (.ldc2_w 198, 3) := by decide +kernel
theorem qL_all_145 : decode (mB mL_all) 145 = .ok (.lload_n 2, 1) := by decide +kernel
theorem qL_all_146 : decode (mB mL_all) 146 = .ok (.lmul, 1) := by decide +kernel
theorem qL_all_147 : decode (mB mL_all) 147 = .ok (.aload_n 0, 1) := by decide +kernel
theorem qL_all_148 : decode (mB mL_all) 148 = .ok (.iload 4, 2) := by decide +kernel
theorem qL_all_150 : decode (mB mL_all) 150 = .ok (.invokevirtual 156, 3) := by decide +kernel
theorem qL_all_153 : decode (mB mL_all) 153 = .ok (.i2l, 1) := by decide +kernel
theorem qL_all_154 : decode (mB mL_all) 154 = .ok (.ladd, 1) := by decide +kernel
theorem qL_all_155 : decode (mB mL_all) 155 = .ok (.lstore_n 2, 1) := by decide +kernel
theorem qL_all_156 : decode (mB mL_all) 156 = .ok (.iinc 4 1, 3) := by decide +kernel
theorem qL_all_159 : decode (mB mL_all) 159 = .ok (.goto (-26), 3) := by decide +kernel
theorem qL_all_162 : decode (mB mL_all) 162 = .ok (.ldc2_w 200, 3) := by decide +kernel
theorem qL_all_165 : decode (mB mL_all) 165 = .ok (.lload_n 2, 1) := by decide +kernel
theorem qL_all_166 : decode (mB mL_all) 166 = .ok (.lmul, 1) := by decide +kernel
theorem qL_all_167 : decode (mB mL_all) 167 = .ok (.ldc2_w 202, 3) := by decide +kernel
theorem qL_all_170 : decode (mB mL_all) 170 = .ok (.aload_n 0, 1) := by decide +kernel
theorem qL_all_171 : decode (mB mL_all) 171 = .ok (.invokevirtual 138, 3) := by decide +kernel
theorem qL_all_174 : decode (mB mL_all) 174 = .ok (.i2l, 1) := by decide +kernel
theorem qL_all_175 : decode (mB mL_all) 175 = .ok (.lmul, 1) := by decide +kernel
theorem qL_all_176 : decode (mB mL_all) 176 = .ok (.ladd, 1) := by decide +kernel
theorem qL_all_177 : decode (mB mL_all) 177 = .ok (.ldc2_w 184, 3) := by decide +kernel
theorem qL_all_180 : decode (mB mL_all) 180 = .ok (.aload_n 0, 1) := by decide +kernel
theorem qL_all_181 : decode (mB mL_all) 181 = .ok (.invokevirtual 141, 3) := by decide +kernel
theorem qL_all_184 : decode (mB mL_all) 184 = .ok (.i2l, 1) := by decide +kernel
theorem qL_all_185 : decode (mB mL_all) 185 = .ok (.lmul, 1) := by decide +kernel
theorem qL_all_186 : decode (mB mL_all) 186 = .ok (.ladd, 1) := by decide +kernel
theorem qL_all_187 : decode (mB mL_all) 187 = .ok (.ldc2_w 186, 3) := by decide +kernel
theorem qL_all_190 : decode (mB mL_all) 190 = .ok (.aload_n 0, 1) := by decide +kernel
theorem qL_all_191 : decode (mB mL_all) 191 = .ok (.invokevirtual 144, 3) := by decide +kernel
theorem qL_all_194 : decode (mB mL_all) 194 = .ok (.i2l, 1) := by decide +kernel
theorem qL_all_195 : decode (mB mL_all) 195 = .ok (.lmul, 1) := by decide +kernel
theorem qL_all_196 : decode (mB mL_all) 196 = .ok (.ladd, 1) := by decide +kernel
theorem qL_all_197 : decode (mB mL_all) 197 = .ok (.aload_n 0, 1) := by decide +kernel
theorem qL_all_198 : decode (mB mL_all) 198 = .ok (.invokevirtual 147, 3) := by decide +kernel
theorem qL_all_201 : decode (mB mL_all) 201 = .ok (.i2l, 1) := by decide +kernel
theorem qL_all_202 : decode (mB mL_all) 202 = .ok (.ladd, 1) := by decide +kernel
theorem qL_all_203 : decode (mB mL_all) 203 = .ok (.lreturn, 1) := by decide +kernel
theorem qL_baths_0 : decode (mB mL_baths) 0 = .ok (.aload_n 0, 1) := by decide +kernel
theorem qL_baths_1 : decode (mB mL_baths) 1 = .ok (.iconst 3, 1) := by decide +kernel
theorem qL_baths_2 : decode (mB mL_baths) 2 = .ok (.iconst 5, 1) := by decide +kernel
theorem qL_baths_3 : decode (mB mL_baths) 3 = .ok (.invokestatic 40, 3) := by decide +kernel
theorem qL_baths_6 : decode (mB mL_baths) 6 = .ok (.ireturn, 1) := by decide +kernel
theorem qL_bore_0 : decode (mB mL_bore) 0 = .ok (.iconst 1, 1) := by decide +kernel
theorem qL_bore_1 : decode (mB mL_bore) 1 = .ok (.aload_n 0, 1) := by decide +kernel
theorem qL_bore_2 : decode (mB mL_bore) 2 = .ok (.bipush 18, 2) := by decide +kernel
theorem qL_bore_4 : decode (mB mL_bore) 4 = .ok (.iconst 5, 1) := by decide +kernel
theorem qL_bore_5 : decode (mB mL_bore) 5 = .ok (.iload_n 1, 1) := by decide +kernel
theorem qL_bore_6 : decode (mB mL_bore) 6 = .ok (.imul, 1) := by decide +kernel
theorem qL_bore_7 : decode (mB mL_bore) 7 = .ok (.iadd, 1) := by decide +kernel
theorem qL_bore_8 : decode (mB mL_bore) 8 = .ok (.bipush 9, 2) := by decide +kernel
theorem qL_bore_10 : decode (mB mL_bore) 10 = .ok (.invokestatic 40, 3) := by decide +kernel
theorem qL_bore_13 : decode (mB mL_bore) 13 = .ok (.iadd, 1) := by decide +kernel
theorem qL_bore_14 : decode (mB mL_bore) 14 = .ok (.ireturn, 1) := by decide +kernel
theorem qL_bulb_0 : decode (mB mL_bulb) 0 = .ok (.iconst 1, 1) := by decide +kernel
theorem qL_bulb_1 : decode (mB mL_bulb) 1 = .ok (.aload_n 0, 1) := by decide +kernel
theorem qL_bulb_2 : decode (mB mL_bulb) 2 = .ok (.bipush 17, 2) := by decide +kernel
theorem qL_bulb_4 : decode (mB mL_bulb) 4 = .ok (.iconst 5, 1) := by decide +kernel
theorem qL_bulb_5 : decode (mB mL_bulb) 5 = .ok (.iload_n 1, 1) := by decide +kernel
theorem qL_bulb_6 : decode (mB mL_bulb) 6 = .ok (.imul, 1) := by decide +kernel
theorem qL_bulb_7 : decode (mB mL_bulb) 7 = .ok (.iadd, 1) := by decide +kernel
theorem qL_bulb_8 : decode (mB mL_bulb) 8 = .ok (.bipush 50, 2) := by decide +kernel
theorem qL_bulb_10 : decode (mB mL_bulb) 10 = .ok (.invokestatic 40, 3) := by decide +kernel
theorem qL_bulb_13 : decode (mB mL_bulb) 13 = .ok (.iadd, 1) := by decide +kernel
theorem qL_bulb_14 : decode (mB mL_bulb) 14 = .ok (.ireturn, 1) := by decide +kernel
theorem qL_degrees_0 : decode (mB mL_degrees) 0 = .ok (.aload_n 0, 1) := by decide +kernel
theorem qL_degrees_1 : decode (mB mL_degrees) 1 = .ok (.bipush 10, 2) := by decide +kernel
theorem qL_degrees_3 : decode (mB mL_degrees) 3 = .ok (.iload_n 1, 1) := by decide +kernel
theorem qL_degrees_4 : decode (mB mL_degrees) 4 = .ok (.iadd, 1) := by decide +kernel
theorem qL_degrees_5 : decode (mB mL_degrees) 5 = .ok (.sipush 171, 3) := by decide +kernel
theorem qL_degrees_8 : decode (mB mL_degrees) 8 = .ok (.invokestatic 40, 3) := by decide +kernel
theorem qL_degrees_11 : decode (mB mL_degrees) 11 = .ok (.bipush 20, 2) := by decide +kernel
theorem qL_degrees_13 : decode (mB mL_degrees) 13 = .ok (.isub, 1) := by decide +kernel
theorem qL_degrees_14 : decode (mB mL_degrees) 14 = .ok (.ireturn, 1) := by decide +kernel
theorem qL_dipped_0 : decode (mB mL_dipped) 0 = .ok (.aload_n 0, 1) := by decide +kernel
theorem qL_dipped_1 : decode (mB mL_dipped) 1 = .ok (.iload_n 1, 1) := by decide +kernel
theorem qL_dipped_2 : decode (mB mL_dipped) 2 = .ok (.iload_n 2, 1) := by decide +kernel
theorem qL_dipped_3 : decode (mB mL_dipped) 3 = .ok (.invokevirtual 204, 3) := by decide +kernel
theorem qL_dipped_6 : decode (mB mL_dipped) 6 = .ok (.ireturn, 1) := by decide +kernel
theorem qL_dipped_7 : decode (mB mL_dipped) 7 = .ok (.astore_n 3, 1) := by decide +kernel
theorem qL_dipped_8 : decode (mB mL_dipped) 8 = .ok (.sipush (-9999), 3) := by decide +kernel
theorem qL_dipped_11 : decode (mB mL_dipped) 11 = .ok (.ireturn, 1) := by decide +kernel
theorem qL_draw_0 : decode (mB mL_draw) 0 = .ok (.iload_n 1, 1) := by decide +kernel
theorem qL_draw_1 : decode (mB mL_draw) 1 = .ok (.aload_n 0, 1) := by decide +kernel
theorem qL_draw_2 : decode (mB mL_draw) 2 = .ok (.arraylength, 1) := by decide +kernel
theorem qL_draw_3 : decode (mB mL_draw) 3 = .ok (.if_icmp .ge 9, 3) := by decide +kernel
theorem qL_draw_6 : decode (mB mL_draw) 6 = .ok (.aload_n 0, 1) := by decide +kernel
theorem qL_draw_7 : decode (mB mL_draw) 7 = .ok (.iload_n 1, 1) := by decide +kernel
theorem qL_draw_8 : decode (mB mL_draw) 8 = .ok (.iaload, 1) := by decide +kernel
theorem qL_draw_9 : decode (mB mL_draw) 9 = .ok (.goto 4, 3) := by decide +kernel
theorem qL_draw_12 : decode (mB mL_draw) 12 = .ok (.iconst 0, 1) := by decide +kernel
theorem qL_draw_13 : decode (mB mL_draw) 13 = .ok (.ldc 7, 2) := by decide +kernel
theorem qL_draw_15 : decode (mB mL_draw) 15 = .ok (.iand, 1) := by decide +kernel
theorem qL_draw_16 : decode (mB mL_draw) 16 = .ok (.iload_n 2, 1) := by decide +kernel
theorem qL_draw_17 : decode (mB mL_draw) 17 = .ok (.irem, 1) := by decide +kernel
theorem qL_draw_18 : decode (mB mL_draw) 18 = .ok (.ireturn, 1) := by decide +kernel
theorem qL_expansion_0 : decode (mB mL_expansion) 0 = .ok (.iconst 1, 1) := by decide +kernel
theorem qL_expansion_1 : decode (mB mL_expansion) 1 = .ok (.aload_n 0, 1) := by decide +kernel
theorem qL_expansion_2 : decode (mB mL_expansion) 2 = .ok (.bipush 6, 2) := by decide +kernel
theorem qL_expansion_4 : decode (mB mL_expansion) 4 = .ok (.iload_n 1, 1) := by decide +kernel
theorem qL_expansion_5 : decode (mB mL_expansion) 5 = .ok (.iadd, 1) := by decide +kernel
theorem qL_expansion_6 : decode (mB mL_expansion) 6 = .ok (.bipush 40, 2) := by decide +kernel
theorem qL_expansion_8 : decode (mB mL_expansion) 8 = .ok (.invokestatic 40, 3) := by decide +kernel
theorem qL_expansion_11 : decode (mB mL_expansion) 11 = .ok (.iadd, 1) := by decide +kernel
theorem qL_expansion_12 : decode (mB mL_expansion) 12 = .ok (.ireturn, 1) := by decide +kernel
theorem qL_feed_0 : decode (mB mL_feed) 0 = .ok (.iconst 0, 1) := by decide +kernel
theorem qL_feed_1 : decode (mB mL_feed) 1 = .ok (.istore_n 2, 1) := by decide +kernel
theorem qL_feed_2 : decode (mB mL_feed) 2 = .ok (.iconst 0, 1) := by decide +kernel
theorem qL_feed_3 : decode (mB mL_feed) 3 = .ok (.istore_n 3, 1) := by decide +kernel
theorem qL_feed_4 : decode (mB mL_feed) 4 = .ok (.iload_n 3, 1) := by decide +kernel
theorem qL_feed_5 : decode (mB mL_feed) 5 = .ok (.aload_n 1, 1) := by decide +kernel
theorem qL_feed_6 : decode (mB mL_feed) 6 = .ok (.invokevirtual 8, 3) := by decide +kernel
theorem qL_feed_9 : decode (mB mL_feed) 9 = .ok (.if_icmp .lt 7, 3) := by decide +kernel
theorem qL_feed_12 : decode (mB mL_feed) 12 = .ok (.iload_n 3, 1) := by decide +kernel
theorem qL_feed_13 : decode (mB mL_feed) 13 = .ok (.ifCond .ne 50, 3) := by decide +kernel
theorem qL_feed_16 : decode (mB mL_feed) 16 = .ok (.aload_n 0, 1) := by decide +kernel
theorem qL_feed_17 : decode (mB mL_feed) 17 = .ok (.aload_n 1, 1) := by decide +kernel
theorem qL_feed_18 : decode (mB mL_feed) 18 = .ok (.iload_n 3, 1) := by decide +kernel
theorem qL_feed_19 : decode (mB mL_feed) 19 = .ok (.invokestatic 18, 3) := by decide +kernel
theorem qL_feed_22 : decode (mB mL_feed) 22 = .ok (.aload_n 1, 1) := by decide +kernel
theorem qL_feed_23 : decode (mB mL_feed) 23 = .ok (.iload_n 3, 1) := by decide +kernel
theorem qL_feed_24 : decode (mB mL_feed) 24 = .ok (.iconst 4, 1) := by decide +kernel
theorem qL_feed_25 : decode (mB mL_feed) 25 = .ok (.iadd, 1) := by decide +kernel
theorem qL_feed_26 : decode (mB mL_feed) 26 = .ok (.invokestatic 18, 3) := by decide +kernel
theorem qL_feed_29 : decode (mB mL_feed) 29 = .ok (.aload_n 1, 1) := by decide +kernel
theorem qL_feed_30 : decode (mB mL_feed) 30 = .ok (.iload_n 3, 1) := by decide +kernel
theorem qL_feed_31 : decode (mB mL_feed) 31 = .ok (.bipush 8, 2) := by decide +kernel
theorem qL_feed_33 : decode (mB mL_feed) 33 = .ok (.iadd, 1) := by decide +kernel
theorem qL_feed_34 : decode (mB mL_feed) 34 = .ok (.invokestatic 18, 3) := by decide +kernel
theorem qL_feed_37 : decode (mB mL_feed) 37 = .ok (.aload_n 1, 1) := by decide +kernel
theorem qL_feed_38 : decode (mB mL_feed) 38 = .ok (.iload_n 3, 1) := by decide +kernel
theorem qL_feed_39 : decode (mB mL_feed) 39 = .ok (.bipush 12, 2) := by decide +kernel
theorem qL_feed_41 : decode (mB mL_feed) 41 = .ok (.iadd, 1) := by decide +kernel
theorem qL_feed_42 : decode (mB mL_feed) 42 = .ok (.invokestatic 18, 3) := by decide +kernel
theorem qL_feed_45 : decode (mB mL_feed) 45 = .ok (.aload_n 1, 1) := by decide +kernel
theorem qL_feed_46 : decode (mB mL_feed) 46 = .ok (.iload_n 3, 1) := by decide +kernel
theorem qL_feed_47 : decode (mB mL_feed) 47 = .ok (.bipush 16, 2) := by decide +kernel
theorem qL_feed_49 : decode (mB mL_feed) 49 = .ok (.iadd, 1) := by decide +kernel
theorem qL_feed_50 : decode (mB mL_feed) 50 = .ok (.invokestatic 18, 3) := by decide +kernel
theorem qL_feed_53 : decode (mB mL_feed) 53 = .ok (.invokevirtual 24, 3) := by decide +kernel
theorem qL_feed_56 : decode (mB mL_feed) 56 = .ok (.istore_n 2, 1) := by decide +kernel
theorem qL_feed_57 : decode (mB mL_feed) 57 = .ok (.iinc 3 20, 3) := by decide +kernel
theorem qL_feed_60 : decode (mB mL_feed) 60 = .ok (.goto (-56), 3) := by decide +kernel
theorem qL_feed_63 : decode (mB mL_feed) 63 = .ok (.aload_n 0, 1) := by decide +kernel
theorem qL_feed_64 : decode (mB mL_feed) 64 = .ok (.iload_n 2, 1) := by decide +kernel
theorem qL_feed_65 : decode (mB mL_feed) 65 = .ok (.aload_n 1, 1) := by decide +kernel
theorem qL_feed_66 : decode (mB mL_feed) 66 = .ok (.invokevirtual 8, 3) := by decide +kernel
theorem qL_feed_69 : decode (mB mL_feed) 69 = .ok (.invokestatic 30, 3) := by decide +kernel
theorem qL_feed_72 : decode (mB mL_feed) 72 = .ok (.invokevirtual 36, 3) := by decide +kernel
theorem qL_feed_75 : decode (mB mL_feed) 75 = .ok (.pop, 1) := by decide +kernel
theorem qL_feed_76 : decode (mB mL_feed) 76 = .ok (.return_, 1) := by decide +kernel
theorem qL_fill_0 : decode (mB mL_fill) 0 = .ok (.aload_n 0, 1) := by decide +kernel
theorem qL_fill_1 : decode (mB mL_fill) 1 = .ok (.bipush 20, 2) := by decide +kernel
theorem qL_fill_3 : decode (mB mL_fill) 3 = .ok (.iconst 5, 1) := by decide +kernel
theorem qL_fill_4 : decode (mB mL_fill) 4 = .ok (.iload_n 1, 1) := by decide +kernel
theorem qL_fill_5 : decode (mB mL_fill) 5 = .ok (.imul, 1) := by decide +kernel
theorem qL_fill_6 : decode (mB mL_fill) 6 = .ok (.iadd, 1) := by decide +kernel
theorem qL_fill_7 : decode (mB mL_fill) 7 = .ok (.bipush 120, 2) := by decide +kernel
theorem qL_fill_9 : decode (mB mL_fill) 9 = .ok (.invokestatic 40, 3) := by decide +kernel
theorem qL_fill_12 : decode (mB mL_fill) 12 = .ok (.ireturn, 1) := by decide +kernel
theorem qL_fit_0 : decode (mB mL_fit) 0 = .ok (.iconst 0, 1) := by decide +kernel
theorem qL_fit_1 : decode (mB mL_fit) 1 = .ok (.istore_n 2, 1) := by decide +kernel
theorem qL_fit_2 : decode (mB mL_fit) 2 = .ok (.iconst 0, 1) := by decide +kernel
theorem qL_fit_3 : decode (mB mL_fit) 3 = .ok (.istore_n 3, 1) := by decide +kernel
theorem qL_fit_4 : decode (mB mL_fit) 4 = .ok (.iload_n 3, 1) := by decide +kernel
theorem qL_fit_5 : decode (mB mL_fit) 5 = .ok (.aload_n 0, 1) := by decide +kernel
theorem qL_fit_6 : decode (mB mL_fit) 6 = .ok (.iload_n 1, 1) := by decide +kernel
theorem qL_fit_7 : decode (mB mL_fit) 7 = .ok (.invokevirtual 175, 3) := by decide +kernel
theorem qL_fit_10 : decode (mB mL_fit) 10 = .ok (.if_icmp .ge 38, 3) := by decide +kernel
theorem qL_fit_13 : decode (mB mL_fit) 13 = .ok (.iload_n 2, 1) := by decide +kernel
theorem qL_fit_14 : decode (mB mL_fit) 14 = .ok (.bipush 10, 2) := by decide +kernel
theorem qL_fit_16 : decode (mB mL_fit) 16 = .ok (.aload_n 0, 1) := by decide +kernel
theorem qL_fit_17 : decode (mB mL_fit) 17 = .ok (.iload_n 1, 1) := by decide +kernel
theorem qL_fit_18 : decode (mB mL_fit) 18 = .ok (.iload_n 3, 1) := by decide +kernel
theorem qL_fit_19 : decode (mB mL_fit) 19 = .ok (.invokevirtual 192, 3) := by decide +kernel
theorem qL_fit_22 : decode (mB mL_fit) 22 = .ok (.imul, 1) := by decide +kernel
theorem qL_fit_23 : decode (mB mL_fit) 23 = .ok (.aload_n 0, 1) := by decide +kernel
theorem qL_fit_24 : decode (mB mL_fit) 24 = .ok (.iload_n 1, 1) := by decide +kernel
theorem qL_fit_25 : decode (mB mL_fit) 25 = .ok (.aload_n 0, 1) := by decide +kernel
theorem qL_fit_26 : decode (mB mL_fit) 26 = .ok (.iload_n 1, 1) := by decide +kernel
theorem qL_fit_27 : decode (mB mL_fit) 27 = .ok (.iload_n 3, 1) := by decide +kernel
theorem qL_fit_28 : decode (mB mL_fit) 28 = .ok (.invokevirtual 195, 3) := by decide +kernel
theorem qL_fit_31 : decode (mB mL_fit) 31 = .ok (.invokestatic 284, 3) := by decide +kernel
theorem qL_fit_34 : decode (mB mL_fit) 34 = .ok (.isub, 1) := by decide +kernel
theorem qL_fit_35 : decode (mB mL_fit) 35 = .ok (.invokestatic 63, 3) := by decide +kernel
theorem qL_fit_38 : decode (mB mL_fit) 38 = .ok (.invokestatic 299, 3) := by decide +kernel
theorem qL_fit_41 : decode (mB mL_fit) 41 = .ok (.istore_n 2, 1) := by decide +kernel
theorem qL_fit_42 : decode (mB mL_fit) 42 = .ok (.iinc 3 1, 3) := by decide +kernel
theorem qL_fit_45 : decode (mB mL_fit) 45 = .ok (.goto (-41), 3) := by decide +kernel
theorem qL_fit_48 : decode (mB mL_fit) 48 = .ok (.iload_n 2, 1) := by decide +kernel
theorem qL_fit_49 : decode (mB mL_fit) 49 = .ok (.ireturn, 1) := by decide +kernel
theorem qL_four_0 : decode (mB mL_four) 0 = .ok (.iconst 0, 1) := by decide +kernel
theorem qL_four_1 : decode (mB mL_four) 1 = .ok (.istore_n 2, 1) := by decide +kernel
theorem qL_four_2 : decode (mB mL_four) 2 = .ok (.iconst 0, 1) := by decide +kernel
theorem qL_four_3 : decode (mB mL_four) 3 = .ok (.istore_n 3, 1) := by decide +kernel
theorem qL_four_4 : decode (mB mL_four) 4 = .ok (.iload_n 3, 1) := by decide +kernel
theorem qL_four_5 : decode (mB mL_four) 5 = .ok (.iconst 4, 1) := by decide +kernel
theorem qL_four_6 : decode (mB mL_four) 6 = .ok (.if_icmp .ge 36, 3) := by decide +kernel
theorem qL_four_9 : decode (mB mL_four) 9 = .ok (.iload_n 2, 1) := by decide +kernel
theorem qL_four_10 : decode (mB mL_four) 10 = .ok (.bipush 8, 2) := by decide +kernel
theorem qL_four_12 : decode (mB mL_four) 12 = .ok (.ishl, 1) := by decide +kernel
theorem qL_four_13 : decode (mB mL_four) 13 = .ok (.iload_n 1, 1) := by decide +kernel
theorem qL_four_14 : decode (mB mL_four) 14 = .ok (.iload_n 3, 1) := by decide +kernel
theorem qL_four_15 : decode (mB mL_four) 15 = .ok (.iadd, 1) := by decide +kernel
theorem qL_four_16 : decode (mB mL_four) 16 = .ok (.aload_n 0, 1) := by decide +kernel
theorem qL_four_17 : decode (mB mL_four) 17 = .ok (.invokevirtual 8, 3) := by decide +kernel
theorem qL_four_20 : decode (mB mL_four) 20 = .ok (.if_icmp .ge 13, 3) := by decide +kernel
theorem qL_four_23 : decode (mB mL_four) 23 = .ok (.aload_n 0, 1) := by decide +kernel
theorem qL_four_24 : decode (mB mL_four) 24 = .ok (.iload_n 1, 1) := by decide +kernel
theorem qL_four_25 : decode (mB mL_four) 25 = .ok (.iload_n 3, 1) := by decide +kernel
theorem qL_four_26 : decode (mB mL_four) 26 = .ok (.iadd, 1) := by decide +kernel
theorem qL_four_27 : decode (mB mL_four) 27 = .ok (.invokevirtual 14, 3) := by decide +kernel
theorem qL_four_30 : decode (mB mL_four) 30 = .ok (.goto 4, 3) := by decide +kernel
theorem qL_four_33 : decode (mB mL_four) 33 = .ok (.iconst 0, 1) := by decide +kernel
theorem qL_four_34 : decode (mB mL_four) 34 = .ok (.ior, 1) := by decide +kernel
theorem qL_four_35 : decode (mB mL_four) 35 = .ok (.istore_n 2, 1) := by decide +kernel
theorem qL_four_36 : decode (mB mL_four) 36 = .ok (.iinc 3 1, 3) := by decide +kernel
theorem qL_four_39 : decode (mB mL_four) 39 = .ok (.goto (-35), 3) := by decide +kernel
theorem qL_four_42 : decode (mB mL_four) 42 = .ok (.iload_n 2, 1) := by decide +kernel
theorem qL_four_43 : decode (mB mL_four) 43 = .ok (.ireturn, 1) := by decide +kernel
theorem qL_free_0 : decode (mB mL_free) 0 = .ok (.iload_n 2, 1) := by decide +kernel
theorem qL_free_1 : decode (mB mL_free) 1 = .ok (.aload_n 0, 1) := by decide +kernel
theorem qL_free_2 : decode (mB mL_free) 2 = .ok (.iload_n 1, 1) := by decide +kernel
theorem qL_free_3 : decode (mB mL_free) 3 = .ok (.invokestatic 114, 3) := by decide +kernel
theorem qL_free_6 : decode (mB mL_free) 6 = .ok (.aload_n 0, 1) := by decide +kernel
theorem qL_free_7 : decode (mB mL_free) 7 = .ok (.aload_n 0, 1) := by decide +kernel
theorem qL_free_8 : decode (mB mL_free) 8 = .ok (.iload_n 1, 1) := by decide +kernel
theorem qL_free_9 : decode (mB mL_free) 9 = .ok (.invokestatic 111, 3) := by decide +kernel
theorem qL_free_12 : decode (mB mL_free) 12 = .ok (.invokestatic 89, 3) := by decide +kernel
theorem qL_free_15 : decode (mB mL_free) 15 = .ok (.imul, 1) := by decide +kernel
theorem qL_free_16 : decode (mB mL_free) 16 = .ok (.iload_n 3, 1) := by decide +kernel
theorem qL_free_17 : decode (mB mL_free) 17 = .ok (.sipush 300, 3) := by decide +kernel
theorem qL_free_20 : decode (mB mL_free) 20 = .ok (.iadd, 1) := by decide +kernel
theorem qL_free_21 : decode (mB mL_free) 21 = .ok (.imul, 1) := by decide +kernel
theorem qL_free_22 : decode (mB mL_free) 22 = .ok (.sipush 1000, 3) := by decide +kernel
theorem qL_free_25 : decode (mB mL_free) 25 = .ok (.aload_n 0, 1) := by decide +kernel
theorem qL_free_26 : decode (mB mL_free) 26 = .ok (.iload_n 1, 1) := by decide +kernel
theorem qL_free_27 : decode (mB mL_free) 27 = .ok (.invokestatic 117, 3) := by decide +kernel
theorem qL_free_30 : decode (mB mL_free) 30 = .ok (.imul, 1) := by decide +kernel
theorem qL_free_31 : decode (mB mL_free) 31 = .ok (.idiv, 1) := by decide +kernel
theorem qL_free_32 : decode (mB mL_free) 32 = .ok (.iadd, 1) := by decide +kernel
theorem qL_free_33 : decode (mB mL_free) 33 = .ok (.ireturn, 1) := by decide +kernel
theorem qL_holds_0 : decode (mB mL_holds) 0 = .ok (.aload_n 0, 1) := by decide +kernel
theorem qL_holds_1 : decode (mB mL_holds) 1 = .ok (.invokevirtual 249, 3) := by decide +kernel
theorem qL_holds_4 : decode (mB mL_holds) 4 = .ok (.ifCond .ne 10, 3) := by decide +kernel
theorem qL_holds_7 : decode (mB mL_holds) 7 = .ok (.aload_n 0, 1) := by decide +kernel
theorem qL_holds_8 : decode (mB mL_holds) 8 = .ok (.invokevirtual 252, 3) := by decide +kernel
theorem qL_holds_11 : decode (mB mL_holds) 11 = .ok (.ifCond .eq 5, 3) := by decide +kernel
theorem qL_holds_14 : decode (mB mL_holds) 14 = .ok (.iconst 0, 1) := by decide +kernel
theorem qL_holds_15 : decode (mB mL_holds) 15 = .ok (.ireturn, 1) := by decide +kernel
theorem qL_holds_16 : decode (mB mL_holds) 16 = .ok (.iconst 4, 1) := by decide +kernel
theorem qL_holds_17 : decode (mB mL_holds) 17 = .ok (.newarray .int, 2) := by decide +kernel
theorem qL_holds_19 : decode (mB mL_holds) 19 = .ok (.astore_n 2, 1) := by decide +kernel
theorem qL_holds_20 : decode (mB mL_holds) 20 = .ok (.iconst 3, 1) := by decide +kernel
theorem qL_holds_21 : decode (mB mL_holds) 21 = .ok (.newarray .int, 2) := by decide +kernel
theorem qL_holds_23 : decode (mB mL_holds) 23 = .ok (.astore_n 3, 1) := by decide +kernel
theorem qL_holds_24 : decode (mB mL_holds) 24 = .ok (.iconst 0, 1) := by decide +kernel
theorem qL_holds_25 : decode (mB mL_holds) 25 = .ok (.istore 4, 2) := by decide +kernel
theorem qL_holds_27 : decode (mB mL_holds) 27 = .ok (.iconst 0, 1) := by decide +kernel
theorem qL_holds_28 : decode (mB mL_holds) 28 = .ok (.istore 5, 2) := by decide +kernel
theorem qL_holds_30 : decode (mB mL_holds) 30 = .ok (.iconst (-1), 1) := by decide +kernel
theorem qL_holds_31 : decode (mB mL_holds) 31 = .ok (.istore 6, 2) := by decide +kernel
theorem qL_holds_33 : decode (mB mL_holds) 33 = .ok (.iconst (-1), 1) := by decide +kernel
theorem qL_holds_34 : decode (mB mL_holds) 34 = .ok (.istore 7, 2) := by decide +kernel
theorem qL_holds_36 : decode (mB mL_holds) 36 = .ok (.iconst (-1), 1) := by decide +kernel
theorem qL_holds_37 : decode (mB mL_holds) 37 = .ok (.istore 8, 2) := by decide +kernel
theorem qL_holds_39 : decode (mB mL_holds) 39 = .ok (.iconst 0, 1) := by decide +kernel
theorem qL_holds_40 : decode (mB mL_holds) 40 = .ok (.istore 9, 2) := by decide +kernel
theorem qL_holds_42 : decode (mB mL_holds) 42 = .ok (.iconst 0, 1) := by decide +kernel
theorem qL_holds_43 : decode (mB mL_holds) 43 = .ok (.istore 10, 2) := by decide +kernel
theorem qL_holds_45 : decode (mB mL_holds) 45 = .ok (.iconst 0, 1) := by decide +kernel
theorem qL_holds_46 : decode (mB mL_holds) 46 = .ok (.istore 11, 2) := by decide +kernel
theorem qL_holds_48 : decode (mB mL_holds) 48 = .ok (.iload 11, 2) := by decide +kernel
theorem qL_holds_50 : decode (mB mL_holds) 50 = .ok (.aload_n 1, 1) := by decide +kernel
theorem qL_holds_51 : decode (mB mL_holds) 51 = .ok (.invokestatic 106, 3) := by decide +kernel
theorem qL_holds_54 : decode (mB mL_holds) 54 = .ok (.if_icmp .ge 531, 3) := by decide +kernel
theorem qL_holds_57 : decode (mB mL_holds) 57 = .ok (.aload_n 0, 1) := by decide +kernel
theorem qL_holds_58 : decode (mB mL_holds) 58 = .ok (.iload 11, 2) := by decide +kernel
theorem qL_holds_60 : decode (mB mL_holds) 60 = .ok (.invokevirtual 168, 3) := by decide +kernel
theorem qL_holds_63 : decode (mB mL_holds) 63 = .ok (.istore 12, 2) := by decide +kernel
theorem qL_holds_65 : decode (mB mL_holds) 65 = .ok (.aload_n 0, 1) := by decide +kernel
theorem qL_holds_66 : decode (mB mL_holds) 66 = .ok (.invokevirtual 144, 3) := by decide +kernel
theorem qL_holds_69 : decode (mB mL_holds) 69 = .ok (.iload 11, 2) := by decide +kernel
theorem qL_holds_71 : decode (mB mL_holds) 71 = .ok (.if_icmp .ne 9, 3) := by decide +kernel
theorem qL_holds_74 : decode (mB mL_holds) 74 = .ok (.sipush 370, 3) := by decide +kernel
theorem qL_holds_77 : decode (mB mL_holds) 77 = .ok (.goto 25, 3) := by decide +kernel
theorem qL_holds_80 : decode (mB mL_holds) 80 = .ok (.bipush 10, 2) := by decide +kernel
theorem qL_holds_82 : decode (mB mL_holds) 82 = .ok (.iload 12, 2) := by decide +kernel
theorem qL_holds_84 : decode (mB mL_holds) 84 = .ok (.iconst (-1), 1) := by decide +kernel
theorem qL_holds_85 : decode (mB mL_holds) 85 = .ok (.if_icmp .ne 10, 3) := by decide +kernel
theorem qL_holds_88 : decode (mB mL_holds) 88 = .ok (.aload_n 0, 1) := by decide +kernel
theorem qL_holds_89 : decode (mB mL_holds) 89 = .ok (.invokevirtual 141, 3) := by decide +kernel
theorem qL_holds_92 : decode (mB mL_holds) 92 = .ok (.goto 9, 3) := by decide +kernel
theorem qL_holds_95 : decode (mB mL_holds) 95 = .ok (.aload_n 1, 1) := by decide +kernel
theorem qL_holds_96 : decode (mB mL_holds) 96 = .ok (.iload 12, 2) := by decide +kernel
theorem qL_holds_98 : decode (mB mL_holds) 98 = .ok (.invokestatic 101, 3) := by decide +kernel
theorem qL_holds_101 : decode (mB mL_holds) 101 = .ok (.imul, 1) := by decide +kernel
theorem qL_holds_102 : decode (mB mL_holds) 102 = .ok (.istore 13, 2) := by decide +kernel
theorem qL_holds_104 : decode (mB mL_holds) 104 = .ok (.aload_n 0, 1) := by decide +kernel
theorem qL_holds_105 : decode (mB mL_holds) 105 = .ok (.iload 11, 2) := by decide +kernel
theorem qL_holds_107 : decode (mB mL_holds) 107 = .ok (.invokevirtual 165, 3) := by decide +kernel
theorem qL_holds_110 : decode (mB mL_holds) 110 = .ok (.istore 14, 2) := by decide +kernel
theorem qL_holds_112 : decode (mB mL_holds) 112 = .ok (.aload_n 1, 1) := by decide +kernel
theorem qL_holds_113 : decode (mB mL_holds) 113 = .ok (.iload 11, 2) := by decide +kernel
theorem qL_holds_115 : decode (mB mL_holds) 115 = .ok (.aload_n 0, 1) := by decide +kernel
theorem qL_holds_116 : decode (mB mL_holds) 116 = .ok (.iload 11, 2) := by decide +kernel
theorem qL_holds_118 : decode (mB mL_holds) 118 = .ok (.invokevirtual 162, 3) := by decide +kernel
theorem qL_holds_121 : decode (mB mL_holds) 121 = .ok (.iload 14, 2) := by decide +kernel
theorem qL_holds_123 : decode (mB mL_holds) 123 = .ok (.invokestatic 255, 3) := by decide +kernel
theorem qL_holds_126 : decode (mB mL_holds) 126 = .ok (.istore 15, 2) := by decide +kernel
theorem qL_holds_128 : decode (mB mL_holds) 128 = .ok (.aload_n 0, 1) := by decide +kernel
theorem qL_holds_129 : decode (mB mL_holds) 129 = .ok (.iload 11, 2) := by decide +kernel
theorem qL_holds_131 : decode (mB mL_holds) 131 = .ok (.invokevirtual 259, 3) := by decide +kernel
theorem qL_holds_134 : decode (mB mL_holds) 134 = .ok (.iload 13, 2) := by decide +kernel
theorem qL_holds_136 : decode (mB mL_holds) 136 = .ok (.if_icmp .ne 44, 3) := by decide +kernel
theorem qL_holds_139 : decode (mB mL_holds) 139 = .ok (.aload_n 0, 1) := by decide +kernel
theorem qL_holds_140 : decode (mB mL_holds) 140 = .ok (.iload 11, 2) := by decide +kernel
theorem qL_holds_142 : decode (mB mL_holds) 142 = .ok (.invokevirtual 262, 3) := by decide +kernel
theorem qL_holds_145 : decode (mB mL_holds) 145 = .ok (.iload 14, 2) := by decide +kernel
theorem qL_holds_147 : decode (mB mL_holds) 147 = .ok (.iload 13, 2) := by decide +kernel
theorem qL_holds_149 : decode (mB mL_holds) 149 = .ok (.if_icmp .ne 7, 3) := by decide +kernel
theorem qL_holds_152 : decode (mB mL_holds) 152 = .ok (.iconst 1, 1) := by decide +kernel
theorem qL_holds_153 : decode (mB mL_holds) 153 = .ok (.goto 4, 3) := by decide +kernel
theorem qL_holds_156 : decode (mB mL_holds) 156 = .ok (.iconst 0, 1) := by decide +kernel
theorem qL_holds_157 : decode (mB mL_holds) 157 = .ok (.if_icmp .ne 23, 3) := by decide +kernel
theorem qL_holds_160 : decode (mB mL_holds) 160 = .ok (.aload_n 0, 1) := by decide +kernel
theorem qL_holds_161 : decode (mB mL_holds) 161 = .ok (.iload 11, 2) := by decide +kernel
theorem qL_holds_163 : decode (mB mL_holds) 163 = .ok (.invokevirtual 265, 3) := by decide +kernel
theorem qL_holds_166 : decode (mB mL_holds) 166 = .ok (.aload_n 1, 1) := by decide +kernel
theorem qL_holds_167 : decode (mB mL_holds) 167 = .ok (.iload 11, 2) := by decide +kernel
theorem qL_holds_169 : decode (mB mL_holds) 169 = .ok (.invokestatic 120, 3) := by decide +kernel
theorem qL_holds_172 : decode (mB mL_holds) 172 = .ok (.iload 15, 2) := by decide +kernel
theorem qL_holds_174 : decode (mB mL_holds) 174 = .ok (.invokestatic 30, 3) := by decide +kernel
theorem qL_holds_177 : decode (mB mL_holds) 177 = .ok (.if_icmp .eq 5, 3) := by decide +kernel
theorem qL_holds_180 : decode (mB mL_holds) 180 = .ok (.iconst 0, 1) := by decide +kernel
theorem qL_holds_181 : decode (mB mL_holds) 181 = .ok (.ireturn, 1) := by decide +kernel
theorem qL_holds_182 : decode (mB mL_holds) 182 = .ok (.aload_n 0, 1) := by decide +kernel
theorem qL_holds_183 : decode (mB mL_holds) 183 = .ok (.iload 11, 2) := by decide +kernel
theorem qL_holds_185 : decode (mB mL_holds) 185 = .ok (.invokevirtual 268, 3) := by decide +kernel
theorem qL_holds_188 : decode (mB mL_holds) 188 = .ok (.aload_n 1, 1) := by decide +kernel
theorem qL_holds_189 : decode (mB mL_holds) 189 = .ok (.iload 11, 2) := by decide +kernel
theorem qL_holds_191 : decode (mB mL_holds) 191 = .ok (.aload_n 0, 1) := by decide +kernel
theorem qL_holds_192 : decode (mB mL_holds) 192 = .ok (.iload 11, 2) := by decide +kernel
theorem qL_holds_194 : decode (mB mL_holds) 194 = .ok (.invokevirtual 162, 3) := by decide +kernel
theorem qL_holds_197 : decode (mB mL_holds) 197 = .ok (.iload 14, 2) := by decide +kernel
theorem qL_holds_199 : decode (mB mL_holds) 199 = .ok (.bipush 10, 2) := by decide +kernel
theorem qL_holds_201 : decode (mB mL_holds) 201 = .ok (.iadd, 1) := by decide +kernel
theorem qL_holds_202 : decode (mB mL_holds) 202 = .ok (.invokestatic 255, 3) := by decide +kernel
theorem qL_holds_205 : decode (mB mL_holds) 205 = .ok (.iload 15, 2) := by decide +kernel
theorem qL_holds_207 : decode (mB mL_holds) 207 = .ok (.isub, 1) := by decide +kernel
theorem qL_holds_208 : decode (mB mL_holds) 208 = .ok (.if_icmp .eq 5, 3) := by decide +kernel
theorem qL_holds_211 : decode (mB mL_holds) 211 = .ok (.iconst 0, 1) := by decide +kernel
theorem qL_holds_212 : decode (mB mL_holds) 212 = .ok (.ireturn, 1) := by decide +kernel
theorem qL_holds_213 : decode (mB mL_holds) 213 = .ok (.iload 12, 2) := by decide +kernel
theorem qL_holds_215 : decode (mB mL_holds) 215 = .ok (.iconst (-1), 1) := by decide +kernel
theorem qL_holds_216 : decode (mB mL_holds) 216 = .ok (.if_icmp .eq 11, 3) := by decide +kernel
theorem qL_holds_219 : decode (mB mL_holds) 219 = .ok (.aload_n 2, 1) := by decide +kernel
theorem qL_holds_220 : decode (mB mL_holds) 220 = .ok (.iload 12, 2) := by decide +kernel
theorem qL_holds_222 : decode (mB mL_holds) 222 = .ok (.dup2, 1) := by decide +kernel
theorem qL_holds_223 : decode (mB mL_holds) 223 = .ok (.iaload, 1) := by decide +kernel
theorem qL_holds_224 : decode (mB mL_holds) 224 = .ok (.iconst 1, 1) := by decide +kernel
theorem qL_holds_225 : decode (mB mL_holds) 225 = .ok (.iadd, 1) := by decide +kernel
theorem qL_holds_226 : decode (mB mL_holds) 226 = .ok (.iastore, 1) := by decide +kernel
theorem qL_holds_227 : decode (mB mL_holds) 227 = .ok (.aload_n 3, 1) := by decide +kernel
theorem qL_holds_228 : decode (mB mL_holds) 228 = .ok (.aload_n 1, 1) := by decide +kernel
theorem qL_holds_229 : decode (mB mL_holds) 229 = .ok (.iload 11, 2) := by decide +kernel
theorem qL_holds_231 : decode (mB mL_holds) 231 = .ok (.invokestatic 111, 3) := by decide +kernel
theorem qL_holds_234 : decode (mB mL_holds) 234 = .ok (.dup2, 1) := by decide +kernel
theorem qL_holds_235 : decode (mB mL_holds) 235 = .ok (.iaload, 1) := by decide +kernel
theorem qL_holds_236 : decode (mB mL_holds) 236 = .ok (.aload_n 0, 1) := by decide +kernel
theorem qL_holds_237 : decode (mB mL_holds) 237 = .ok (.iload 11, 2) := by decide +kernel
theorem qL_holds_239 : decode (mB mL_holds) 239 = .ok (.invokevirtual 162, 3) := by decide +kernel
theorem qL_holds_242 : decode (mB mL_holds) 242 = .ok (.iadd, 1) := by decide +kernel
theorem qL_holds_243 : decode (mB mL_holds) 243 = .ok (.iastore, 1) := by decide +kernel
theorem qL_holds_244 : decode (mB mL_holds) 244 = .ok (.iload 4, 2) := by decide +kernel
theorem qL_holds_246 : decode (mB mL_holds) 246 = .ok (.iload 14, 2) := by decide +kernel
theorem qL_holds_248 : decode (mB mL_holds) 248 = .ok (.iload 13, 2) := by decide +kernel
theorem qL_holds_250 : decode (mB mL_holds) 250 = .ok (.if_icmp .ne 7, 3) := by decide +kernel
theorem qL_holds_253 : decode (mB mL_holds) 253 = .ok (.iconst 1, 1) := by decide +kernel
theorem qL_holds_254 : decode (mB mL_holds) 254 = .ok (.goto 4, 3) := by decide +kernel
theorem qL_holds_257 : decode (mB mL_holds) 257 = .ok (.iconst 0, 1) := by decide +kernel
theorem qL_holds_258 : decode (mB mL_holds) 258 = .ok (.iadd, 1) := by decide +kernel
theorem qL_holds_259 : decode (mB mL_holds) 259 = .ok (.istore 4, 2) := by decide +kernel
theorem qL_holds_261 : decode (mB mL_holds) 261 = .ok (.iload 5, 2) := by decide +kernel
theorem qL_holds_263 : decode (mB mL_holds) 263 = .ok (.aload_n 0, 1) := by decide +kernel
theorem qL_holds_264 : decode (mB mL_holds) 264 = .ok (.iload 11, 2) := by decide +kernel
theorem qL_holds_266 : decode (mB mL_holds) 266 = .ok (.invokevirtual 265, 3) := by decide +kernel
theorem qL_holds_269 : decode (mB mL_holds) 269 = .ok (.iadd, 1) := by decide +kernel
theorem qL_holds_270 : decode (mB mL_holds) 270 = .ok (.istore 5, 2) := by decide +kernel
theorem qL_holds_272 : decode (mB mL_holds) 272 = .ok (.iload 6, 2) := by decide +kernel
theorem qL_holds_274 : decode (mB mL_holds) 274 = .ok (.iconst (-1), 1) := by decide +kernel
theorem qL_holds_275 : decode (mB mL_holds) 275 = .ok (.if_icmp .eq 18, 3) := by decide +kernel
theorem qL_holds_278 : decode (mB mL_holds) 278 = .ok (.aload_n 0, 1) := by decide +kernel
theorem qL_holds_279 : decode (mB mL_holds) 279 = .ok (.iload 11, 2) := by decide +kernel
theorem qL_holds_281 : decode (mB mL_holds) 281 = .ok (.invokevirtual 265, 3) := by decide +kernel
theorem qL_holds_284 : decode (mB mL_holds) 284 = .ok (.aload_n 0, 1) := by decide +kernel
theorem qL_holds_285 : decode (mB mL_holds) 285 = .ok (.iload 6, 2) := by decide +kernel
theorem qL_holds_287 : decode (mB mL_holds) 287 = .ok (.invokevirtual 265, 3) := by decide +kernel
theorem qL_holds_290 : decode (mB mL_holds) 290 = .ok (.if_icmp .le 7, 3) := by decide +kernel
theorem qL_holds_293 : decode (mB mL_holds) 293 = .ok (.iload 11, 2) := by decide +kernel
theorem qL_holds_295 : decode (mB mL_holds) 295 = .ok (.istore 6, 2) := by decide +kernel
theorem qL_holds_297 : decode (mB mL_holds) 297 = .ok (.aload_n 0, 1) := by decide +kernel
theorem qL_holds_298 : decode (mB mL_holds) 298 = .ok (.aload_n 1, 1) := by decide +kernel
theorem qL_holds_299 : decode (mB mL_holds) 299 = .ok (.iload 11, 2) := by decide +kernel
theorem qL_holds_301 : decode (mB mL_holds) 301 = .ok (.invokestatic 271, 3) := by decide +kernel
theorem qL_holds_304 : decode (mB mL_holds) 304 = .ok (.ifCond .eq 37, 3) := by decide +kernel
theorem qL_holds_307 : decode (mB mL_holds) 307 = .ok (.aload_n 0, 1) := by decide +kernel
theorem qL_holds_308 : decode (mB mL_holds) 308 = .ok (.aload_n 1, 1) := by decide +kernel
theorem qL_holds_309 : decode (mB mL_holds) 309 = .ok (.iload 11, 2) := by decide +kernel
theorem qL_holds_311 : decode (mB mL_holds) 311 = .ok (.invokestatic 275, 3) := by decide +kernel
theorem qL_holds_314 : decode (mB mL_holds) 314 = .ok (.ifCond .eq 27, 3) := by decide +kernel
theorem qL_holds_317 : decode (mB mL_holds) 317 = .ok (.aload_n 0, 1) := by decide +kernel
theorem qL_holds_318 : decode (mB mL_holds) 318 = .ok (.iload 11, 2) := by decide +kernel
theorem qL_holds_320 : decode (mB mL_holds) 320 = .ok (.invokevirtual 278, 3) := by decide +kernel
theorem qL_holds_323 : decode (mB mL_holds) 323 = .ok (.aload_n 0, 1) := by decide +kernel
theorem qL_holds_324 : decode (mB mL_holds) 324 = .ok (.iload 11, 2) := by decide +kernel
theorem qL_holds_326 : decode (mB mL_holds) 326 = .ok (.invokevirtual 175, 3) := by decide +kernel
theorem qL_holds_329 : decode (mB mL_holds) 329 = .ok (.iconst 1, 1) := by decide +kernel
theorem qL_holds_330 : decode (mB mL_holds) 330 = .ok (.if_icmp .le 7, 3) := by decide +kernel
theorem qL_holds_333 : decode (mB mL_holds) 333 = .ok (.iconst 1, 1) := by decide +kernel
theorem qL_holds_334 : decode (mB mL_holds) 334 = .ok (.goto 4, 3) := by decide +kernel
theorem qL_holds_337 : decode (mB mL_holds) 337 = .ok (.iconst 0, 1) := by decide +kernel
theorem qL_holds_338 : decode (mB mL_holds) 338 = .ok (.if_icmp .eq 5, 3) := by decide +kernel
theorem qL_holds_341 : decode (mB mL_holds) 341 = .ok (.iconst 0, 1) := by decide +kernel
theorem qL_holds_342 : decode (mB mL_holds) 342 = .ok (.ireturn, 1) := by decide +kernel
theorem qL_holds_343 : decode (mB mL_holds) 343 = .ok (.aload_n 0, 1) := by decide +kernel
theorem qL_holds_344 : decode (mB mL_holds) 344 = .ok (.iload 11, 2) := by decide +kernel
theorem qL_holds_346 : decode (mB mL_holds) 346 = .ok (.invokevirtual 278, 3) := by decide +kernel
theorem qL_holds_349 : decode (mB mL_holds) 349 = .ok (.ifCond .ne 6, 3) := by decide +kernel
theorem qL_holds_352 : decode (mB mL_holds) 352 = .ok (.goto 227, 3) := by decide +kernel
theorem qL_holds_355 : decode (mB mL_holds) 355 = .ok (.aload_n 0, 1) := by decide +kernel
theorem qL_holds_356 : decode (mB mL_holds) 356 = .ok (.iload 11, 2) := by decide +kernel
theorem qL_holds_358 : decode (mB mL_holds) 358 = .ok (.invokevirtual 281, 3) := by decide +kernel
theorem qL_holds_361 : decode (mB mL_holds) 361 = .ok (.istore 16, 2) := by decide +kernel
theorem qL_holds_363 : decode (mB mL_holds) 363 = .ok (.iload 16, 2) := by decide +kernel
theorem qL_holds_365 : decode (mB mL_holds) 365 = .ok (.aload_n 0, 1) := by decide +kernel
theorem qL_holds_366 : decode (mB mL_holds) 366 = .ok (.iload 11, 2) := by decide +kernel
theorem qL_holds_368 : decode (mB mL_holds) 368 = .ok (.aload_n 0, 1) := by decide +kernel
theorem qL_holds_369 : decode (mB mL_holds) 369 = .ok (.iload 11, 2) := by decide +kernel
theorem qL_holds_371 : decode (mB mL_holds) 371 = .ok (.invokevirtual 265, 3) := by decide +kernel
theorem qL_holds_374 : decode (mB mL_holds) 374 = .ok (.invokestatic 284, 3) := by decide +kernel
theorem qL_holds_377 : decode (mB mL_holds) 377 = .ok (.if_icmp .ne 32, 3) := by decide +kernel
theorem qL_holds_380 : decode (mB mL_holds) 380 = .ok (.aload_n 0, 1) := by decide +kernel
theorem qL_holds_381 : decode (mB mL_holds) 381 = .ok (.iload 11, 2) := by decide +kernel
theorem qL_holds_383 : decode (mB mL_holds) 383 = .ok (.invokevirtual 287, 3) := by decide +kernel
theorem qL_holds_386 : decode (mB mL_holds) 386 = .ok (.iload 16, 2) := by decide +kernel
theorem qL_holds_388 : decode (mB mL_holds) 388 = .ok (.iload 14, 2) := by decide +kernel
theorem qL_holds_390 : decode (mB mL_holds) 390 = .ok (.isub, 1) := by decide +kernel
theorem qL_holds_391 : decode (mB mL_holds) 391 = .ok (.if_icmp .ne 18, 3) := by decide +kernel
theorem qL_holds_394 : decode (mB mL_holds) 394 = .ok (.aload_n 0, 1) := by decide +kernel
theorem qL_holds_395 : decode (mB mL_holds) 395 = .ok (.iload 11, 2) := by decide +kernel
theorem qL_holds_397 : decode (mB mL_holds) 397 = .ok (.invokevirtual 290, 3) := by decide +kernel
theorem qL_holds_400 : decode (mB mL_holds) 400 = .ok (.aload_n 0, 1) := by decide +kernel
theorem qL_holds_401 : decode (mB mL_holds) 401 = .ok (.iload 11, 2) := by decide +kernel
theorem qL_holds_403 : decode (mB mL_holds) 403 = .ok (.invokestatic 293, 3) := by decide +kernel
theorem qL_holds_406 : decode (mB mL_holds) 406 = .ok (.if_icmp .eq 5, 3) := by decide +kernel
theorem qL_holds_409 : decode (mB mL_holds) 409 = .ok (.iconst 0, 1) := by decide +kernel
theorem qL_holds_410 : decode (mB mL_holds) 410 = .ok (.ireturn, 1) := by decide +kernel
theorem qL_holds_411 : decode (mB mL_holds) 411 = .ok (.iconst 0, 1) := by decide +kernel
theorem qL_holds_412 : decode (mB mL_holds) 412 = .ok (.istore 17, 2) := by decide +kernel
theorem qL_holds_414 : decode (mB mL_holds) 414 = .ok (.iload 17, 2) := by decide +kernel
theorem qL_holds_416 : decode (mB mL_holds) 416 = .ok (.sipush 1000, 3) := by decide +kernel
theorem qL_holds_419 : decode (mB mL_holds) 419 = .ok (.if_icmp .ge 33, 3) := by decide +kernel
theorem qL_holds_422 : decode (mB mL_holds) 422 = .ok (.aload_n 0, 1) := by decide +kernel
theorem qL_holds_423 : decode (mB mL_holds) 423 = .ok (.iload 11, 2) := by decide +kernel
theorem qL_holds_425 : decode (mB mL_holds) 425 = .ok (.iload 17, 2) := by decide +kernel
theorem qL_holds_427 : decode (mB mL_holds) 427 = .ok (.invokevirtual 296, 3) := by decide +kernel
theorem qL_holds_430 : decode (mB mL_holds) 430 = .ok (.aload_n 0, 1) := by decide +kernel
theorem qL_holds_431 : decode (mB mL_holds) 431 = .ok (.iload 11, 2) := by decide +kernel
theorem qL_holds_433 : decode (mB mL_holds) 433 = .ok (.iload 17, 2) := by decide +kernel
theorem qL_holds_435 : decode (mB mL_holds) 435 = .ok (.invokestatic 284, 3) := by decide +kernel
theorem qL_holds_438 : decode (mB mL_holds) 438 = .ok (.if_icmp .eq 5, 3) := by decide +kernel
theorem qL_holds_441 : decode (mB mL_holds) 441 = .ok (.iconst 0, 1) := by decide +kernel
theorem qL_holds_442 : decode (mB mL_holds) 442 = .ok (.ireturn, 1) := by decide +kernel
theorem qL_holds_443 : decode (mB mL_holds) 443 = .ok (.iinc 17 331, 6) := by decide +kernel
theorem qL_holds_449 : decode (mB mL_holds) 449 = .ok (.goto (-35), 3) := by decide +kernel
theorem qL_holds_452 : decode (mB mL_holds) 452 = .ok (.iload 7, 2) := by decide +kernel
theorem qL_holds_454 : decode (mB mL_holds) 454 = .ok (.iconst (-1), 1) := by decide +kernel
theorem qL_holds_455 : decode (mB mL_holds) 455 = .ok (.if_icmp .ne 8, 3) := by decide +kernel
theorem qL_holds_458 : decode (mB mL_holds) 458 = .ok (.iload 16, 2) := by decide +kernel
theorem qL_holds_460 : decode (mB mL_holds) 460 = .ok (.goto 10, 3) := by decide +kernel
theorem qL_holds_463 : decode (mB mL_holds) 463 = .ok (.iload 9, 2) := by decide +kernel
theorem qL_holds_465 : decode (mB mL_holds) 465 = .ok (.iload 16, 2) := by decide +kernel
theorem qL_holds_467 : decode (mB mL_holds) 467 = .ok (.invokestatic 299, 3) := by decide +kernel
theorem qL_holds_470 : decode (mB mL_holds) 470 = .ok (.istore 9, 2) := by decide +kernel
theorem qL_holds_472 : decode (mB mL_holds) 472 = .ok (.iload 7, 2) := by decide +kernel
theorem qL_holds_474 : decode (mB mL_holds) 474 = .ok (.iconst (-1), 1) := by decide +kernel
theorem qL_holds_475 : decode (mB mL_holds) 475 = .ok (.if_icmp .ne 8, 3) := by decide +kernel
theorem qL_holds_478 : decode (mB mL_holds) 478 = .ok (.iload 16, 2) := by decide +kernel
theorem qL_holds_480 : decode (mB mL_holds) 480 = .ok (.goto 10, 3) := by decide +kernel
theorem qL_holds_483 : decode (mB mL_holds) 483 = .ok (.iload 10, 2) := by decide +kernel
theorem qL_holds_485 : decode (mB mL_holds) 485 = .ok (.iload 16, 2) := by decide +kernel
theorem qL_holds_487 : decode (mB mL_holds) 487 = .ok (.invokestatic 30, 3) := by decide +kernel
theorem qL_holds_490 : decode (mB mL_holds) 490 = .ok (.istore 10, 2) := by decide +kernel
theorem qL_holds_492 : decode (mB mL_holds) 492 = .ok (.iload 7, 2) := by decide +kernel
theorem qL_holds_494 : decode (mB mL_holds) 494 = .ok (.iconst (-1), 1) := by decide +kernel
theorem qL_holds_495 : decode (mB mL_holds) 495 = .ok (.if_icmp .eq 28, 3) := by decide +kernel
theorem qL_holds_498 : decode (mB mL_holds) 498 = .ok (.aload_n 0, 1) := by decide +kernel
theorem qL_holds_499 : decode (mB mL_holds) 499 = .ok (.iload 11, 2) := by decide +kernel
theorem qL_holds_501 : decode (mB mL_holds) 501 = .ok (.iload 7, 2) := by decide +kernel
theorem qL_holds_503 : decode (mB mL_holds) 503 = .ok (.invokevirtual 302, 3) := by decide +kernel
theorem qL_holds_506 : decode (mB mL_holds) 506 = .ok (.iload 16, 2) := by decide +kernel
theorem qL_holds_508 : decode (mB mL_holds) 508 = .ok (.aload_n 0, 1) := by decide +kernel
theorem qL_holds_509 : decode (mB mL_holds) 509 = .ok (.iload 7, 2) := by decide +kernel
theorem qL_holds_511 : decode (mB mL_holds) 511 = .ok (.invokevirtual 281, 3) := by decide +kernel
theorem qL_holds_514 : decode (mB mL_holds) 514 = .ok (.isub, 1) := by decide +kernel
theorem qL_holds_515 : decode (mB mL_holds) 515 = .ok (.invokestatic 63, 3) := by decide +kernel
theorem qL_holds_518 : decode (mB mL_holds) 518 = .ok (.if_icmp .eq 5, 3) := by decide +kernel
theorem qL_holds_521 : decode (mB mL_holds) 521 = .ok (.iconst 0, 1) := by decide +kernel
theorem qL_holds_522 : decode (mB mL_holds) 522 = .ok (.ireturn, 1) := by decide +kernel
theorem qL_holds_523 : decode (mB mL_holds) 523 = .ok (.iload 7, 2) := by decide +kernel
theorem qL_holds_525 : decode (mB mL_holds) 525 = .ok (.iconst (-1), 1) := by decide +kernel
theorem qL_holds_526 : decode (mB mL_holds) 526 = .ok (.if_icmp .eq 24, 3) := by decide +kernel
theorem qL_holds_529 : decode (mB mL_holds) 529 = .ok (.aload_n 0, 1) := by decide +kernel
theorem qL_holds_530 : decode (mB mL_holds) 530 = .ok (.iload 11, 2) := by decide +kernel
theorem qL_holds_532 : decode (mB mL_holds) 532 = .ok (.invokevirtual 287, 3) := by decide +kernel
theorem qL_holds_535 : decode (mB mL_holds) 535 = .ok (.invokestatic 63, 3) := by decide +kernel
theorem qL_holds_538 : decode (mB mL_holds) 538 = .ok (.aload_n 0, 1) := by decide +kernel
theorem qL_holds_539 : decode (mB mL_holds) 539 = .ok (.iload 7, 2) := by decide +kernel
theorem qL_holds_541 : decode (mB mL_holds) 541 = .ok (.invokevirtual 287, 3) := by decide +kernel
theorem qL_holds_544 : decode (mB mL_holds) 544 = .ok (.invokestatic 63, 3) := by decide +kernel
theorem qL_holds_547 : decode (mB mL_holds) 547 = .ok (.if_icmp .ge 7, 3) := by decide +kernel
theorem qL_holds_550 : decode (mB mL_holds) 550 = .ok (.iload 11, 2) := by decide +kernel
theorem qL_holds_552 : decode (mB mL_holds) 552 = .ok (.istore 7, 2) := by decide +kernel
theorem qL_holds_554 : decode (mB mL_holds) 554 = .ok (.iload 8, 2) := by decide +kernel
theorem qL_holds_556 : decode (mB mL_holds) 556 = .ok (.iconst (-1), 1) := by decide +kernel
theorem qL_holds_557 : decode (mB mL_holds) 557 = .ok (.if_icmp .eq 18, 3) := by decide +kernel
theorem qL_holds_560 : decode (mB mL_holds) 560 = .ok (.aload_n 0, 1) := by decide +kernel
theorem qL_holds_561 : decode (mB mL_holds) 561 = .ok (.iload 11, 2) := by decide +kernel
theorem qL_holds_563 : decode (mB mL_holds) 563 = .ok (.invokevirtual 290, 3) := by decide +kernel
theorem qL_holds_566 : decode (mB mL_holds) 566 = .ok (.aload_n 0, 1) := by decide +kernel
theorem qL_holds_567 : decode (mB mL_holds) 567 = .ok (.iload 8, 2) := by decide +kernel
theorem qL_holds_569 : decode (mB mL_holds) 569 = .ok (.invokevirtual 290, 3) := by decide +kernel
theorem qL_holds_572 : decode (mB mL_holds) 572 = .ok (.if_icmp .le 7, 3) := by decide +kernel
theorem qL_holds_575 : decode (mB mL_holds) 575 = .ok (.iload 11, 2) := by decide +kernel
theorem qL_holds_577 : decode (mB mL_holds) 577 = .ok (.istore 8, 2) := by decide +kernel
theorem qL_holds_579 : decode (mB mL_holds) 579 = .ok (.iinc 11 1, 3) := by decide +kernel
theorem qL_holds_582 : decode (mB mL_holds) 582 = .ok (.goto (-534), 3) := by decide +kernel
theorem qL_holds_585 : decode (mB mL_holds) 585 = .ok (.aload_n 1, 1) := by decide +kernel
theorem qL_holds_586 : decode (mB mL_holds) 586 = .ok (.invokestatic 106, 3) := by decide +kernel
theorem qL_holds_589 : decode (mB mL_holds) 589 = .ok (.istore 11, 2) := by decide +kernel
theorem qL_holds_591 : decode (mB mL_holds) 591 = .ok (.iconst 0, 1) := by decide +kernel
theorem qL_holds_592 : decode (mB mL_holds) 592 = .ok (.istore 12, 2) := by decide +kernel
theorem qL_holds_594 : decode (mB mL_holds) 594 = .ok (.iload 12, 2) := by decide +kernel
theorem qL_holds_596 : decode (mB mL_holds) 596 = .ok (.aload_n 1, 1) := by decide +kernel
theorem qL_holds_597 : decode (mB mL_holds) 597 = .ok (.invokestatic 93, 3) := by decide +kernel
theorem qL_holds_600 : decode (mB mL_holds) 600 = .ok (.if_icmp .ge 24, 3) := by decide +kernel
theorem qL_holds_603 : decode (mB mL_holds) 603 = .ok (.aload_n 0, 1) := by decide +kernel
theorem qL_holds_604 : decode (mB mL_holds) 604 = .ok (.iload 12, 2) := by decide +kernel
theorem qL_holds_606 : decode (mB mL_holds) 606 = .ok (.invokevirtual 153, 3) := by decide +kernel
theorem qL_holds_609 : decode (mB mL_holds) 609 = .ok (.aload_n 2, 1) := by decide +kernel
theorem qL_holds_610 : decode (mB mL_holds) 610 = .ok (.iload 12, 2) := by decide +kernel
theorem qL_holds_612 : decode (mB mL_holds) 612 = .ok (.iaload, 1) := by decide +kernel
theorem qL_holds_613 : decode (mB mL_holds) 613 = .ok (.if_icmp .eq 5, 3) := by decide +kernel
theorem qL_holds_616 : decode (mB mL_holds) 616 = .ok (.iconst 0, 1) := by decide +kernel
theorem qL_holds_617 : decode (mB mL_holds) 617 = .ok (.ireturn, 1) := by decide +kernel
theorem qL_holds_618 : decode (mB mL_holds) 618 = .ok (.iinc 12 1, 3) := by decide +kernel
theorem qL_holds_621 : decode (mB mL_holds) 621 = .ok (.goto (-27), 3) := by decide +kernel
theorem qL_holds_624 : decode (mB mL_holds) 624 = .ok (.iconst 0, 1) := by decide +kernel
theorem qL_holds_625 : decode (mB mL_holds) 625 = .ok (.istore 12, 2) := by decide +kernel
theorem qL_holds_627 : decode (mB mL_holds) 627 = .ok (.iload 12, 2) := by decide +kernel
theorem qL_holds_629 : decode (mB mL_holds) 629 = .ok (.aload_n 1, 1) := by decide +kernel
theorem qL_holds_630 : decode (mB mL_holds) 630 = .ok (.invokestatic 44, 3) := by decide +kernel
theorem qL_holds_633 : decode (mB mL_holds) 633 = .ok (.if_icmp .ge 24, 3) := by decide +kernel
theorem qL_holds_636 : decode (mB mL_holds) 636 = .ok (.aload_n 0, 1) := by decide +kernel
theorem qL_holds_637 : decode (mB mL_holds) 637 = .ok (.iload 12, 2) := by decide +kernel
theorem qL_holds_639 : decode (mB mL_holds) 639 = .ok (.invokevirtual 305, 3) := by decide +kernel
theorem qL_holds_642 : decode (mB mL_holds) 642 = .ok (.aload_n 3, 1) := by decide +kernel
theorem qL_holds_643 : decode (mB mL_holds) 643 = .ok (.iload 12, 2) := by decide +kernel
theorem qL_holds_645 : decode (mB mL_holds) 645 = .ok (.iaload, 1) := by decide +kernel
theorem qL_holds_646 : decode (mB mL_holds) 646 = .ok (.if_icmp .eq 5, 3) := by decide +kernel
theorem qL_holds_649 : decode (mB mL_holds) 649 = .ok (.iconst 0, 1) := by decide +kernel
theorem qL_holds_650 : decode (mB mL_holds) 650 = .ok (.ireturn, 1) := by decide +kernel
theorem qL_holds_651 : decode (mB mL_holds) 651 = .ok (.iinc 12 1, 3) := by decide +kernel
theorem qL_holds_654 : decode (mB mL_holds) 654 = .ok (.goto (-27), 3) := by decide +kernel
theorem qL_holds_657 : decode (mB mL_holds) 657 = .ok (.aload_n 0, 1) := by decide +kernel
theorem qL_holds_658 : decode (mB mL_holds) 658 = .ok (.invokevirtual 308, 3) := by decide +kernel
theorem qL_holds_661 : decode (mB mL_holds) 661 = .ok (.iload 11, 2) := by decide +kernel
theorem qL_holds_663 : decode (mB mL_holds) 663 = .ok (.ifCond .ne 7, 3) := by decide +kernel
theorem qL_holds_666 : decode (mB mL_holds) 666 = .ok (.fconst 0, 1) := by decide +kernel
theorem qL_holds_667 : decode (mB mL_holds) 667 = .ok (.goto 10, 3) := by decide +kernel
theorem qL_holds_670 : decode (mB mL_holds) 670 = .ok (.iload 4, 2) := by decide +kernel
theorem qL_holds_672 : decode (mB mL_holds) 672 = .ok (.i2f, 1) := by decide +kernel
theorem qL_holds_673 : decode (mB mL_holds) 673 = .ok (.iload 11, 2) := by decide +kernel
theorem qL_holds_675 : decode (mB mL_holds) 675 = .ok (.i2f, 1) := by decide +kernel
theorem qL_holds_676 : decode (mB mL_holds) 676 = .ok (.fdiv, 1) := by decide +kernel
theorem qL_holds_677 : decode (mB mL_holds) 677 = .ok (.fcmp .l, 1) := by decide +kernel
theorem qL_holds_678 : decode (mB mL_holds) 678 = .ok (.ifCond .ne 27, 3) := by decide +kernel
theorem qL_holds_681 : decode (mB mL_holds) 681 = .ok (.aload_n 0, 1) := by decide +kernel
theorem qL_holds_682 : decode (mB mL_holds) 682 = .ok (.invokevirtual 312, 3) := by decide +kernel
theorem qL_holds_685 : decode (mB mL_holds) 685 = .ok (.iload 11, 2) := by decide +kernel
theorem qL_holds_687 : decode (mB mL_holds) 687 = .ok (.ifCond .ne 7, 3) := by decide +kernel
theorem qL_holds_690 : decode (mB mL_holds) 690 = .ok (.dconst 0, 1) := by decide +kernel
theorem qL_holds_691 : decode (mB mL_holds) 691 = .ok (.goto 10, 3) := by decide +kernel
theorem qL_holds_694 : decode (mB mL_holds) 694 = .ok (.iload 5, 2) := by decide +kernel
theorem qL_holds_696 : decode (mB mL_holds) 696 = .ok (.i2d, 1) := by decide +kernel
theorem qL_holds_697 : decode (mB mL_holds) 697 = .ok (.iload 11, 2) := by decide +kernel
theorem qL_holds_699 : decode (mB mL_holds) 699 = .ok (.i2d, 1) := by decide +kernel
theorem qL_holds_700 : decode (mB mL_holds) 700 = .ok (.ddiv, 1) := by decide +kernel
theorem qL_holds_701 : decode (mB mL_holds) 701 = .ok (.dcmp .l, 1) := by decide +kernel
theorem qL_holds_702 : decode (mB mL_holds) 702 = .ok (.ifCond .eq 5, 3) := by decide +kernel
theorem qL_holds_705 : decode (mB mL_holds) 705 = .ok (.iconst 0, 1) := by decide +kernel
theorem qL_holds_706 : decode (mB mL_holds) 706 = .ok (.ireturn, 1) := by decide +kernel
theorem qL_holds_707 : decode (mB mL_holds) 707 = .ok (.aload_n 0, 1) := by decide +kernel
theorem qL_holds_708 : decode (mB mL_holds) 708 = .ok (.invokevirtual 316, 3) := by decide +kernel
theorem qL_holds_711 : decode (mB mL_holds) 711 = .ok (.iload 6, 2) := by decide +kernel
theorem qL_holds_713 : decode (mB mL_holds) 713 = .ok (.if_icmp .ne 37, 3) := by decide +kernel
theorem qL_holds_716 : decode (mB mL_holds) 716 = .ok (.aload_n 0, 1) := by decide +kernel
theorem qL_holds_717 : decode (mB mL_holds) 717 = .ok (.invokevirtual 319, 3) := by decide +kernel
theorem qL_holds_720 : decode (mB mL_holds) 720 = .ok (.iload 7, 2) := by decide +kernel
theorem qL_holds_722 : decode (mB mL_holds) 722 = .ok (.if_icmp .ne 28, 3) := by decide +kernel
theorem qL_holds_725 : decode (mB mL_holds) 725 = .ok (.aload_n 0, 1) := by decide +kernel
theorem qL_holds_726 : decode (mB mL_holds) 726 = .ok (.invokevirtual 322, 3) := by decide +kernel
theorem qL_holds_729 : decode (mB mL_holds) 729 = .ok (.iload 8, 2) := by decide +kernel
theorem qL_holds_731 : decode (mB mL_holds) 731 = .ok (.if_icmp .ne 19, 3) := by decide +kernel
theorem qL_holds_734 : decode (mB mL_holds) 734 = .ok (.aload_n 0, 1) := by decide +kernel
theorem qL_holds_735 : decode (mB mL_holds) 735 = .ok (.invokevirtual 325, 3) := by decide +kernel
theorem qL_holds_738 : decode (mB mL_holds) 738 = .ok (.iload 9, 2) := by decide +kernel
theorem qL_holds_740 : decode (mB mL_holds) 740 = .ok (.iload 10, 2) := by decide +kernel
theorem qL_holds_742 : decode (mB mL_holds) 742 = .ok (.isub, 1) := by decide +kernel
theorem qL_holds_743 : decode (mB mL_holds) 743 = .ok (.if_icmp .ne 7, 3) := by decide +kernel
theorem qL_holds_746 : decode (mB mL_holds) 746 = .ok (.iconst 1, 1) := by decide +kernel
theorem qL_holds_747 : decode (mB mL_holds) 747 = .ok (.goto 4, 3) := by decide +kernel
theorem qL_holds_750 : decode (mB mL_holds) 750 = .ok (.iconst 0, 1) := by decide +kernel
theorem qL_holds_751 : decode (mB mL_holds) 751 = .ok (.ireturn, 1) := by decide +kernel
theorem qL_lag_0 : decode (mB mL_lag) 0 = .ok (.iconst 1, 1) := by decide +kernel
theorem qL_lag_1 : decode (mB mL_lag) 1 = .ok (.aload_n 0, 1) := by decide +kernel
theorem qL_lag_2 : decode (mB mL_lag) 2 = .ok (.iconst 1, 1) := by decide +kernel
theorem qL_lag_3 : decode (mB mL_lag) 3 = .ok (.bipush 20, 2) := by decide +kernel
theorem qL_lag_5 : decode (mB mL_lag) 5 = .ok (.invokestatic 40, 3) := by decide +kernel
theorem qL_lag_8 : decode (mB mL_lag) 8 = .ok (.iadd, 1) := by decide +kernel
theorem qL_lag_9 : decode (mB mL_lag) 9 = .ok (.ireturn, 1) := by decide +kernel
theorem qL_length_0 : decode (mB mL_length) 0 = .ok (.bipush 10, 2) := by decide +kernel
theorem qL_length_2 : decode (mB mL_length) 2 = .ok (.aload_n 0, 1) := by decide +kernel
theorem qL_length_3 : decode (mB mL_length) 3 = .ok (.bipush 19, 2) := by decide +kernel
theorem qL_length_5 : decode (mB mL_length) 5 = .ok (.iconst 5, 1) := by decide +kernel
theorem qL_length_6 : decode (mB mL_length) 6 = .ok (.iload_n 1, 1) := by decide +kernel
theorem qL_length_7 : decode (mB mL_length) 7 = .ok (.imul, 1) := by decide +kernel
theorem qL_length_8 : decode (mB mL_length) 8 = .ok (.iadd, 1) := by decide +kernel
theorem qL_length_9 : decode (mB mL_length) 9 = .ok (.aload_n 0, 1) := by decide +kernel
theorem qL_length_10 : decode (mB mL_length) 10 = .ok (.iconst 5, 1) := by decide +kernel
theorem qL_length_11 : decode (mB mL_length) 11 = .ok (.iconst 2, 1) := by decide +kernel
theorem qL_length_12 : decode (mB mL_length) 12 = .ok (.invokestatic 40, 3) := by decide +kernel
theorem qL_length_15 : decode (mB mL_length) 15 = .ok (.ifCond .ne 9, 3) := by decide +kernel
theorem qL_length_18 : decode (mB mL_length) 18 = .ok (.sipush 990, 3) := by decide +kernel
theorem qL_length_21 : decode (mB mL_length) 21 = .ok (.goto 6, 3) := by decide +kernel
theorem qL_length_24 : decode (mB mL_length) 24 = .ok (.sipush 200, 3) := by decide +kernel
theorem qL_length_27 : decode (mB mL_length) 27 = .ok (.invokestatic 40, 3) := by decide +kernel
theorem qL_length_30 : decode (mB mL_length) 30 = .ok (.iadd, 1) := by decide +kernel
theorem qL_length_31 : decode (mB mL_length) 31 = .ok (.ireturn, 1) := by decide +kernel
theorem qL_lifted_0 : decode (mB mL_lifted) 0 = .ok (.aload_n 0, 1) := by decide +kernel
theorem qL_lifted_1 : decode (mB mL_lifted) 1 = .ok (.iload_n 1, 1) := by decide +kernel
theorem qL_lifted_2 : decode (mB mL_lifted) 2 = .ok (.invokevirtual 209, 3) := by decide +kernel
theorem qL_lifted_5 : decode (mB mL_lifted) 5 = .ok (.ireturn, 1) := by decide +kernel
theorem qL_lifted_6 : decode (mB mL_lifted) 6 = .ok (.astore_n 2, 1) := by decide +kernel
theorem qL_lifted_7 : decode (mB mL_lifted) 7 = .ok (.sipush (-9999), 3) := by decide +kernel
theorem qL_lifted_10 : decode (mB mL_lifted) 10 = .ok (.ireturn, 1) := by decide +kernel
theorem qL_limit_0 : decode (mB mL_limit) 0 = .ok (.aload_n 0, 1) := by decide +kernel
theorem qL_limit_1 : decode (mB mL_limit) 1 = .ok (.iload_n 2, 1) := by decide +kernel
theorem qL_limit_2 : decode (mB mL_limit) 2 = .ok (.invokevirtual 337, 3) := by decide +kernel
theorem qL_limit_5 : decode (mB mL_limit) 5 = .ok (.istore_n 3, 1) := by decide +kernel
theorem qL_limit_6 : decode (mB mL_limit) 6 = .ok (.aload_n 0, 1) := by decide +kernel
theorem qL_limit_7 : decode (mB mL_limit) 7 = .ok (.iload_n 2, 1) := by decide +kernel
theorem qL_limit_8 : decode (mB mL_limit) 8 = .ok (.invokevirtual 162, 3) := by decide +kernel
theorem qL_limit_11 : decode (mB mL_limit) 11 = .ok (.istore 4, 2) := by decide +kernel
theorem qL_limit_13 : decode (mB mL_limit) 13 = .ok (.iload_n 3, 1) := by decide +kernel
theorem qL_limit_14 : decode (mB mL_limit) 14 = .ok (.sipush (-1000), 3) := by decide +kernel
theorem qL_limit_17 : decode (mB mL_limit) 17 = .ok (.if_icmp .ne 27, 3) := by decide +kernel
theorem qL_limit_20 : decode (mB mL_limit) 20 = .ok (.aload_n 1, 1) := by decide +kernel
theorem qL_limit_21 : decode (mB mL_limit) 21 = .ok (.iload_n 2, 1) := by decide +kernel
theorem qL_limit_22 : decode (mB mL_limit) 22 = .ok (.iload 4, 2) := by decide +kernel
theorem qL_limit_24 : decode (mB mL_limit) 24 = .ok (.sipush (-200), 3) := by decide +kernel
theorem qL_limit_27 : decode (mB mL_limit) 27 = .ok (.invokestatic 255, 3) := by decide +kernel
theorem qL_limit_30 : decode (mB mL_limit) 30 = .ok (.aload_n 1, 1) := by decide +kernel
theorem qL_limit_31 : decode (mB mL_limit) 31 = .ok (.iload_n 2, 1) := by decide +kernel
theorem qL_limit_32 : decode (mB mL_limit) 32 = .ok (.invokestatic 120, 3) := by decide +kernel
theorem qL_limit_35 : decode (mB mL_limit) 35 = .ok (.if_icmp .le 7, 3) := by decide +kernel
theorem qL_limit_38 : decode (mB mL_limit) 38 = .ok (.iconst 1, 1) := by decide +kernel
theorem qL_limit_39 : decode (mB mL_limit) 39 = .ok (.goto 4, 3) := by decide +kernel
theorem qL_limit_42 : decode (mB mL_limit) 42 = .ok (.iconst 0, 1) := by decide +kernel
theorem qL_limit_43 : decode (mB mL_limit) 43 = .ok (.ireturn, 1) := by decide +kernel
theorem qL_limit_44 : decode (mB mL_limit) 44 = .ok (.iload_n 3, 1) := by decide +kernel
theorem qL_limit_45 : decode (mB mL_limit) 45 = .ok (.sipush (-200), 3) := by decide +kernel
theorem qL_limit_48 : decode (mB mL_limit) 48 = .ok (.if_icmp .lt 27, 3) := by decide +kernel
theorem qL_limit_51 : decode (mB mL_limit) 51 = .ok (.iload_n 3, 1) := by decide +kernel
theorem qL_limit_52 : decode (mB mL_limit) 52 = .ok (.sipush 1500, 3) := by decide +kernel
theorem qL_limit_55 : decode (mB mL_limit) 55 = .ok (.if_icmp .gt 20, 3) := by decide +kernel
theorem qL_limit_58 : decode (mB mL_limit) 58 = .ok (.aload_n 0, 1) := by decide +kernel
theorem qL_limit_59 : decode (mB mL_limit) 59 = .ok (.iload_n 2, 1) := by decide +kernel
theorem qL_limit_60 : decode (mB mL_limit) 60 = .ok (.iload_n 3, 1) := by decide +kernel
theorem qL_limit_61 : decode (mB mL_limit) 61 = .ok (.invokevirtual 340, 3) := by decide +kernel
theorem qL_limit_64 : decode (mB mL_limit) 64 = .ok (.aload_n 1, 1) := by decide +kernel
theorem qL_limit_65 : decode (mB mL_limit) 65 = .ok (.iload_n 2, 1) := by decide +kernel
theorem qL_limit_66 : decode (mB mL_limit) 66 = .ok (.iload 4, 2) := by decide +kernel
theorem qL_limit_68 : decode (mB mL_limit) 68 = .ok (.iload_n 3, 1) := by decide +kernel
theorem qL_limit_69 : decode (mB mL_limit) 69 = .ok (.invokestatic 255, 3) := by decide +kernel
theorem qL_limit_72 : decode (mB mL_limit) 72 = .ok (.if_icmp .eq 5, 3) := by decide +kernel
theorem qL_limit_75 : decode (mB mL_limit) 75 = .ok (.iconst 0, 1) := by decide +kernel
theorem qL_limit_76 : decode (mB mL_limit) 76 = .ok (.ireturn, 1) := by decide +kernel
theorem qL_limit_77 : decode (mB mL_limit) 77 = .ok (.aload_n 1, 1) := by decide +kernel
theorem qL_limit_78 : decode (mB mL_limit) 78 = .ok (.iload_n 2, 1) := by decide +kernel
theorem qL_limit_79 : decode (mB mL_limit) 79 = .ok (.iload 4, 2) := by decide +kernel
theorem qL_limit_81 : decode (mB mL_limit) 81 = .ok (.iload_n 3, 1) := by decide +kernel
theorem qL_limit_82 : decode (mB mL_limit) 82 = .ok (.invokestatic 255, 3) := by decide +kernel
theorem qL_limit_85 : decode (mB mL_limit) 85 = .ok (.aload_n 1, 1) := by decide +kernel
theorem qL_limit_86 : decode (mB mL_limit) 86 = .ok (.iload_n 2, 1) := by decide +kernel
theorem qL_limit_87 : decode (mB mL_limit) 87 = .ok (.invokestatic 120, 3) := by decide +kernel
theorem qL_limit_90 : decode (mB mL_limit) 90 = .ok (.if_icmp .gt 32, 3) := by decide +kernel
theorem qL_limit_93 : decode (mB mL_limit) 93 = .ok (.iload_n 3, 1) := by decide +kernel
theorem qL_limit_94 : decode (mB mL_limit) 94 = .ok (.sipush 1500, 3) := by decide +kernel
theorem qL_limit_97 : decode (mB mL_limit) 97 = .ok (.if_icmp .eq 21, 3) := by decide +kernel
theorem qL_limit_100 : decode (mB mL_limit) 100 = .ok (.aload_n 1, 1) := by decide +kernel
theorem qL_limit_101 : decode (mB mL_limit) 101 = .ok (.iload_n 2, 1) := by decide +kernel
theorem qL_limit_102 : decode (mB mL_limit) 102 = .ok (.iload 4, 2) := by decide +kernel
theorem qL_limit_104 : decode (mB mL_limit) 104 = .ok (.iload_n 3, 1) := by decide +kernel
theorem qL_limit_105 : decode (mB mL_limit) 105 = .ok (.iconst 1, 1) := by decide +kernel
theorem qL_limit_106 : decode (mB mL_limit) 106 = .ok (.iadd, 1) := by decide +kernel
theorem qL_limit_107 : decode (mB mL_limit) 107 = .ok (.invokestatic 255, 3) := by decide +kernel
theorem qL_limit_110 : decode (mB mL_limit) 110 = .ok (.aload_n 1, 1) := by decide +kernel
theorem qL_limit_111 : decode (mB mL_limit) 111 = .ok (.iload_n 2, 1) := by decide +kernel
theorem qL_limit_112 : decode (mB mL_limit) 112 = .ok (.invokestatic 120, 3) := by decide +kernel
theorem qL_limit_115 : decode (mB mL_limit) 115 = .ok (.if_icmp .le 7, 3) := by decide +kernel
theorem qL_limit_118 : decode (mB mL_limit) 118 = .ok (.iconst 1, 1) := by decide +kernel
theorem qL_limit_119 : decode (mB mL_limit) 119 = .ok (.goto 4, 3) := by decide +kernel
theorem qL_limit_122 : decode (mB mL_limit) 122 = .ok (.iconst 0, 1) := by decide +kernel
theorem qL_limit_123 : decode (mB mL_limit) 123 = .ok (.ireturn, 1) := by decide +kernel
theorem qL_load_0 : decode (mB mL_load) 0 = .ok (.new 48, 3) := by decide +kernel
theorem qL_load_3 : decode (mB mL_load) 3 = .ok (.dup, 1) := by decide +kernel
theorem qL_load_4 : decode (mB mL_load) 4 = .ok (.new 48, 3) := by decide +kernel
theorem qL_load_7 : decode (mB mL_load) 7 = .ok (.dup, 1) := by decide +kernel
theorem qL_load_8 : decode (mB mL_load) 8 = .ok (.invokespecial 50, 3) := by decide +kernel
theorem qL_load_11 : decode (mB mL_load) 11 = .ok (.ldc 51, 2) := by decide +kernel
theorem qL_load_13 : decode (mB mL_load) 13 = .ok (.invokevirtual 53, 3) := by decide +kernel
theorem qL_load_16 : decode (mB mL_load) 16 = .ok (.aload_n 1, 1) := by decide +kernel
theorem qL_load_17 : decode (mB mL_load) 17 = .ok (.invokestatic 56, 3) := by decide +kernel
theorem qL_load_20 : decode (mB mL_load) 20 = .ok (.ifCond .ge 8, 3) := by decide +kernel
theorem qL_load_23 : decode (mB mL_load) 23 = .ok (.ldc 59, 2) := by decide +kernel
theorem qL_load_25 : decode (mB mL_load) 25 = .ok (.goto 5, 3) := by decide +kernel
theorem qL_load_28 : decode (mB mL_load) 28 = .ok (.ldc 61, 2) := by decide +kernel
theorem qL_load_30 : decode (mB mL_load) 30 = .ok (.invokevirtual 53, 3) := by decide +kernel
theorem qL_load_33 : decode (mB mL_load) 33 = .ok (.aload_n 1, 1) := by decide +kernel
theorem qL_load_34 : decode (mB mL_load) 34 = .ok (.invokestatic 56, 3) := by decide +kernel
theorem qL_load_37 : decode (mB mL_load) 37 = .ok (.invokestatic 63, 3) := by decide +kernel
theorem qL_load_40 : decode (mB mL_load) 40 = .ok (.invokevirtual 66, 3) := by decide +kernel
theorem qL_load_43 : decode (mB mL_load) 43 = .ok (.ldc 69, 2) := by decide +kernel
theorem qL_load_45 : decode (mB mL_load) 45 = .ok (.invokevirtual 53, 3) := by decide +kernel
theorem qL_load_48 : decode (mB mL_load) 48 = .ok (.aload_n 1, 1) := by decide +kernel
theorem qL_load_49 : decode (mB mL_load) 49 = .ok (.invokestatic 71, 3) := by decide +kernel
theorem qL_load_52 : decode (mB mL_load) 52 = .ok (.invokevirtual 66, 3) := by decide +kernel
theorem qL_load_55 : decode (mB mL_load) 55 = .ok (.ldc 74, 2) := by decide +kernel
theorem qL_load_57 : decode (mB mL_load) 57 = .ok (.invokevirtual 53, 3) := by decide +kernel
theorem qL_load_60 : decode (mB mL_load) 60 = .ok (.invokevirtual 76, 3) := by decide +kernel
theorem qL_load_63 : decode (mB mL_load) 63 = .ok (.invokespecial 80, 3) := by decide +kernel
theorem qL_load_66 : decode (mB mL_load) 66 = .ok (.astore_n 2, 1) := by decide +kernel
theorem qL_load_67 : decode (mB mL_load) 67 = .ok (.iconst 0, 1) := by decide +kernel
theorem qL_load_68 : decode (mB mL_load) 68 = .ok (.istore_n 3, 1) := by decide +kernel
theorem qL_load_69 : decode (mB mL_load) 69 = .ok (.iload_n 3, 1) := by decide +kernel
theorem qL_load_70 : decode (mB mL_load) 70 = .ok (.aload_n 1, 1) := by decide +kernel
theorem qL_load_71 : decode (mB mL_load) 71 = .ok (.invokestatic 44, 3) := by decide +kernel
theorem qL_load_74 : decode (mB mL_load) 74 = .ok (.if_icmp .ge 42, 3) := by decide +kernel
theorem qL_load_77 : decode (mB mL_load) 77 = .ok (.aload_n 2, 1) := by decide +kernel
theorem qL_load_78 : decode (mB mL_load) 78 = .ok (.ldc 83, 2) := by decide +kernel
theorem qL_load_80 : decode (mB mL_load) 80 = .ok (.invokevirtual 53, 3) := by decide +kernel
theorem qL_load_83 : decode (mB mL_load) 83 = .ok (.getstatic 85, 3) := by decide +kernel
theorem qL_load_86 : decode (mB mL_load) 86 = .ok (.iload_n 3, 1) := by decide +kernel
theorem qL_load_87 : decode (mB mL_load) 87 = .ok (.aaload, 1) := by decide +kernel
theorem qL_load_88 : decode (mB mL_load) 88 = .ok (.invokevirtual 53, 3) := by decide +kernel
theorem qL_load_91 : decode (mB mL_load) 91 = .ok (.ldc 69, 2) := by decide +kernel
theorem qL_load_93 : decode (mB mL_load) 93 = .ok (.invokevirtual 53, 3) := by decide +kernel
theorem qL_load_96 : decode (mB mL_load) 96 = .ok (.aload_n 1, 1) := by decide +kernel
theorem qL_load_97 : decode (mB mL_load) 97 = .ok (.iload_n 3, 1) := by decide +kernel
theorem qL_load_98 : decode (mB mL_load) 98 = .ok (.invokestatic 89, 3) := by decide +kernel
theorem qL_load_101 : decode (mB mL_load) 101 = .ok (.invokevirtual 66, 3) := by decide +kernel
theorem qL_load_104 : decode (mB mL_load) 104 = .ok (.ldc 74, 2) := by decide +kernel
theorem qL_load_106 : decode (mB mL_load) 106 = .ok (.invokevirtual 53, 3) := by decide +kernel
theorem qL_load_109 : decode (mB mL_load) 109 = .ok (.pop, 1) := by decide +kernel
theorem qL_load_110 : decode (mB mL_load) 110 = .ok (.iinc 3 1, 3) := by decide +kernel
theorem qL_load_113 : decode (mB mL_load) 113 = .ok (.goto (-44), 3) := by decide +kernel
theorem qL_load_116 : decode (mB mL_load) 116 = .ok (.iconst 0, 1) := by decide +kernel
theorem qL_load_117 : decode (mB mL_load) 117 = .ok (.istore_n 3, 1) := by decide +kernel
theorem qL_load_118 : decode (mB mL_load) 118 = .ok (.iload_n 3, 1) := by decide +kernel
theorem qL_load_119 : decode (mB mL_load) 119 = .ok (.aload_n 1, 1) := by decide +kernel
theorem qL_load_120 : decode (mB mL_load) 120 = .ok (.invokestatic 93, 3) := by decide +kernel
theorem qL_load_123 : decode (mB mL_load) 123 = .ok (.if_icmp .ge 58, 3) := by decide +kernel
theorem qL_load_126 : decode (mB mL_load) 126 = .ok (.aload_n 2, 1) := by decide +kernel
theorem qL_load_127 : decode (mB mL_load) 127 = .ok (.ldc 96, 2) := by decide +kernel
theorem qL_load_129 : decode (mB mL_load) 129 = .ok (.invokevirtual 53, 3) := by decide +kernel
theorem qL_load_132 : decode (mB mL_load) 132 = .ok (.getstatic 98, 3) := by decide +kernel
theorem qL_load_135 : decode (mB mL_load) 135 = .ok (.iload_n 3, 1) := by decide +kernel
theorem qL_load_136 : decode (mB mL_load) 136 = .ok (.aaload, 1) := by decide +kernel
theorem qL_load_137 : decode (mB mL_load) 137 = .ok (.invokevirtual 53, 3) := by decide +kernel
theorem qL_load_140 : decode (mB mL_load) 140 = .ok (.aload_n 1, 1) := by decide +kernel
theorem qL_load_141 : decode (mB mL_load) 141 = .ok (.iload_n 3, 1) := by decide +kernel
theorem qL_load_142 : decode (mB mL_load) 142 = .ok (.invokestatic 101, 3) := by decide +kernel
theorem qL_load_145 : decode (mB mL_load) 145 = .ok (.ifCond .ge 8, 3) := by decide +kernel
theorem qL_load_148 : decode (mB mL_load) 148 = .ok (.ldc 104, 2) := by decide +kernel
theorem qL_load_150 : decode (mB mL_load) 150 = .ok (.goto 5, 3) := by decide +kernel
theorem qL_load_153 : decode (mB mL_load) 153 = .ok (.ldc 69, 2) := by decide +kernel
theorem qL_load_155 : decode (mB mL_load) 155 = .ok (.invokevirtual 53, 3) := by decide +kernel
theorem qL_load_158 : decode (mB mL_load) 158 = .ok (.aload_n 1, 1) := by decide +kernel
theorem qL_load_159 : decode (mB mL_load) 159 = .ok (.iload_n 3, 1) := by decide +kernel
theorem qL_load_160 : decode (mB mL_load) 160 = .ok (.invokestatic 101, 3) := by decide +kernel
theorem qL_load_163 : decode (mB mL_load) 163 = .ok (.invokestatic 63, 3) := by decide +kernel
theorem qL_load_166 : decode (mB mL_load) 166 = .ok (.invokevirtual 66, 3) := by decide +kernel
theorem qL_load_169 : decode (mB mL_load) 169 = .ok (.ldc 74, 2) := by decide +kernel
theorem qL_load_171 : decode (mB mL_load) 171 = .ok (.invokevirtual 53, 3) := by decide +kernel
theorem qL_load_174 : decode (mB mL_load) 174 = .ok (.pop, 1) := by decide +kernel
theorem qL_load_175 : decode (mB mL_load) 175 = .ok (.iinc 3 1, 3) := by decide +kernel
theorem qL_load_178 : decode (mB mL_load) 178 = .ok (.goto (-60), 3) := by decide +kernel
theorem qL_load_181 : decode (mB mL_load) 181 = .ok (.iconst 0, 1) := by decide +kernel
theorem qL_load_182 : decode (mB mL_load) 182 = .ok (.istore_n 3, 1) := by decide +kernel
theorem qL_load_183 : decode (mB mL_load) 183 = .ok (.iload_n 3, 1) := by decide +kernel
theorem qL_load_184 : decode (mB mL_load) 184 = .ok (.aload_n 1, 1) := by decide +kernel
theorem qL_load_185 : decode (mB mL_load) 185 = .ok (.invokestatic 106, 3) := by decide +kernel
theorem qL_load_188 : decode (mB mL_load) 188 = .ok (.if_icmp .ge 85, 3) := by decide +kernel
theorem qL_load_191 : decode (mB mL_load) 191 = .ok (.aload_n 2, 1) := by decide +kernel
theorem qL_load_192 : decode (mB mL_load) 192 = .ok (.ldc 109, 2) := by decide +kernel
theorem qL_load_194 : decode (mB mL_load) 194 = .ok (.invokevirtual 53, 3) := by decide +kernel
theorem qL_load_197 : decode (mB mL_load) 197 = .ok (.getstatic 85, 3) := by decide +kernel
theorem qL_load_200 : decode (mB mL_load) 200 = .ok (.aload_n 1, 1) := by decide +kernel
theorem qL_load_201 : decode (mB mL_load) 201 = .ok (.iload_n 3, 1) := by decide +kernel
theorem qL_load_202 : decode (mB mL_load) 202 = .ok (.invokestatic 111, 3) := by decide +kernel
theorem qL_load_205 : decode (mB mL_load) 205 = .ok (.aaload, 1) := by decide +kernel
theorem qL_load_206 : decode (mB mL_load) 206 = .ok (.invokevirtual 53, 3) := by decide +kernel
theorem qL_load_209 : decode (mB mL_load) 209 = .ok (.ldc 69, 2) := by decide +kernel
theorem qL_load_211 : decode (mB mL_load) 211 = .ok (.invokevirtual 53, 3) := by decide +kernel
theorem qL_load_214 : decode (mB mL_load) 214 = .ok (.aload_n 1, 1) := by decide +kernel
theorem qL_load_215 : decode (mB mL_load) 215 = .ok (.iload_n 3, 1) := by decide +kernel
theorem qL_load_216 : decode (mB mL_load) 216 = .ok (.invokestatic 114, 3) := by decide +kernel
theorem qL_load_219 : decode (mB mL_load) 219 = .ok (.invokevirtual 66, 3) := by decide +kernel
theorem qL_load_222 : decode (mB mL_load) 222 = .ok (.ldc 69, 2) := by decide +kernel
theorem qL_load_224 : decode (mB mL_load) 224 = .ok (.invokevirtual 53, 3) := by decide +kernel
theorem qL_load_227 : decode (mB mL_load) 227 = .ok (.aload_n 1, 1) := by decide +kernel
theorem qL_load_228 : decode (mB mL_load) 228 = .ok (.iload_n 3, 1) := by decide +kernel
theorem qL_load_229 : decode (mB mL_load) 229 = .ok (.invokestatic 117, 3) := by decide +kernel
theorem qL_load_232 : decode (mB mL_load) 232 = .ok (.invokevirtual 66, 3) := by decide +kernel
theorem qL_load_235 : decode (mB mL_load) 235 = .ok (.ldc 69, 2) := by decide +kernel
theorem qL_load_237 : decode (mB mL_load) 237 = .ok (.invokevirtual 53, 3) := by decide +kernel
theorem qL_load_240 : decode (mB mL_load) 240 = .ok (.aload_n 1, 1) := by decide +kernel
theorem qL_load_241 : decode (mB mL_load) 241 = .ok (.iload_n 3, 1) := by decide +kernel
theorem qL_load_242 : decode (mB mL_load) 242 = .ok (.invokestatic 120, 3) := by decide +kernel
theorem qL_load_245 : decode (mB mL_load) 245 = .ok (.invokevirtual 66, 3) := by decide +kernel
theorem qL_load_248 : decode (mB mL_load) 248 = .ok (.ldc 69, 2) := by decide +kernel
theorem qL_load_250 : decode (mB mL_load) 250 = .ok (.invokevirtual 53, 3) := by decide +kernel
theorem qL_load_253 : decode (mB mL_load) 253 = .ok (.aload_n 1, 1) := by decide +kernel
theorem qL_load_254 : decode (mB mL_load) 254 = .ok (.iload_n 3, 1) := by decide +kernel
theorem qL_load_255 : decode (mB mL_load) 255 = .ok (.invokestatic 122, 3) := by decide +kernel
theorem qL_load_258 : decode (mB mL_load) 258 = .ok (.invokevirtual 66, 3) := by decide +kernel
theorem qL_load_261 : decode (mB mL_load) 261 = .ok (.ldc 74, 2) := by decide +kernel
theorem qL_load_263 : decode (mB mL_load) 263 = .ok (.invokevirtual 53, 3) := by decide +kernel
theorem qL_load_266 : decode (mB mL_load) 266 = .ok (.pop, 1) := by decide +kernel
theorem qL_load_267 : decode (mB mL_load) 267 = .ok (.iinc 3 1, 3) := by decide +kernel
theorem qL_load_270 : decode (mB mL_load) 270 = .ok (.goto (-87), 3) := by decide +kernel
theorem qL_load_273 : decode (mB mL_load) 273 = .ok (.aload_n 0, 1) := by decide +kernel
theorem qL_load_274 : decode (mB mL_load) 274 = .ok (.aload_n 2, 1) := by decide +kernel
theorem qL_load_275 : decode (mB mL_load) 275 = .ok (.invokevirtual 76, 3) := by decide +kernel
theorem qL_load_278 : decode (mB mL_load) 278 = .ok (.invokestatic 125, 3) := by decide +kernel
theorem qL_load_281 : decode (mB mL_load) 281 = .ok (.aload_n 0, 1) := by decide +kernel
theorem qL_load_282 : decode (mB mL_load) 282 = .ok (.invokevirtual 129, 3) := by decide +kernel
theorem qL_load_285 : decode (mB mL_load) 285 = .ok (.aload_n 1, 1) := by decide +kernel
theorem qL_load_286 : decode (mB mL_load) 286 = .ok (.invokestatic 106, 3) := by decide +kernel
theorem qL_load_289 : decode (mB mL_load) 289 = .ok (.if_icmp .ne 51, 3) := by decide +kernel
theorem qL_load_292 : decode (mB mL_load) 292 = .ok (.aload_n 0, 1) := by decide +kernel
theorem qL_load_293 : decode (mB mL_load) 293 = .ok (.invokevirtual 132, 3) := by decide +kernel
theorem qL_load_296 : decode (mB mL_load) 296 = .ok (.ifCond .ne 44, 3) := by decide +kernel
theorem qL_load_299 : decode (mB mL_load) 299 = .ok (.aload_n 0, 1) := by decide +kernel
theorem qL_load_300 : decode (mB mL_load) 300 = .ok (.invokevirtual 135, 3) := by decide +kernel
theorem qL_load_303 : decode (mB mL_load) 303 = .ok (.iconst (-1), 1) := by decide +kernel
theorem qL_load_304 : decode (mB mL_load) 304 = .ok (.if_icmp .ne 36, 3) := by decide +kernel
theorem qL_load_307 : decode (mB mL_load) 307 = .ok (.aload_n 0, 1) := by decide +kernel
theorem qL_load_308 : decode (mB mL_load) 308 = .ok (.invokevirtual 138, 3) := by decide +kernel
theorem qL_load_311 : decode (mB mL_load) 311 = .ok (.ifCond .ne 29, 3) := by decide +kernel
theorem qL_load_314 : decode (mB mL_load) 314 = .ok (.aload_n 0, 1) := by decide +kernel
theorem qL_load_315 : decode (mB mL_load) 315 = .ok (.invokevirtual 141, 3) := by decide +kernel
theorem qL_load_318 : decode (mB mL_load) 318 = .ok (.aload_n 1, 1) := by decide +kernel
theorem qL_load_319 : decode (mB mL_load) 319 = .ok (.invokestatic 56, 3) := by decide +kernel
theorem qL_load_322 : decode (mB mL_load) 322 = .ok (.if_icmp .ne 18, 3) := by decide +kernel
theorem qL_load_325 : decode (mB mL_load) 325 = .ok (.aload_n 0, 1) := by decide +kernel
theorem qL_load_326 : decode (mB mL_load) 326 = .ok (.invokevirtual 144, 3) := by decide +kernel
theorem qL_load_329 : decode (mB mL_load) 329 = .ok (.iconst (-1), 1) := by decide +kernel
theorem qL_load_330 : decode (mB mL_load) 330 = .ok (.if_icmp .ne 10, 3) := by decide +kernel
theorem qL_load_333 : decode (mB mL_load) 333 = .ok (.aload_n 0, 1) := by decide +kernel
theorem qL_load_334 : decode (mB mL_load) 334 = .ok (.invokevirtual 147, 3) := by decide +kernel
theorem qL_load_337 : decode (mB mL_load) 337 = .ok (.ifCond .eq 5, 3) := by decide +kernel
theorem qL_load_340 : decode (mB mL_load) 340 = .ok (.iconst 0, 1) := by decide +kernel
theorem qL_load_341 : decode (mB mL_load) 341 = .ok (.ireturn, 1) := by decide +kernel
theorem qL_load_342 : decode (mB mL_load) 342 = .ok (.iconst 0, 1) := by decide +kernel
theorem qL_load_343 : decode (mB mL_load) 343 = .ok (.istore_n 3, 1) := by decide +kernel
theorem qL_load_344 : decode (mB mL_load) 344 = .ok (.iload_n 3, 1) := by decide +kernel
theorem qL_load_345 : decode (mB mL_load) 345 = .ok (.aload_n 1, 1) := by decide +kernel
theorem qL_load_346 : decode (mB mL_load) 346 = .ok (.invokestatic 93, 3) := by decide +kernel
theorem qL_load_349 : decode (mB mL_load) 349 = .ok (.if_icmp .ge 32, 3) := by decide +kernel
theorem qL_load_352 : decode (mB mL_load) 352 = .ok (.aload_n 0, 1) := by decide +kernel
theorem qL_load_353 : decode (mB mL_load) 353 = .ok (.iload_n 3, 1) := by decide +kernel
theorem qL_load_354 : decode (mB mL_load) 354 = .ok (.invokevirtual 150, 3) := by decide +kernel
theorem qL_load_357 : decode (mB mL_load) 357 = .ok (.aload_n 1, 1) := by decide +kernel
theorem qL_load_358 : decode (mB mL_load) 358 = .ok (.iload_n 3, 1) := by decide +kernel
theorem qL_load_359 : decode (mB mL_load) 359 = .ok (.invokestatic 101, 3) := by decide +kernel
theorem qL_load_362 : decode (mB mL_load) 362 = .ok (.if_icmp .ne 11, 3) := by decide +kernel
theorem qL_load_365 : decode (mB mL_load) 365 = .ok (.aload_n 0, 1) := by decide +kernel
theorem qL_load_366 : decode (mB mL_load) 366 = .ok (.iload_n 3, 1) := by decide +kernel
theorem qL_load_367 : decode (mB mL_load) 367 = .ok (.invokevirtual 153, 3) := by decide +kernel
theorem qL_load_370 : decode (mB mL_load) 370 = .ok (.ifCond .eq 5, 3) := by decide +kernel
theorem qL_load_373 : decode (mB mL_load) 373 = .ok (.iconst 0, 1) := by decide +kernel
theorem qL_load_374 : decode (mB mL_load) 374 = .ok (.ireturn, 1) := by decide +kernel
theorem qL_load_375 : decode (mB mL_load) 375 = .ok (.iinc 3 1, 3) := by decide +kernel
theorem qL_load_378 : decode (mB mL_load) 378 = .ok (.goto (-34), 3) := by decide +kernel
theorem qL_load_381 : decode (mB mL_load) 381 = .ok (.iconst 0, 1) := by decide +kernel
theorem qL_load_382 : decode (mB mL_load) 382 = .ok (.istore_n 3, 1) := by decide +kernel
theorem qL_load_383 : decode (mB mL_load) 383 = .ok (.iload_n 3, 1) := by decide +kernel
theorem qL_load_384 : decode (mB mL_load) 384 = .ok (.aload_n 1, 1) := by decide +kernel
theorem qL_load_385 : decode (mB mL_load) 385 = .ok (.invokestatic 44, 3) := by decide +kernel
theorem qL_load_388 : decode (mB mL_load) 388 = .ok (.if_icmp .ge 19, 3) := by decide +kernel
theorem qL_load_391 : decode (mB mL_load) 391 = .ok (.aload_n 0, 1) := by decide +kernel
theorem qL_load_392 : decode (mB mL_load) 392 = .ok (.iload_n 3, 1) := by decide +kernel
theorem qL_load_393 : decode (mB mL_load) 393 = .ok (.invokevirtual 156, 3) := by decide +kernel
theorem qL_load_396 : decode (mB mL_load) 396 = .ok (.ifCond .eq 5, 3) := by decide +kernel
theorem qL_load_399 : decode (mB mL_load) 399 = .ok (.iconst 0, 1) := by decide +kernel
theorem qL_load_400 : decode (mB mL_load) 400 = .ok (.ireturn, 1) := by decide +kernel
theorem qL_load_401 : decode (mB mL_load) 401 = .ok (.iinc 3 1, 3) := by decide +kernel
theorem qL_load_404 : decode (mB mL_load) 404 = .ok (.goto (-21), 3) := by decide +kernel
theorem qL_load_407 : decode (mB mL_load) 407 = .ok (.iconst 0, 1) := by decide +kernel
theorem qL_load_408 : decode (mB mL_load) 408 = .ok (.istore_n 3, 1) := by decide +kernel
theorem qL_load_409 : decode (mB mL_load) 409 = .ok (.iload_n 3, 1) := by decide +kernel
theorem qL_load_410 : decode (mB mL_load) 410 = .ok (.aload_n 1, 1) := by decide +kernel
theorem qL_load_411 : decode (mB mL_load) 411 = .ok (.invokestatic 106, 3) := by decide +kernel
theorem qL_load_414 : decode (mB mL_load) 414 = .ok (.if_icmp .ge 77, 3) := by decide +kernel
theorem qL_load_417 : decode (mB mL_load) 417 = .ok (.aload_n 0, 1) := by decide +kernel
theorem qL_load_418 : decode (mB mL_load) 418 = .ok (.iload_n 3, 1) := by decide +kernel
theorem qL_load_419 : decode (mB mL_load) 419 = .ok (.invokevirtual 159, 3) := by decide +kernel
theorem qL_load_422 : decode (mB mL_load) 422 = .ok (.aload_n 1, 1) := by decide +kernel
theorem qL_load_423 : decode (mB mL_load) 423 = .ok (.iload_n 3, 1) := by decide +kernel
theorem qL_load_424 : decode (mB mL_load) 424 = .ok (.invokestatic 111, 3) := by decide +kernel
theorem qL_load_427 : decode (mB mL_load) 427 = .ok (.if_icmp .ne 56, 3) := by decide +kernel
theorem qL_load_430 : decode (mB mL_load) 430 = .ok (.aload_n 0, 1) := by decide +kernel
theorem qL_load_431 : decode (mB mL_load) 431 = .ok (.iload_n 3, 1) := by decide +kernel
theorem qL_load_432 : decode (mB mL_load) 432 = .ok (.invokevirtual 162, 3) := by decide +kernel
theorem qL_load_435 : decode (mB mL_load) 435 = .ok (.aload_n 1, 1) := by decide +kernel
theorem qL_load_436 : decode (mB mL_load) 436 = .ok (.iload_n 3, 1) := by decide +kernel
theorem qL_load_437 : decode (mB mL_load) 437 = .ok (.invokestatic 122, 3) := by decide +kernel
theorem qL_load_440 : decode (mB mL_load) 440 = .ok (.if_icmp .ne 43, 3) := by decide +kernel
theorem qL_load_443 : decode (mB mL_load) 443 = .ok (.aload_n 0, 1) := by decide +kernel
theorem qL_load_444 : decode (mB mL_load) 444 = .ok (.iload_n 3, 1) := by decide +kernel
theorem qL_load_445 : decode (mB mL_load) 445 = .ok (.invokevirtual 165, 3) := by decide +kernel
theorem qL_load_448 : decode (mB mL_load) 448 = .ok (.bipush 10, 2) := by decide +kernel
theorem qL_load_450 : decode (mB mL_load) 450 = .ok (.aload_n 1, 1) := by decide +kernel
theorem qL_load_451 : decode (mB mL_load) 451 = .ok (.invokestatic 56, 3) := by decide +kernel
theorem qL_load_454 : decode (mB mL_load) 454 = .ok (.imul, 1) := by decide +kernel
theorem qL_load_455 : decode (mB mL_load) 455 = .ok (.if_icmp .ne 28, 3) := by decide +kernel
theorem qL_load_458 : decode (mB mL_load) 458 = .ok (.aload_n 0, 1) := by decide +kernel
theorem qL_load_459 : decode (mB mL_load) 459 = .ok (.iload_n 3, 1) := by decide +kernel
theorem qL_load_460 : decode (mB mL_load) 460 = .ok (.invokevirtual 168, 3) := by decide +kernel
theorem qL_load_463 : decode (mB mL_load) 463 = .ok (.iconst (-1), 1) := by decide +kernel
theorem qL_load_464 : decode (mB mL_load) 464 = .ok (.if_icmp .ne 19, 3) := by decide +kernel
theorem qL_load_467 : decode (mB mL_load) 467 = .ok (.aload_n 0, 1) := by decide +kernel
theorem qL_load_468 : decode (mB mL_load) 468 = .ok (.iload_n 3, 1) := by decide +kernel
theorem qL_load_469 : decode (mB mL_load) 469 = .ok (.invokevirtual 171, 3) := by decide +kernel
theorem qL_load_472 : decode (mB mL_load) 472 = .ok (.ifCond .ne 11, 3) := by decide +kernel
theorem qL_load_475 : decode (mB mL_load) 475 = .ok (.aload_n 0, 1) := by decide +kernel
theorem qL_load_476 : decode (mB mL_load) 476 = .ok (.iload_n 3, 1) := by decide +kernel
theorem qL_load_477 : decode (mB mL_load) 477 = .ok (.invokevirtual 175, 3) := by decide +kernel
theorem qL_load_480 : decode (mB mL_load) 480 = .ok (.ifCond .eq 5, 3) := by decide +kernel
theorem qL_load_483 : decode (mB mL_load) 483 = .ok (.iconst 0, 1) := by decide +kernel
theorem qL_load_484 : decode (mB mL_load) 484 = .ok (.ireturn, 1) := by decide +kernel
theorem qL_load_485 : decode (mB mL_load) 485 = .ok (.iinc 3 1, 3) := by decide +kernel
theorem qL_load_488 : decode (mB mL_load) 488 = .ok (.goto (-79), 3) := by decide +kernel
theorem qL_load_491 : decode (mB mL_load) 491 = .ok (.iconst 1, 1) := by decide +kernel
theorem qL_load_492 : decode (mB mL_load) 492 = .ok (.ireturn, 1) := by decide +kernel
theorem qL_marked_0 : decode (mB mL_marked) 0 = .ok (.aload_n 0, 1) := by decide +kernel
theorem qL_marked_1 : decode (mB mL_marked) 1 = .ok (.iload_n 1, 1) := by decide +kernel
theorem qL_marked_2 : decode (mB mL_marked) 2 = .ok (.invokevirtual 212, 3) := by decide +kernel
theorem qL_marked_5 : decode (mB mL_marked) 5 = .ok (.ireturn, 1) := by decide +kernel
theorem qL_marked_6 : decode (mB mL_marked) 6 = .ok (.astore_n 2, 1) := by decide +kernel
theorem qL_marked_7 : decode (mB mL_marked) 7 = .ok (.sipush (-9999), 3) := by decide +kernel
theorem qL_marked_10 : decode (mB mL_marked) 10 = .ok (.ireturn, 1) := by decide +kernel
theorem qL_marking_0 : decode (mB mL_marking) 0 = .ok (.aload_n 0, 1) := by decide +kernel
theorem qL_marking_1 : decode (mB mL_marking) 1 = .ok (.iload_n 2, 1) := by decide +kernel
theorem qL_marking_2 : decode (mB mL_marking) 2 = .ok (.invokevirtual 168, 3) := by decide +kernel
theorem qL_marking_5 : decode (mB mL_marking) 5 = .ok (.istore_n 3, 1) := by decide +kernel
theorem qL_marking_6 : decode (mB mL_marking) 6 = .ok (.iconst 0, 1) := by decide +kernel
theorem qL_marking_7 : decode (mB mL_marking) 7 = .ok (.istore 4, 2) := by decide +kernel
theorem qL_marking_9 : decode (mB mL_marking) 9 = .ok (.iconst 0, 1) := by decide +kernel
theorem qL_marking_10 : decode (mB mL_marking) 10 = .ok (.istore 5, 2) := by decide +kernel
theorem qL_marking_12 : decode (mB mL_marking) 12 = .ok (.iconst 0, 1) := by decide +kernel
theorem qL_marking_13 : decode (mB mL_marking) 13 = .ok (.istore 6, 2) := by decide +kernel
theorem qL_marking_15 : decode (mB mL_marking) 15 = .ok (.iconst 0, 1) := by decide +kernel
theorem qL_marking_16 : decode (mB mL_marking) 16 = .ok (.istore 7, 2) := by decide +kernel
theorem qL_marking_18 : decode (mB mL_marking) 18 = .ok (.iload 7, 2) := by decide +kernel
theorem qL_marking_20 : decode (mB mL_marking) 20 = .ok (.aload_n 0, 1) := by decide +kernel
theorem qL_marking_21 : decode (mB mL_marking) 21 = .ok (.iload_n 2, 1) := by decide +kernel
theorem qL_marking_22 : decode (mB mL_marking) 22 = .ok (.invokevirtual 175, 3) := by decide +kernel
theorem qL_marking_25 : decode (mB mL_marking) 25 = .ok (.if_icmp .ge 68, 3) := by decide +kernel
theorem qL_marking_28 : decode (mB mL_marking) 28 = .ok (.iload 4, 2) := by decide +kernel
theorem qL_marking_30 : decode (mB mL_marking) 30 = .ok (.ifCond .ne 23, 3) := by decide +kernel
theorem qL_marking_33 : decode (mB mL_marking) 33 = .ok (.iload_n 3, 1) := by decide +kernel
theorem qL_marking_34 : decode (mB mL_marking) 34 = .ok (.iconst (-1), 1) := by decide +kernel
theorem qL_marking_35 : decode (mB mL_marking) 35 = .ok (.if_icmp .eq 22, 3) := by decide +kernel
theorem qL_marking_38 : decode (mB mL_marking) 38 = .ok (.aload_n 0, 1) := by decide +kernel
theorem qL_marking_39 : decode (mB mL_marking) 39 = .ok (.iload_n 2, 1) := by decide +kernel
theorem qL_marking_40 : decode (mB mL_marking) 40 = .ok (.iload 7, 2) := by decide +kernel
theorem qL_marking_42 : decode (mB mL_marking) 42 = .ok (.invokevirtual 192, 3) := by decide +kernel
theorem qL_marking_45 : decode (mB mL_marking) 45 = .ok (.aload_n 1, 1) := by decide +kernel
theorem qL_marking_46 : decode (mB mL_marking) 46 = .ok (.iload_n 3, 1) := by decide +kernel
theorem qL_marking_47 : decode (mB mL_marking) 47 = .ok (.invokestatic 101, 3) := by decide +kernel
theorem qL_marking_50 : decode (mB mL_marking) 50 = .ok (.if_icmp .ne 7, 3) := by decide +kernel
theorem qL_marking_53 : decode (mB mL_marking) 53 = .ok (.iconst 1, 1) := by decide +kernel
theorem qL_marking_54 : decode (mB mL_marking) 54 = .ok (.goto 4, 3) := by decide +kernel
theorem qL_marking_57 : decode (mB mL_marking) 57 = .ok (.iconst 0, 1) := by decide +kernel
theorem qL_marking_58 : decode (mB mL_marking) 58 = .ok (.istore 4, 2) := by decide +kernel
theorem qL_marking_60 : decode (mB mL_marking) 60 = .ok (.iload 5, 2) := by decide +kernel
theorem qL_marking_62 : decode (mB mL_marking) 62 = .ok (.ifCond .ne 18, 3) := by decide +kernel
theorem qL_marking_65 : decode (mB mL_marking) 65 = .ok (.aload_n 0, 1) := by decide +kernel
theorem qL_marking_66 : decode (mB mL_marking) 66 = .ok (.iload_n 2, 1) := by decide +kernel
theorem qL_marking_67 : decode (mB mL_marking) 67 = .ok (.iload 7, 2) := by decide +kernel
theorem qL_marking_69 : decode (mB mL_marking) 69 = .ok (.invokevirtual 195, 3) := by decide +kernel
theorem qL_marking_72 : decode (mB mL_marking) 72 = .ok (.aload_n 0, 1) := by decide +kernel
theorem qL_marking_73 : decode (mB mL_marking) 73 = .ok (.iload_n 2, 1) := by decide +kernel
theorem qL_marking_74 : decode (mB mL_marking) 74 = .ok (.invokevirtual 265, 3) := by decide +kernel
theorem qL_marking_77 : decode (mB mL_marking) 77 = .ok (.if_icmp .ne 7, 3) := by decide +kernel
theorem qL_marking_80 : decode (mB mL_marking) 80 = .ok (.iconst 1, 1) := by decide +kernel
theorem qL_marking_81 : decode (mB mL_marking) 81 = .ok (.goto 4, 3) := by decide +kernel
theorem qL_marking_84 : decode (mB mL_marking) 84 = .ok (.iconst 0, 1) := by decide +kernel
theorem qL_marking_85 : decode (mB mL_marking) 85 = .ok (.istore 5, 2) := by decide +kernel
theorem qL_marking_87 : decode (mB mL_marking) 87 = .ok (.iinc 7 1, 3) := by decide +kernel
theorem qL_marking_90 : decode (mB mL_marking) 90 = .ok (.goto (-72), 3) := by decide +kernel
theorem qL_marking_93 : decode (mB mL_marking) 93 = .ok (.iconst 0, 1) := by decide +kernel
theorem qL_marking_94 : decode (mB mL_marking) 94 = .ok (.istore 7, 2) := by decide +kernel
theorem qL_marking_96 : decode (mB mL_marking) 96 = .ok (.iload 7, 2) := by decide +kernel
theorem qL_marking_98 : decode (mB mL_marking) 98 = .ok (.aload_n 1, 1) := by decide +kernel
theorem qL_marking_99 : decode (mB mL_marking) 99 = .ok (.invokestatic 93, 3) := by decide +kernel
theorem qL_marking_102 : decode (mB mL_marking) 102 = .ok (.if_icmp .ge 109, 3) := by decide +kernel
theorem qL_marking_105 : decode (mB mL_marking) 105 = .ok (.iconst 0, 1) := by decide +kernel
theorem qL_marking_106 : decode (mB mL_marking) 106 = .ok (.istore 8, 2) := by decide +kernel
theorem qL_marking_108 : decode (mB mL_marking) 108 = .ok (.iconst 0, 1) := by decide +kernel
theorem qL_marking_109 : decode (mB mL_marking) 109 = .ok (.istore 9, 2) := by decide +kernel
theorem qL_marking_111 : decode (mB mL_marking) 111 = .ok (.iload 9, 2) := by decide +kernel
theorem qL_marking_113 : decode (mB mL_marking) 113 = .ok (.aload_n 0, 1) := by decide +kernel
theorem qL_marking_114 : decode (mB mL_marking) 114 = .ok (.iload_n 2, 1) := by decide +kernel
theorem qL_marking_115 : decode (mB mL_marking) 115 = .ok (.invokevirtual 175, 3) := by decide +kernel
theorem qL_marking_118 : decode (mB mL_marking) 118 = .ok (.if_icmp .ge 37, 3) := by decide +kernel
theorem qL_marking_121 : decode (mB mL_marking) 121 = .ok (.iload 8, 2) := by decide +kernel
theorem qL_marking_123 : decode (mB mL_marking) 123 = .ok (.ifCond .ne 19, 3) := by decide +kernel
theorem qL_marking_126 : decode (mB mL_marking) 126 = .ok (.aload_n 0, 1) := by decide +kernel
theorem qL_marking_127 : decode (mB mL_marking) 127 = .ok (.iload_n 2, 1) := by decide +kernel
theorem qL_marking_128 : decode (mB mL_marking) 128 = .ok (.iload 9, 2) := by decide +kernel
theorem qL_marking_130 : decode (mB mL_marking) 130 = .ok (.invokevirtual 192, 3) := by decide +kernel
theorem qL_marking_133 : decode (mB mL_marking) 133 = .ok (.aload_n 1, 1) := by decide +kernel
theorem qL_marking_134 : decode (mB mL_marking) 134 = .ok (.iload 7, 2) := by decide +kernel
theorem qL_marking_136 : decode (mB mL_marking) 136 = .ok (.invokestatic 101, 3) := by decide +kernel
theorem qL_marking_139 : decode (mB mL_marking) 139 = .ok (.if_icmp .ne 7, 3) := by decide +kernel
theorem qL_marking_142 : decode (mB mL_marking) 142 = .ok (.iconst 1, 1) := by decide +kernel
theorem qL_marking_143 : decode (mB mL_marking) 143 = .ok (.goto 4, 3) := by decide +kernel
theorem qL_marking_146 : decode (mB mL_marking) 146 = .ok (.iconst 0, 1) := by decide +kernel
theorem qL_marking_147 : decode (mB mL_marking) 147 = .ok (.istore 8, 2) := by decide +kernel
theorem qL_marking_149 : decode (mB mL_marking) 149 = .ok (.iinc 9 1, 3) := by decide +kernel
theorem qL_marking_152 : decode (mB mL_marking) 152 = .ok (.goto (-41), 3) := by decide +kernel
theorem qL_marking_155 : decode (mB mL_marking) 155 = .ok (.iload 6, 2) := by decide +kernel
theorem qL_marking_157 : decode (mB mL_marking) 157 = .ok (.iload 8, 2) := by decide +kernel
theorem qL_marking_159 : decode (mB mL_marking) 159 = .ok (.ifCond .eq 7, 3) := by decide +kernel
theorem qL_marking_162 : decode (mB mL_marking) 162 = .ok (.iconst 0, 1) := by decide +kernel
theorem qL_marking_163 : decode (mB mL_marking) 163 = .ok (.goto 4, 3) := by decide +kernel
theorem qL_marking_166 : decode (mB mL_marking) 166 = .ok (.iconst 1, 1) := by decide +kernel
theorem qL_marking_167 : decode (mB mL_marking) 167 = .ok (.iadd, 1) := by decide +kernel
theorem qL_marking_168 : decode (mB mL_marking) 168 = .ok (.istore 6, 2) := by decide +kernel
theorem qL_marking_170 : decode (mB mL_marking) 170 = .ok (.aload_n 0, 1) := by decide +kernel
theorem qL_marking_171 : decode (mB mL_marking) 171 = .ok (.iload_n 2, 1) := by decide +kernel
theorem qL_marking_172 : decode (mB mL_marking) 172 = .ok (.iload 7, 2) := by decide +kernel
theorem qL_marking_174 : decode (mB mL_marking) 174 = .ok (.invokevirtual 328, 3) := by decide +kernel
theorem qL_marking_177 : decode (mB mL_marking) 177 = .ok (.iload_n 3, 1) := by decide +kernel
theorem qL_marking_178 : decode (mB mL_marking) 178 = .ok (.iload 7, 2) := by decide +kernel
theorem qL_marking_180 : decode (mB mL_marking) 180 = .ok (.if_icmp .ne 7, 3) := by decide +kernel
theorem qL_marking_183 : decode (mB mL_marking) 183 = .ok (.iconst 1, 1) := by decide +kernel
theorem qL_marking_184 : decode (mB mL_marking) 184 = .ok (.goto 16, 3) := by decide +kernel
theorem qL_marking_187 : decode (mB mL_marking) 187 = .ok (.aload_n 0, 1) := by decide +kernel
theorem qL_marking_188 : decode (mB mL_marking) 188 = .ok (.invokevirtual 144, 3) := by decide +kernel
theorem qL_marking_191 : decode (mB mL_marking) 191 = .ok (.iload_n 2, 1) := by decide +kernel
theorem qL_marking_192 : decode (mB mL_marking) 192 = .ok (.if_icmp .ne 7, 3) := by decide +kernel
theorem qL_marking_195 : decode (mB mL_marking) 195 = .ok (.iconst 2, 1) := by decide +kernel
theorem qL_marking_196 : decode (mB mL_marking) 196 = .ok (.goto 4, 3) := by decide +kernel
theorem qL_marking_199 : decode (mB mL_marking) 199 = .ok (.iconst 0, 1) := by decide +kernel
theorem qL_marking_200 : decode (mB mL_marking) 200 = .ok (.if_icmp .eq 5, 3) := by decide +kernel
theorem qL_marking_203 : decode (mB mL_marking) 203 = .ok (.iconst 0, 1) := by decide +kernel
theorem qL_marking_204 : decode (mB mL_marking) 204 = .ok (.ireturn, 1) := by decide +kernel
theorem qL_marking_205 : decode (mB mL_marking) 205 = .ok (.iinc 7 1, 3) := by decide +kernel
theorem qL_marking_208 : decode (mB mL_marking) 208 = .ok (.goto (-112), 3) := by decide +kernel
theorem qL_marking_211 : decode (mB mL_marking) 211 = .ok (.iload_n 3, 1) := by decide +kernel
theorem qL_marking_212 : decode (mB mL_marking) 212 = .ok (.iconst (-1), 1) := by decide +kernel
theorem qL_marking_213 : decode (mB mL_marking) 213 = .ok (.if_icmp .ne 7, 3) := by decide +kernel
theorem qL_marking_216 : decode (mB mL_marking) 216 = .ok (.iconst 1, 1) := by decide +kernel
theorem qL_marking_217 : decode (mB mL_marking) 217 = .ok (.goto 56, 3) := by decide +kernel
theorem qL_marking_220 : decode (mB mL_marking) 220 = .ok (.aload_n 0, 1) := by decide +kernel
theorem qL_marking_221 : decode (mB mL_marking) 221 = .ok (.iload_n 2, 1) := by decide +kernel
theorem qL_marking_222 : decode (mB mL_marking) 222 = .ok (.invokevirtual 262, 3) := by decide +kernel
theorem qL_marking_225 : decode (mB mL_marking) 225 = .ok (.ifCond .eq 11, 3) := by decide +kernel
theorem qL_marking_228 : decode (mB mL_marking) 228 = .ok (.aload_n 0, 1) := by decide +kernel
theorem qL_marking_229 : decode (mB mL_marking) 229 = .ok (.invokevirtual 144, 3) := by decide +kernel
theorem qL_marking_232 : decode (mB mL_marking) 232 = .ok (.iload_n 2, 1) := by decide +kernel
theorem qL_marking_233 : decode (mB mL_marking) 233 = .ok (.if_icmp .ne 7, 3) := by decide +kernel
theorem qL_marking_236 : decode (mB mL_marking) 236 = .ok (.iconst 2, 1) := by decide +kernel
theorem qL_marking_237 : decode (mB mL_marking) 237 = .ok (.goto 36, 3) := by decide +kernel
theorem qL_marking_240 : decode (mB mL_marking) 240 = .ok (.iload 4, 2) := by decide +kernel
theorem qL_marking_242 : decode (mB mL_marking) 242 = .ok (.ifCond .eq 7, 3) := by decide +kernel
theorem qL_marking_245 : decode (mB mL_marking) 245 = .ok (.iconst 3, 1) := by decide +kernel
theorem qL_marking_246 : decode (mB mL_marking) 246 = .ok (.goto 27, 3) := by decide +kernel
theorem qL_marking_249 : decode (mB mL_marking) 249 = .ok (.iload 5, 2) := by decide +kernel
theorem qL_marking_251 : decode (mB mL_marking) 251 = .ok (.ifCond .eq 7, 3) := by decide +kernel
theorem qL_marking_254 : decode (mB mL_marking) 254 = .ok (.iconst 4, 1) := by decide +kernel
theorem qL_marking_255 : decode (mB mL_marking) 255 = .ok (.goto 18, 3) := by decide +kernel
theorem qL_marking_258 : decode (mB mL_marking) 258 = .ok (.aload_n 0, 1) := by decide +kernel
theorem qL_marking_259 : decode (mB mL_marking) 259 = .ok (.iload_n 2, 1) := by decide +kernel
theorem qL_marking_260 : decode (mB mL_marking) 260 = .ok (.invokevirtual 175, 3) := by decide +kernel
theorem qL_marking_263 : decode (mB mL_marking) 263 = .ok (.bipush 6, 2) := by decide +kernel
theorem qL_marking_265 : decode (mB mL_marking) 265 = .ok (.if_icmp .ne 7, 3) := by decide +kernel
theorem qL_marking_268 : decode (mB mL_marking) 268 = .ok (.iconst 5, 1) := by decide +kernel
theorem qL_marking_269 : decode (mB mL_marking) 269 = .ok (.goto 4, 3) := by decide +kernel
theorem qL_marking_272 : decode (mB mL_marking) 272 = .ok (.iconst 0, 1) := by decide +kernel
theorem qL_marking_273 : decode (mB mL_marking) 273 = .ok (.istore 7, 2) := by decide +kernel
theorem qL_marking_275 : decode (mB mL_marking) 275 = .ok (.aload_n 0, 1) := by decide +kernel
theorem qL_marking_276 : decode (mB mL_marking) 276 = .ok (.iload_n 2, 1) := by decide +kernel
theorem qL_marking_277 : decode (mB mL_marking) 277 = .ok (.invokevirtual 331, 3) := by decide +kernel
theorem qL_marking_280 : decode (mB mL_marking) 280 = .ok (.iload 7, 2) := by decide +kernel
theorem qL_marking_282 : decode (mB mL_marking) 282 = .ok (.if_icmp .ne 17, 3) := by decide +kernel
theorem qL_marking_285 : decode (mB mL_marking) 285 = .ok (.aload_n 0, 1) := by decide +kernel
theorem qL_marking_286 : decode (mB mL_marking) 286 = .ok (.iload_n 2, 1) := by decide +kernel
theorem qL_marking_287 : decode (mB mL_marking) 287 = .ok (.invokevirtual 334, 3) := by decide +kernel
theorem qL_marking_290 : decode (mB mL_marking) 290 = .ok (.iload 6, 2) := by decide +kernel
theorem qL_marking_292 : decode (mB mL_marking) 292 = .ok (.if_icmp .ne 7, 3) := by decide +kernel
theorem qL_marking_295 : decode (mB mL_marking) 295 = .ok (.iconst 1, 1) := by decide +kernel
theorem qL_marking_296 : decode (mB mL_marking) 296 = .ok (.goto 4, 3) := by decide +kernel
theorem qL_marking_299 : decode (mB mL_marking) 299 = .ok (.iconst 0, 1) := by decide +kernel
theorem qL_marking_300 : decode (mB mL_marking) 300 = .ok (.ireturn, 1) := by decide +kernel
theorem qL_room_0 : decode (mB mL_room) 0 = .ok (.aload_n 0, 1) := by decide +kernel
theorem qL_room_1 : decode (mB mL_room) 1 = .ok (.iconst 0, 1) := by decide +kernel
theorem qL_room_2 : decode (mB mL_room) 2 = .ok (.bipush 60, 2) := by decide +kernel
theorem qL_room_4 : decode (mB mL_room) 4 = .ok (.invokestatic 40, 3) := by decide +kernel
theorem qL_room_7 : decode (mB mL_room) 7 = .ok (.bipush 20, 2) := by decide +kernel
theorem qL_room_9 : decode (mB mL_room) 9 = .ok (.isub, 1) := by decide +kernel
theorem qL_room_10 : decode (mB mL_room) 10 = .ok (.ireturn, 1) := by decide +kernel
theorem qL_spirit_0 : decode (mB mL_spirit) 0 = .ok (.aload_n 0, 1) := by decide +kernel
theorem qL_spirit_1 : decode (mB mL_spirit) 1 = .ok (.bipush 16, 2) := by decide +kernel
theorem qL_spirit_3 : decode (mB mL_spirit) 3 = .ok (.iconst 5, 1) := by decide +kernel
theorem qL_spirit_4 : decode (mB mL_spirit) 4 = .ok (.iload_n 1, 1) := by decide +kernel
theorem qL_spirit_5 : decode (mB mL_spirit) 5 = .ok (.imul, 1) := by decide +kernel
theorem qL_spirit_6 : decode (mB mL_spirit) 6 = .ok (.iadd, 1) := by decide +kernel
theorem qL_spirit_7 : decode (mB mL_spirit) 7 = .ok (.aload_n 0, 1) := by decide +kernel
theorem qL_spirit_8 : decode (mB mL_spirit) 8 = .ok (.invokestatic 44, 3) := by decide +kernel
theorem qL_spirit_11 : decode (mB mL_spirit) 11 = .ok (.invokestatic 40, 3) := by decide +kernel
theorem qL_spirit_14 : decode (mB mL_spirit) 14 = .ok (.ireturn, 1) := by decide +kernel
theorem qL_spirits_0 : decode (mB mL_spirits) 0 = .ok (.aload_n 0, 1) := by decide +kernel
theorem qL_spirits_1 : decode (mB mL_spirits) 1 = .ok (.iconst 2, 1) := by decide +kernel
theorem qL_spirits_2 : decode (mB mL_spirits) 2 = .ok (.iconst 4, 1) := by decide +kernel
theorem qL_spirits_3 : decode (mB mL_spirits) 3 = .ok (.invokestatic 40, 3) := by decide +kernel
theorem qL_spirits_6 : decode (mB mL_spirits) 6 = .ok (.ireturn, 1) := by decide +kernel
theorem qL_told_0 : decode (mB mL_told) 0 = .ok (.iconst 0, 1) := by decide +kernel
theorem qL_told_1 : decode (mB mL_told) 1 = .ok (.istore_n 3, 1) := by decide +kernel
theorem qL_told_2 : decode (mB mL_told) 2 = .ok (.iconst 0, 1) := by decide +kernel
theorem qL_told_3 : decode (mB mL_told) 3 = .ok (.istore 4, 2) := by decide +kernel
theorem qL_told_5 : decode (mB mL_told) 5 = .ok (.iconst 0, 1) := by decide +kernel
theorem qL_told_6 : decode (mB mL_told) 6 = .ok (.istore 5, 2) := by decide +kernel
theorem qL_told_8 : decode (mB mL_told) 8 = .ok (.iload 5, 2) := by decide +kernel
theorem qL_told_10 : decode (mB mL_told) 10 = .ok (.aload_n 0, 1) := by decide +kernel
theorem qL_told_11 : decode (mB mL_told) 11 = .ok (.iload_n 1, 1) := by decide +kernel
theorem qL_told_12 : decode (mB mL_told) 12 = .ok (.invokevirtual 175, 3) := by decide +kernel
theorem qL_told_15 : decode (mB mL_told) 15 = .ok (.if_icmp .ge 49, 3) := by decide +kernel
theorem qL_told_18 : decode (mB mL_told) 18 = .ok (.aload_n 0, 1) := by decide +kernel
theorem qL_told_19 : decode (mB mL_told) 19 = .ok (.iload_n 1, 1) := by decide +kernel
theorem qL_told_20 : decode (mB mL_told) 20 = .ok (.iload 5, 2) := by decide +kernel
theorem qL_told_22 : decode (mB mL_told) 22 = .ok (.invokevirtual 192, 3) := by decide +kernel
theorem qL_told_25 : decode (mB mL_told) 25 = .ok (.aload_n 0, 1) := by decide +kernel
theorem qL_told_26 : decode (mB mL_told) 26 = .ok (.iload_n 1, 1) := by decide +kernel
theorem qL_told_27 : decode (mB mL_told) 27 = .ok (.iload_n 3, 1) := by decide +kernel
theorem qL_told_28 : decode (mB mL_told) 28 = .ok (.invokevirtual 192, 3) := by decide +kernel
theorem qL_told_31 : decode (mB mL_told) 31 = .ok (.if_icmp .ge 6, 3) := by decide +kernel
theorem qL_told_34 : decode (mB mL_told) 34 = .ok (.iload 5, 2) := by decide +kernel
theorem qL_told_36 : decode (mB mL_told) 36 = .ok (.istore_n 3, 1) := by decide +kernel
theorem qL_told_37 : decode (mB mL_told) 37 = .ok (.aload_n 0, 1) := by decide +kernel
theorem qL_told_38 : decode (mB mL_told) 38 = .ok (.iload_n 1, 1) := by decide +kernel
theorem qL_told_39 : decode (mB mL_told) 39 = .ok (.iload 5, 2) := by decide +kernel
theorem qL_told_41 : decode (mB mL_told) 41 = .ok (.invokevirtual 192, 3) := by decide +kernel
theorem qL_told_44 : decode (mB mL_told) 44 = .ok (.aload_n 0, 1) := by decide +kernel
theorem qL_told_45 : decode (mB mL_told) 45 = .ok (.iload_n 1, 1) := by decide +kernel
theorem qL_told_46 : decode (mB mL_told) 46 = .ok (.iload 4, 2) := by decide +kernel
theorem qL_told_48 : decode (mB mL_told) 48 = .ok (.invokevirtual 192, 3) := by decide +kernel
theorem qL_told_51 : decode (mB mL_told) 51 = .ok (.if_icmp .le 7, 3) := by decide +kernel
theorem qL_told_54 : decode (mB mL_told) 54 = .ok (.iload 5, 2) := by decide +kernel
theorem qL_told_56 : decode (mB mL_told) 56 = .ok (.istore 4, 2) := by decide +kernel
theorem qL_told_58 : decode (mB mL_told) 58 = .ok (.iinc 5 1, 3) := by decide +kernel
theorem qL_told_61 : decode (mB mL_told) 61 = .ok (.goto (-53), 3) := by decide +kernel
theorem qL_told_64 : decode (mB mL_told) 64 = .ok (.aload_n 0, 1) := by decide +kernel
theorem qL_told_65 : decode (mB mL_told) 65 = .ok (.iload_n 1, 1) := by decide +kernel
theorem qL_told_66 : decode (mB mL_told) 66 = .ok (.iload_n 3, 1) := by decide +kernel
theorem qL_told_67 : decode (mB mL_told) 67 = .ok (.invokevirtual 192, 3) := by decide +kernel
theorem qL_told_70 : decode (mB mL_told) 70 = .ok (.istore 5, 2) := by decide +kernel
theorem qL_told_72 : decode (mB mL_told) 72 = .ok (.aload_n 0, 1) := by decide +kernel
theorem qL_told_73 : decode (mB mL_told) 73 = .ok (.iload_n 1, 1) := by decide +kernel
theorem qL_told_74 : decode (mB mL_told) 74 = .ok (.iload_n 3, 1) := by decide +kernel
theorem qL_told_75 : decode (mB mL_told) 75 = .ok (.invokevirtual 195, 3) := by decide +kernel
theorem qL_told_78 : decode (mB mL_told) 78 = .ok (.istore 6, 2) := by decide +kernel
theorem qL_told_80 : decode (mB mL_told) 80 = .ok (.bipush 10, 2) := by decide +kernel
theorem qL_told_82 : decode (mB mL_told) 82 = .ok (.iload 5, 2) := by decide +kernel
theorem qL_told_84 : decode (mB mL_told) 84 = .ok (.imul, 1) := by decide +kernel
theorem qL_told_85 : decode (mB mL_told) 85 = .ok (.bipush 10, 2) := by decide +kernel
theorem qL_told_87 : decode (mB mL_told) 87 = .ok (.aload_n 0, 1) := by decide +kernel
theorem qL_told_88 : decode (mB mL_told) 88 = .ok (.iload_n 1, 1) := by decide +kernel
theorem qL_told_89 : decode (mB mL_told) 89 = .ok (.iload 4, 2) := by decide +kernel
theorem qL_told_91 : decode (mB mL_told) 91 = .ok (.invokevirtual 192, 3) := by decide +kernel
theorem qL_told_94 : decode (mB mL_told) 94 = .ok (.iload 5, 2) := by decide +kernel
theorem qL_told_96 : decode (mB mL_told) 96 = .ok (.isub, 1) := by decide +kernel
theorem qL_told_97 : decode (mB mL_told) 97 = .ok (.imul, 1) := by decide +kernel
theorem qL_told_98 : decode (mB mL_told) 98 = .ok (.iload_n 2, 1) := by decide +kernel
theorem qL_told_99 : decode (mB mL_told) 99 = .ok (.iload 6, 2) := by decide +kernel
theorem qL_told_101 : decode (mB mL_told) 101 = .ok (.isub, 1) := by decide +kernel
theorem qL_told_102 : decode (mB mL_told) 102 = .ok (.imul, 1) := by decide +kernel
theorem qL_told_103 : decode (mB mL_told) 103 = .ok (.aload_n 0, 1) := by decide +kernel
theorem qL_told_104 : decode (mB mL_told) 104 = .ok (.iload_n 1, 1) := by decide +kernel
theorem qL_told_105 : decode (mB mL_told) 105 = .ok (.iload 4, 2) := by decide +kernel
theorem qL_told_107 : decode (mB mL_told) 107 = .ok (.invokevirtual 195, 3) := by decide +kernel
theorem qL_told_110 : decode (mB mL_told) 110 = .ok (.iload 6, 2) := by decide +kernel
theorem qL_told_112 : decode (mB mL_told) 112 = .ok (.isub, 1) := by decide +kernel
theorem qL_told_113 : decode (mB mL_told) 113 = .ok (.idiv, 1) := by decide +kernel
theorem qL_told_114 : decode (mB mL_told) 114 = .ok (.iadd, 1) := by decide +kernel
theorem qL_told_115 : decode (mB mL_told) 115 = .ok (.ireturn, 1) := by decide +kernel
theorem qL_topped_0 : decode (mB mL_topped) 0 = .ok (.aload_n 0, 1) := by decide +kernel
theorem qL_topped_1 : decode (mB mL_topped) 1 = .ok (.iload_n 1, 1) := by decide +kernel
theorem qL_topped_2 : decode (mB mL_topped) 2 = .ok (.iload_n 2, 1) := by decide +kernel
theorem qL_topped_3 : decode (mB mL_topped) 3 = .ok (.invokevirtual 215, 3) := by decide +kernel
theorem qL_topped_6 : decode (mB mL_topped) 6 = .ok (.ireturn, 1) := by decide +kernel
theorem qL_topped_7 : decode (mB mL_topped) 7 = .ok (.astore_n 3, 1) := by decide +kernel
theorem qL_topped_8 : decode (mB mL_topped) 8 = .ok (.sipush (-9999), 3) := by decide +kernel
theorem qL_topped_11 : decode (mB mL_topped) 11 = .ok (.ireturn, 1) := by decide +kernel
theorem qL_tubes_0 : decode (mB mL_tubes) 0 = .ok (.aload_n 0, 1) := by decide +kernel
theorem qL_tubes_1 : decode (mB mL_tubes) 1 = .ok (.invokestatic 44, 3) := by decide +kernel
theorem qL_tubes_4 : decode (mB mL_tubes) 4 = .ok (.ifCond .ne 7, 3) := by decide +kernel
theorem qL_tubes_7 : decode (mB mL_tubes) 7 = .ok (.iconst 0, 1) := by decide +kernel
theorem qL_tubes_8 : decode (mB mL_tubes) 8 = .ok (.goto 10, 3) := by decide +kernel
theorem qL_tubes_11 : decode (mB mL_tubes) 11 = .ok (.aload_n 0, 1) := by decide +kernel
theorem qL_tubes_12 : decode (mB mL_tubes) 12 = .ok (.iconst 4, 1) := by decide +kernel
theorem qL_tubes_13 : decode (mB mL_tubes) 13 = .ok (.bipush 6, 2) := by decide +kernel
theorem qL_tubes_15 : decode (mB mL_tubes) 15 = .ok (.invokestatic 40, 3) := by decide +kernel
theorem qL_tubes_18 : decode (mB mL_tubes) 18 = .ok (.ireturn, 1) := by decide +kernel
theorem qX0_addBath_0 : decode (mB mX0_addBath) 0 = .ok (.aload_n 0, 1) := by decide +kernel
theorem qX0_addBath_1 : decode (mB mX0_addBath) 1 = .ok (.getfield 49, 3) := by decide +kernel
theorem qX0_addBath_4 : decode (mB mX0_addBath) 4 = .ok (.iconst 4, 1) := by decide +kernel
theorem qX0_addBath_5 : decode (mB mX0_addBath) 5 = .ok (.if_icmp .ge 33, 3) := by decide +kernel
theorem qX0_addBath_8 : decode (mB mX0_addBath) 8 = .ok (.aload_n 0, 1) := by decide +kernel
theorem qX0_addBath_9 : decode (mB mX0_addBath) 9 = .ok (.getfield 18, 3) := by decide +kernel
theorem qX0_addBath_12 : decode (mB mX0_addBath) 12 = .ok (.aload_n 0, 1) := by decide +kernel
theorem qX0_addBath_13 : decode (mB mX0_addBath) 13 = .ok (.getfield 49, 3) := by decide +kernel
theorem qX0_addBath_16 : decode (mB mX0_addBath) 16 = .ok (.iload_n 1, 1) := by decide +kernel
theorem qX0_addBath_17 : decode (mB mX0_addBath) 17 = .ok (.iastore, 1) := by decide +kernel
theorem qX0_addBath_18 : decode (mB mX0_addBath) 18 = .ok (.aload_n 0, 1) := by decide +kernel
theorem qX0_addBath_19 : decode (mB mX0_addBath) 19 = .ok (.getfield 21, 3) := by decide +kernel
theorem qX0_addBath_22 : decode (mB mX0_addBath) 22 = .ok (.aload_n 0, 1) := by decide +kernel
theorem qX0_addBath_23 : decode (mB mX0_addBath) 23 = .ok (.getfield 49, 3) := by decide +kernel
theorem qX0_addBath_26 : decode (mB mX0_addBath) 26 = .ok (.iload_n 2, 1) := by decide +kernel
theorem qX0_addBath_27 : decode (mB mX0_addBath) 27 = .ok (.iastore, 1) := by decide +kernel
theorem qX0_addBath_28 : decode (mB mX0_addBath) 28 = .ok (.aload_n 0, 1) := by decide +kernel
theorem qX0_addBath_29 : decode (mB mX0_addBath) 29 = .ok (.dup, 1) := by decide +kernel
theorem qX0_addBath_30 : decode (mB mX0_addBath) 30 = .ok (.getfield 49, 3) := by decide +kernel
theorem qX0_addBath_33 : decode (mB mX0_addBath) 33 = .ok (.iconst 1, 1) := by decide +kernel
theorem qX0_addBath_34 : decode (mB mX0_addBath) 34 = .ok (.iadd, 1) := by decide +kernel
theorem qX0_addBath_35 : decode (mB mX0_addBath) 35 = .ok (.putfield 49, 3) := by decide +kernel
theorem qX0_addBath_38 : decode (mB mX0_addBath) 38 = .ok (.return_, 1) := by decide +kernel
theorem qX0_addSpirit_0 : decode (mB mX0_addSpirit) 0 = .ok (.aload_n 0, 1) := by decide +kernel
theorem qX0_addSpirit_1 : decode (mB mX0_addSpirit) 1 = .ok (.getfield 46, 3) := by decide +kernel
theorem qX0_addSpirit_4 : decode (mB mX0_addSpirit) 4 = .ok (.iconst 5, 1) := by decide +kernel
theorem qX0_addSpirit_5 : decode (mB mX0_addSpirit) 5 = .ok (.if_icmp .ge 33, 3) := by decide +kernel
theorem qX0_addSpirit_8 : decode (mB mX0_addSpirit) 8 = .ok (.aload_n 0, 1) := by decide +kernel
theorem qX0_addSpirit_9 : decode (mB mX0_addSpirit) 9 = .ok (.getfield 11, 3) := by decide +kernel
theorem qX0_addSpirit_12 : decode (mB mX0_addSpirit) 12 = .ok (.aload_n 0, 1) := by decide +kernel
theorem qX0_addSpirit_13 : decode (mB mX0_addSpirit) 13 = .ok (.getfield 46, 3) := by decide +kernel
theorem qX0_addSpirit_16 : decode (mB mX0_addSpirit) 16 = .ok (.iload_n 1, 1) := by decide +kernel
theorem qX0_addSpirit_17 : decode (mB mX0_addSpirit) 17 = .ok (.iastore, 1) := by decide +kernel
theorem qX0_addSpirit_18 : decode (mB mX0_addSpirit) 18 = .ok (.aload_n 0, 1) := by decide +kernel
theorem qX0_addSpirit_19 : decode (mB mX0_addSpirit) 19 = .ok (.getfield 15, 3) := by decide +kernel
theorem qX0_addSpirit_22 : decode (mB mX0_addSpirit) 22 = .ok (.aload_n 0, 1) := by decide +kernel
theorem qX0_addSpirit_23 : decode (mB mX0_addSpirit) 23 = .ok (.getfield 46, 3) := by decide +kernel
theorem qX0_addSpirit_26 : decode (mB mX0_addSpirit) 26 = .ok (.iload_n 2, 1) := by decide +kernel
theorem qX0_addSpirit_27 : decode (mB mX0_addSpirit) 27 = .ok (.iastore, 1) := by decide +kernel
theorem qX0_addSpirit_28 : decode (mB mX0_addSpirit) 28 = .ok (.aload_n 0, 1) := by decide +kernel
theorem qX0_addSpirit_29 : decode (mB mX0_addSpirit) 29 = .ok (.dup, 1) := by decide +kernel
theorem qX0_addSpirit_30 : decode (mB mX0_addSpirit) 30 = .ok (.getfield 46, 3) := by decide +kernel
theorem qX0_addSpirit_33 : decode (mB mX0_addSpirit) 33 = .ok (.iconst 1, 1) := by decide +kernel
theorem qX0_addSpirit_34 : decode (mB mX0_addSpirit) 34 = .ok (.iadd, 1) := by decide +kernel
theorem qX0_addSpirit_35 : decode (mB mX0_addSpirit) 35 = .ok (.putfield 46, 3) := by decide +kernel
theorem qX0_addSpirit_38 : decode (mB mX0_addSpirit) 38 = .ok (.return_, 1) := by decide +kernel
theorem qX0_addTube_0 : decode (mB mX0_addTube) 0 = .ok (.aload_n 0, 1) := by decide +kernel
theorem qX0_addTube_1 : decode (mB mX0_addTube) 1 = .ok (.getfield 52, 3) := by decide +kernel
theorem qX0_addTube_4 : decode (mB mX0_addTube) 4 = .ok (.bipush 8, 2) := by decide +kernel
theorem qX0_addTube_6 : decode (mB mX0_addTube) 6 = .ok (.if_icmp .ge 72, 3) := by decide +kernel
theorem qX0_addTube_9 : decode (mB mX0_addTube) 9 = .ok (.iload_n 1, 1) := by decide +kernel
theorem qX0_addTube_10 : decode (mB mX0_addTube) 10 = .ok (.ifCond .lt 68, 3) := by decide +kernel
theorem qX0_addTube_13 : decode (mB mX0_addTube) 13 = .ok (.iload_n 1, 1) := by decide +kernel
theorem qX0_addTube_14 : decode (mB mX0_addTube) 14 = .ok (.aload_n 0, 1) := by decide +kernel
theorem qX0_addTube_15 : decode (mB mX0_addTube) 15 = .ok (.getfield 46, 3) := by decide +kernel
theorem qX0_addTube_18 : decode (mB mX0_addTube) 18 = .ok (.if_icmp .ge 60, 3) := by decide +kernel
theorem qX0_addTube_21 : decode (mB mX0_addTube) 21 = .ok (.aload_n 0, 1) := by decide +kernel
theorem qX0_addTube_22 : decode (mB mX0_addTube) 22 = .ok (.getfield 26, 3) := by decide +kernel
theorem qX0_addTube_25 : decode (mB mX0_addTube) 25 = .ok (.aload_n 0, 1) := by decide +kernel
theorem qX0_addTube_26 : decode (mB mX0_addTube) 26 = .ok (.getfield 52, 3) := by decide +kernel
theorem qX0_addTube_29 : decode (mB mX0_addTube) 29 = .ok (.aaload, 1) := by decide +kernel
theorem qX0_addTube_30 : decode (mB mX0_addTube) 30 = .ok (.astore 6, 2) := by decide +kernel
theorem qX0_addTube_32 : decode (mB mX0_addTube) 32 = .ok (.aload 6, 2) := by decide +kernel
theorem qX0_addTube_34 : decode (mB mX0_addTube) 34 = .ok (.iload_n 2, 1) := by decide +kernel
theorem qX0_addTube_35 : decode (mB mX0_addTube) 35 = .ok (.iload_n 3, 1) := by decide +kernel
theorem qX0_addTube_36 : decode (mB mX0_addTube) 36 = .ok (.iload 4, 2) := by decide +kernel
theorem qX0_addTube_38 : decode (mB mX0_addTube) 38 = .ok (.iload 5, 2) := by decide +kernel
theorem qX0_addTube_40 : decode (mB mX0_addTube) 40 = .ok (.bipush 10, 2) := by decide +kernel
theorem qX0_addTube_42 : decode (mB mX0_addTube) 42 = .ok (.aload_n 0, 1) := by decide +kernel
theorem qX0_addTube_43 : decode (mB mX0_addTube) 43 = .ok (.getfield 58, 3) := by decide +kernel
theorem qX0_addTube_46 : decode (mB mX0_addTube) 46 = .ok (.imul, 1) := by decide +kernel
theorem qX0_addTube_47 : decode (mB mX0_addTube) 47 = .ok (.invokevirtual 68, 3) := by decide +kernel
theorem qX0_addTube_50 : decode (mB mX0_addTube) 50 = .ok (.aload 6, 2) := by decide +kernel
theorem qX0_addTube_52 : decode (mB mX0_addTube) 52 = .ok (.iload_n 1, 1) := by decide +kernel
theorem qX0_addTube_53 : decode (mB mX0_addTube) 53 = .ok (.aload_n 0, 1) := by decide +kernel
theorem qX0_addTube_54 : decode (mB mX0_addTube) 54 = .ok (.getfield 11, 3) := by decide +kernel
theorem qX0_addTube_57 : decode (mB mX0_addTube) 57 = .ok (.iload_n 1, 1) := by decide +kernel
theorem qX0_addTube_58 : decode (mB mX0_addTube) 58 = .ok (.iaload, 1) := by decide +kernel
theorem qX0_addTube_59 : decode (mB mX0_addTube) 59 = .ok (.aload_n 0, 1) := by decide +kernel
theorem qX0_addTube_60 : decode (mB mX0_addTube) 60 = .ok (.getfield 15, 3) := by decide +kernel
theorem qX0_addTube_63 : decode (mB mX0_addTube) 63 = .ok (.iload_n 1, 1) := by decide +kernel
theorem qX0_addTube_64 : decode (mB mX0_addTube) 64 = .ok (.iaload, 1) := by decide +kernel
theorem qX0_addTube_65 : decode (mB mX0_addTube) 65 = .ok (.invokevirtual 72, 3) := by decide +kernel
theorem qX0_addTube_68 : decode (mB mX0_addTube) 68 = .ok (.aload_n 0, 1) := by decide +kernel
theorem qX0_addTube_69 : decode (mB mX0_addTube) 69 = .ok (.dup, 1) := by decide +kernel
theorem qX0_addTube_70 : decode (mB mX0_addTube) 70 = .ok (.getfield 52, 3) := by decide +kernel
theorem qX0_addTube_73 : decode (mB mX0_addTube) 73 = .ok (.iconst 1, 1) := by decide +kernel
theorem qX0_addTube_74 : decode (mB mX0_addTube) 74 = .ok (.iadd, 1) := by decide +kernel
theorem qX0_addTube_75 : decode (mB mX0_addTube) 75 = .ok (.putfield 52, 3) := by decide +kernel
theorem qX0_addTube_78 : decode (mB mX0_addTube) 78 = .ok (.return_, 1) := by decide +kernel
theorem qX0_atRest_0 : decode (mB mX0_atRest) 0 = .ok (.aload_n 1, 1) := by decide +kernel
theorem qX0_atRest_1 : decode (mB mX0_atRest) 1 = .ok (.getfield 82, 3) := by decide +kernel
theorem qX0_atRest_4 : decode (mB mX0_atRest) 4 = .ok (.aload_n 0, 1) := by decide +kernel
theorem qX0_atRest_5 : decode (mB mX0_atRest) 5 = .ok (.aload_n 1, 1) := by decide +kernel
theorem qX0_atRest_6 : decode (mB mX0_atRest) 6 = .ok (.invokevirtual 85, 3) := by decide +kernel
theorem qX0_atRest_9 : decode (mB mX0_atRest) 9 = .ok (.if_icmp .ne 7, 3) := by decide +kernel
theorem qX0_atRest_12 : decode (mB mX0_atRest) 12 = .ok (.iconst 1, 1) := by decide +kernel
theorem qX0_atRest_13 : decode (mB mX0_atRest) 13 = .ok (.goto 4, 3) := by decide +kernel
theorem qX0_atRest_16 : decode (mB mX0_atRest) 16 = .ok (.iconst 0, 1) := by decide +kernel
theorem qX0_atRest_17 : decode (mB mX0_atRest) 17 = .ok (.ireturn, 1) := by decide +kernel
theorem qX0_clear_0 : decode (mB mX0_clear) 0 = .ok (.aload_n 0, 1) := by decide +kernel
theorem qX0_clear_1 : decode (mB mX0_clear) 1 = .ok (.iconst 0, 1) := by decide +kernel
theorem qX0_clear_2 : decode (mB mX0_clear) 2 = .ok (.putfield 46, 3) := by decide +kernel
theorem qX0_clear_5 : decode (mB mX0_clear) 5 = .ok (.aload_n 0, 1) := by decide +kernel
theorem qX0_clear_6 : decode (mB mX0_clear) 6 = .ok (.iconst 0, 1) := by decide +kernel
theorem qX0_clear_7 : decode (mB mX0_clear) 7 = .ok (.putfield 49, 3) := by decide +kernel
theorem qX0_clear_10 : decode (mB mX0_clear) 10 = .ok (.aload_n 0, 1) := by decide +kernel
theorem qX0_clear_11 : decode (mB mX0_clear) 11 = .ok (.iconst 0, 1) := by decide +kernel
theorem qX0_clear_12 : decode (mB mX0_clear) 12 = .ok (.putfield 52, 3) := by decide +kernel
theorem qX0_clear_15 : decode (mB mX0_clear) 15 = .ok (.aload_n 0, 1) := by decide +kernel
theorem qX0_clear_16 : decode (mB mX0_clear) 16 = .ok (.iconst 0, 1) := by decide +kernel
theorem qX0_clear_17 : decode (mB mX0_clear) 17 = .ok (.putfield 55, 3) := by decide +kernel
theorem qX0_clear_20 : decode (mB mX0_clear) 20 = .ok (.aload_n 0, 1) := by decide +kernel
theorem qX0_clear_21 : decode (mB mX0_clear) 21 = .ok (.iconst 0, 1) := by decide +kernel
theorem qX0_clear_22 : decode (mB mX0_clear) 22 = .ok (.putfield 58, 3) := by decide +kernel
theorem qX0_clear_25 : decode (mB mX0_clear) 25 = .ok (.aload_n 0, 1) := by decide +kernel
theorem qX0_clear_26 : decode (mB mX0_clear) 26 = .ok (.iconst 1, 1) := by decide +kernel
theorem qX0_clear_27 : decode (mB mX0_clear) 27 = .ok (.putfield 33, 3) := by decide +kernel
theorem qX0_clear_30 : decode (mB mX0_clear) 30 = .ok (.aload_n 0, 1) := by decide +kernel
theorem qX0_clear_31 : decode (mB mX0_clear) 31 = .ok (.iconst (-1), 1) := by decide +kernel
theorem qX0_clear_32 : decode (mB mX0_clear) 32 = .ok (.putfield 37, 3) := by decide +kernel
theorem qX0_clear_35 : decode (mB mX0_clear) 35 = .ok (.aload_n 0, 1) := by decide +kernel
theorem qX0_clear_36 : decode (mB mX0_clear) 36 = .ok (.iconst 0, 1) := by decide +kernel
theorem qX0_clear_37 : decode (mB mX0_clear) 37 = .ok (.putfield 61, 3) := by decide +kernel
theorem qX0_clear_40 : decode (mB mX0_clear) 40 = .ok (.return_, 1) := by decide +kernel
theorem qX0_copyFrom_0 : decode (mB mX0_copyFrom) 0 = .ok (.aload_n 1, 1) := by decide +kernel
theorem qX0_copyFrom_1 : decode (mB mX0_copyFrom) 1 = .ok (.getfield 11, 3) := by decide +kernel
theorem qX0_copyFrom_4 : decode (mB mX0_copyFrom) 4 = .ok (.iconst 0, 1) := by decide +kernel
theorem qX0_copyFrom_5 : decode (mB mX0_copyFrom) 5 = .ok (.aload_n 0, 1) := by decide +kernel
theorem qX0_copyFrom_6 : decode (mB mX0_copyFrom) 6 = .ok (.getfield 11, 3) := by decide +kernel
theorem qX0_copyFrom_9 : decode (mB mX0_copyFrom) 9 = .ok (.iconst 0, 1) := by decide +kernel
theorem qX0_copyFrom_10 : decode (mB mX0_copyFrom) 10 = .ok (.iconst 5, 1) := by decide +kernel
theorem qX0_copyFrom_11 : decode (mB mX0_copyFrom) 11 = .ok (.invokestatic 40, 3) := by decide +kernel
theorem qX0_copyFrom_14 : decode (mB mX0_copyFrom) 14 = .ok (.aload_n 1, 1) := by decide +kernel
theorem qX0_copyFrom_15 : decode (mB mX0_copyFrom) 15 = .ok (.getfield 15, 3) := by decide +kernel
theorem qX0_copyFrom_18 : decode (mB mX0_copyFrom) 18 = .ok (.iconst 0, 1) := by decide +kernel
theorem qX0_copyFrom_19 : decode (mB mX0_copyFrom) 19 = .ok (.aload_n 0, 1) := by decide +kernel
theorem qX0_copyFrom_20 : decode (mB mX0_copyFrom) 20 = .ok (.getfield 15, 3) := by decide +kernel
theorem qX0_copyFrom_23 : decode (mB mX0_copyFrom) 23 = .ok (.iconst 0, 1) := by decide +kernel
theorem qX0_copyFrom_24 : decode (mB mX0_copyFrom) 24 = .ok (.iconst 5, 1) := by decide +kernel
theorem qX0_copyFrom_25 : decode (mB mX0_copyFrom) 25 = .ok (.invokestatic 40, 3) := by decide +kernel
theorem qX0_copyFrom_28 : decode (mB mX0_copyFrom) 28 = .ok (.aload_n 1, 1) := by decide +kernel
theorem qX0_copyFrom_29 : decode (mB mX0_copyFrom) 29 = .ok (.getfield 18, 3) := by decide +kernel
theorem qX0_copyFrom_32 : decode (mB mX0_copyFrom) 32 = .ok (.iconst 0, 1) := by decide +kernel
theorem qX0_copyFrom_33 : decode (mB mX0_copyFrom) 33 = .ok (.aload_n 0, 1) := by decide +kernel
theorem qX0_copyFrom_34 : decode (mB mX0_copyFrom) 34 = .ok (.getfield 18, 3) := by decide +kernel
theorem qX0_copyFrom_37 : decode (mB mX0_copyFrom) 37 = .ok (.iconst 0, 1) := by decide +kernel
theorem qX0_copyFrom_38 : decode (mB mX0_copyFrom) 38 = .ok (.iconst 4, 1) := by decide +kernel
theorem qX0_copyFrom_39 : decode (mB mX0_copyFrom) 39 = .ok (.invokestatic 40, 3) := by decide +kernel
theorem qX0_copyFrom_42 : decode (mB mX0_copyFrom) 42 = .ok (.aload_n 1, 1) := by decide +kernel
theorem qX0_copyFrom_43 : decode (mB mX0_copyFrom) 43 = .ok (.getfield 21, 3) := by decide +kernel
theorem qX0_copyFrom_46 : decode (mB mX0_copyFrom) 46 = .ok (.iconst 0, 1) := by decide +kernel
theorem qX0_copyFrom_47 : decode (mB mX0_copyFrom) 47 = .ok (.aload_n 0, 1) := by decide +kernel
theorem qX0_copyFrom_48 : decode (mB mX0_copyFrom) 48 = .ok (.getfield 21, 3) := by decide +kernel
theorem qX0_copyFrom_51 : decode (mB mX0_copyFrom) 51 = .ok (.iconst 0, 1) := by decide +kernel
theorem qX0_copyFrom_52 : decode (mB mX0_copyFrom) 52 = .ok (.iconst 4, 1) := by decide +kernel
theorem qX0_copyFrom_53 : decode (mB mX0_copyFrom) 53 = .ok (.invokestatic 40, 3) := by decide +kernel
theorem qX0_copyFrom_56 : decode (mB mX0_copyFrom) 56 = .ok (.aload_n 0, 1) := by decide +kernel
theorem qX0_copyFrom_57 : decode (mB mX0_copyFrom) 57 = .ok (.aload_n 1, 1) := by decide +kernel
theorem qX0_copyFrom_58 : decode (mB mX0_copyFrom) 58 = .ok (.getfield 46, 3) := by decide +kernel
theorem qX0_copyFrom_61 : decode (mB mX0_copyFrom) 61 = .ok (.putfield 46, 3) := by decide +kernel
theorem qX0_copyFrom_64 : decode (mB mX0_copyFrom) 64 = .ok (.aload_n 0, 1) := by decide +kernel
theorem qX0_copyFrom_65 : decode (mB mX0_copyFrom) 65 = .ok (.aload_n 1, 1) := by decide +kernel
theorem qX0_copyFrom_66 : decode (mB mX0_copyFrom) 66 = .ok (.getfield 49, 3) := by decide +kernel
theorem qX0_copyFrom_69 : decode (mB mX0_copyFrom) 69 = .ok (.putfield 49, 3) := by decide +kernel
theorem qX0_copyFrom_72 : decode (mB mX0_copyFrom) 72 = .ok (.aload_n 0, 1) := by decide +kernel
theorem qX0_copyFrom_73 : decode (mB mX0_copyFrom) 73 = .ok (.aload_n 1, 1) := by decide +kernel
theorem qX0_copyFrom_74 : decode (mB mX0_copyFrom) 74 = .ok (.getfield 52, 3) := by decide +kernel
theorem qX0_copyFrom_77 : decode (mB mX0_copyFrom) 77 = .ok (.putfield 52, 3) := by decide +kernel
theorem qX0_copyFrom_80 : decode (mB mX0_copyFrom) 80 = .ok (.aload_n 0, 1) := by decide +kernel
theorem qX0_copyFrom_81 : decode (mB mX0_copyFrom) 81 = .ok (.aload_n 1, 1) := by decide +kernel
theorem qX0_copyFrom_82 : decode (mB mX0_copyFrom) 82 = .ok (.getfield 55, 3) := by decide +kernel
theorem qX0_copyFrom_85 : decode (mB mX0_copyFrom) 85 = .ok (.putfield 55, 3) := by decide +kernel
theorem qX0_copyFrom_88 : decode (mB mX0_copyFrom) 88 = .ok (.aload_n 0, 1) := by decide +kernel
theorem qX0_copyFrom_89 : decode (mB mX0_copyFrom) 89 = .ok (.aload_n 1, 1) := by decide +kernel
theorem qX0_copyFrom_90 : decode (mB mX0_copyFrom) 90 = .ok (.getfield 58, 3) := by decide +kernel
theorem qX0_copyFrom_93 : decode (mB mX0_copyFrom) 93 = .ok (.putfield 58, 3) := by decide +kernel
theorem qX0_copyFrom_96 : decode (mB mX0_copyFrom) 96 = .ok (.aload_n 0, 1) := by decide +kernel
theorem qX0_copyFrom_97 : decode (mB mX0_copyFrom) 97 = .ok (.aload_n 1, 1) := by decide +kernel
theorem qX0_copyFrom_98 : decode (mB mX0_copyFrom) 98 = .ok (.getfield 33, 3) := by decide +kernel
theorem qX0_copyFrom_101 : decode (mB mX0_copyFrom) 101 = .ok (.putfield 33, 3) := by decide +kernel
theorem qX0_copyFrom_104 : decode (mB mX0_copyFrom) 104 = .ok (.aload_n 0, 1) := by decide +kernel
theorem qX0_copyFrom_105 : decode (mB mX0_copyFrom) 105 = .ok (.aload_n 1, 1) := by decide +kernel
theorem qX0_copyFrom_106 : decode (mB mX0_copyFrom) 106 = .ok (.getfield 37, 3) := by decide +kernel
theorem qX0_copyFrom_109 : decode (mB mX0_copyFrom) 109 = .ok (.putfield 37, 3) := by decide +kernel
theorem qX0_copyFrom_112 : decode (mB mX0_copyFrom) 112 = .ok (.aload_n 0, 1) := by decide +kernel
theorem qX0_copyFrom_113 : decode (mB mX0_copyFrom) 113 = .ok (.aload_n 1, 1) := by decide +kernel
theorem qX0_copyFrom_114 : decode (mB mX0_copyFrom) 114 = .ok (.getfield 61, 3) := by decide +kernel
theorem qX0_copyFrom_117 : decode (mB mX0_copyFrom) 117 = .ok (.putfield 61, 3) := by decide +kernel
theorem qX0_copyFrom_120 : decode (mB mX0_copyFrom) 120 = .ok (.iconst 0, 1) := by decide +kernel
theorem qX0_copyFrom_121 : decode (mB mX0_copyFrom) 121 = .ok (.istore_n 2, 1) := by decide +kernel
theorem qX0_copyFrom_122 : decode (mB mX0_copyFrom) 122 = .ok (.iload_n 2, 1) := by decide +kernel
theorem qX0_copyFrom_123 : decode (mB mX0_copyFrom) 123 = .ok (.aload_n 0, 1) := by decide +kernel
theorem qX0_copyFrom_124 : decode (mB mX0_copyFrom) 124 = .ok (.getfield 52, 3) := by decide +kernel
theorem qX0_copyFrom_127 : decode (mB mX0_copyFrom) 127 = .ok (.if_icmp .ge 24, 3) := by decide +kernel
theorem qX0_copyFrom_130 : decode (mB mX0_copyFrom) 130 = .ok (.aload_n 0, 1) := by decide +kernel
theorem qX0_copyFrom_131 : decode (mB mX0_copyFrom) 131 = .ok (.getfield 26, 3) := by decide +kernel
theorem qX0_copyFrom_134 : decode (mB mX0_copyFrom) 134 = .ok (.iload_n 2, 1) := by decide +kernel
theorem qX0_copyFrom_135 : decode (mB mX0_copyFrom) 135 = .ok (.aaload, 1) := by decide +kernel
theorem qX0_copyFrom_136 : decode (mB mX0_copyFrom) 136 = .ok (.aload_n 1, 1) := by decide +kernel
theorem qX0_copyFrom_137 : decode (mB mX0_copyFrom) 137 = .ok (.getfield 26, 3) := by decide +kernel
theorem qX0_copyFrom_140 : decode (mB mX0_copyFrom) 140 = .ok (.iload_n 2, 1) := by decide +kernel
theorem qX0_copyFrom_141 : decode (mB mX0_copyFrom) 141 = .ok (.aaload, 1) := by decide +kernel
theorem qX0_copyFrom_142 : decode (mB mX0_copyFrom) 142 = .ok (.invokevirtual 64, 3) := by decide +kernel
theorem qX0_copyFrom_145 : decode (mB mX0_copyFrom) 145 = .ok (.iinc 2 1, 3) := by decide +kernel
theorem qX0_copyFrom_148 : decode (mB mX0_copyFrom) 148 = .ok (.goto (-26), 3) := by decide +kernel
theorem qX0_copyFrom_151 : decode (mB mX0_copyFrom) 151 = .ok (.return_, 1) := by decide +kernel
theorem qX0_endThumbMinute_0 : decode (mB mX0_endThumbMinute) 0 = .ok (.aload_n 0, 1) := by decide +kernel
theorem qX0_endThumbMinute_1 : decode (mB mX0_endThumbMinute) 1 = .ok (.getfield 37, 3) := by decide +kernel
theorem qX0_endThumbMinute_4 : decode (mB mX0_endThumbMinute) 4 = .ok (.iload_n 1, 1) := by decide +kernel
theorem qX0_endThumbMinute_5 : decode (mB mX0_endThumbMinute) 5 = .ok (.if_icmp .ne 25, 3) := by decide +kernel
theorem qX0_endThumbMinute_8 : decode (mB mX0_endThumbMinute) 8 = .ok (.aload_n 0, 1) := by decide +kernel
theorem qX0_endThumbMinute_9 : decode (mB mX0_endThumbMinute) 9 = .ok (.dup, 1) := by decide +kernel
theorem qX0_endThumbMinute_10 : decode (mB mX0_endThumbMinute) 10 = .ok (.getfield 61, 3) := by decide +kernel
theorem qX0_endThumbMinute_13 : decode (mB mX0_endThumbMinute) 13 = .ok (.iconst 1, 1) := by decide +kernel
theorem qX0_endThumbMinute_14 : decode (mB mX0_endThumbMinute) 14 = .ok (.isub, 1) := by decide +kernel
theorem qX0_endThumbMinute_15 : decode (mB mX0_endThumbMinute) 15 = .ok (.putfield 61, 3) := by decide +kernel
theorem qX0_endThumbMinute_18 : decode (mB mX0_endThumbMinute) 18 = .ok (.aload_n 0, 1) := by decide +kernel
theorem qX0_endThumbMinute_19 : decode (mB mX0_endThumbMinute) 19 = .ok (.getfield 61, 3) := by decide +kernel
theorem qX0_endThumbMinute_22 : decode (mB mX0_endThumbMinute) 22 = .ok (.ifCond .gt 8, 3) := by decide +kernel
theorem qX0_endThumbMinute_25 : decode (mB mX0_endThumbMinute) 25 = .ok (.aload_n 0, 1) := by decide +kernel
theorem qX0_endThumbMinute_26 : decode (mB mX0_endThumbMinute) 26 = .ok (.iconst (-1), 1) := by decide +kernel
theorem qX0_endThumbMinute_27 : decode (mB mX0_endThumbMinute) 27 = .ok (.putfield 37, 3) := by decide +kernel
theorem qX0_endThumbMinute_30 : decode (mB mX0_endThumbMinute) 30 = .ok (.return_, 1) := by decide +kernel
theorem qX0_init_0 : decode (mB mX0_init) 0 = .ok (.aload_n 0, 1) := by decide +kernel
theorem qX0_init_1 : decode (mB mX0_init) 1 = .ok (.invokespecial 3, 3) := by decide +kernel
theorem qX0_init_4 : decode (mB mX0_init) 4 = .ok (.aload_n 0, 1) := by decide +kernel
theorem qX0_init_5 : decode (mB mX0_init) 5 = .ok (.iconst 5, 1) := by decide +kernel
theorem qX0_init_6 : decode (mB mX0_init) 6 = .ok (.newarray .int, 2) := by decide +kernel
theorem qX0_init_8 : decode (mB mX0_init) 8 = .ok (.putfield 11, 3) := by decide +kernel
theorem qX0_init_11 : decode (mB mX0_init) 11 = .ok (.aload_n 0, 1) := by decide +kernel
theorem qX0_init_12 : decode (mB mX0_init) 12 = .ok (.iconst 5, 1) := by decide +kernel
theorem qX0_init_13 : decode (mB mX0_init) 13 = .ok (.newarray .int, 2) := by decide +kernel
theorem qX0_init_15 : decode (mB mX0_init) 15 = .ok (.putfield 15, 3) := by decide +kernel
theorem qX0_init_18 : decode (mB mX0_init) 18 = .ok (.aload_n 0, 1) := by decide +kernel
theorem qX0_init_19 : decode (mB mX0_init) 19 = .ok (.iconst 4, 1) := by decide +kernel
theorem qX0_init_20 : decode (mB mX0_init) 20 = .ok (.newarray .int, 2) := by decide +kernel
theorem qX0_init_22 : decode (mB mX0_init) 22 = .ok (.putfield 18, 3) := by decide +kernel
theorem qX0_init_25 : decode (mB mX0_init) 25 = .ok (.aload_n 0, 1) := by decide +kernel
theorem qX0_init_26 : decode (mB mX0_init) 26 = .ok (.iconst 4, 1) := by decide +kernel
theorem qX0_init_27 : decode (mB mX0_init) 27 = .ok (.newarray .int, 2) := by decide +kernel
theorem qX0_init_29 : decode (mB mX0_init) 29 = .ok (.putfield 21, 3) := by decide +kernel
theorem qX0_init_32 : decode (mB mX0_init) 32 = .ok (.aload_n 0, 1) := by decide +kernel
theorem qX0_init_33 : decode (mB mX0_init) 33 = .ok (.bipush 8, 2) := by decide +kernel
theorem qX0_init_35 : decode (mB mX0_init) 35 = .ok (.anewarray 24, 3) := by decide +kernel
theorem qX0_init_38 : decode (mB mX0_init) 38 = .ok (.putfield 26, 3) := by decide +kernel
theorem qX0_init_41 : decode (mB mX0_init) 41 = .ok (.iconst 0, 1) := by decide +kernel
theorem qX0_init_42 : decode (mB mX0_init) 42 = .ok (.istore_n 1, 1) := by decide +kernel
theorem qX0_init_43 : decode (mB mX0_init) 43 = .ok (.iload_n 1, 1) := by decide +kernel
theorem qX0_init_44 : decode (mB mX0_init) 44 = .ok (.bipush 8, 2) := by decide +kernel
theorem qX0_init_46 : decode (mB mX0_init) 46 = .ok (.if_icmp .ge 23, 3) := by decide +kernel
theorem qX0_init_49 : decode (mB mX0_init) 49 = .ok (.aload_n 0, 1) := by decide +kernel
theorem qX0_init_50 : decode (mB mX0_init) 50 = .ok (.getfield 26, 3) := by decide +kernel
theorem qX0_init_53 : decode (mB mX0_init) 53 = .ok (.iload_n 1, 1) := by decide +kernel
theorem qX0_init_54 : decode (mB mX0_init) 54 = .ok (.new 24, 3) := by decide +kernel
theorem qX0_init_57 : decode (mB mX0_init) 57 = .ok (.dup, 1) := by decide +kernel
theorem qX0_init_58 : decode (mB mX0_init) 58 = .ok (.iload_n 1, 1) := by decide +kernel
theorem qX0_init_59 : decode (mB mX0_init) 59 = .ok (.invokespecial 30, 3) := by decide +kernel
theorem qX0_init_62 : decode (mB mX0_init) 62 = .ok (.aastore, 1) := by decide +kernel
theorem qX0_init_63 : decode (mB mX0_init) 63 = .ok (.iinc 1 1, 3) := by decide +kernel
theorem qX0_init_66 : decode (mB mX0_init) 66 = .ok (.goto (-23), 3) := by decide +kernel
theorem qX0_init_69 : decode (mB mX0_init) 69 = .ok (.aload_n 0, 1) := by decide +kernel
theorem qX0_init_70 : decode (mB mX0_init) 70 = .ok (.iconst 1, 1) := by decide +kernel
theorem qX0_init_71 : decode (mB mX0_init) 71 = .ok (.putfield 33, 3) := by decide +kernel
theorem qX0_init_74 : decode (mB mX0_init) 74 = .ok (.aload_n 0, 1) := by decide +kernel
theorem qX0_init_75 : decode (mB mX0_init) 75 = .ok (.iconst (-1), 1) := by decide +kernel
theorem qX0_init_76 : decode (mB mX0_init) 76 = .ok (.putfield 37, 3) := by decide +kernel
theorem qX0_init_79 : decode (mB mX0_init) 79 = .ok (.return_, 1) := by decide +kernel
theorem qX0_markPoint_0 : decode (mB mX0_markPoint) 0 = .ok (.aload_n 1, 1) := by decide +kernel
theorem qX0_markPoint_1 : decode (mB mX0_markPoint) 1 = .ok (.getfield 79, 3) := by decide +kernel
theorem qX0_markPoint_4 : decode (mB mX0_markPoint) 4 = .ok (.ifCond .lt 31, 3) := by decide +kernel
theorem qX0_markPoint_7 : decode (mB mX0_markPoint) 7 = .ok (.aload_n 1, 1) := by decide +kernel
theorem qX0_markPoint_8 : decode (mB mX0_markPoint) 8 = .ok (.getfield 79, 3) := by decide +kernel
theorem qX0_markPoint_11 : decode (mB mX0_markPoint) 11 = .ok (.aload_n 0, 1) := by decide +kernel
theorem qX0_markPoint_12 : decode (mB mX0_markPoint) 12 = .ok (.getfield 49, 3) := by decide +kernel
theorem qX0_markPoint_15 : decode (mB mX0_markPoint) 15 = .ok (.if_icmp .ge 20, 3) := by decide +kernel
theorem qX0_markPoint_18 : decode (mB mX0_markPoint) 18 = .ok (.aload_n 1, 1) := by decide +kernel
theorem qX0_markPoint_19 : decode (mB mX0_markPoint) 19 = .ok (.aload_n 0, 1) := by decide +kernel
theorem qX0_markPoint_20 : decode (mB mX0_markPoint) 20 = .ok (.getfield 21, 3) := by decide +kernel
theorem qX0_markPoint_23 : decode (mB mX0_markPoint) 23 = .ok (.aload_n 1, 1) := by decide +kernel
theorem qX0_markPoint_24 : decode (mB mX0_markPoint) 24 = .ok (.getfield 79, 3) := by decide +kernel
theorem qX0_markPoint_27 : decode (mB mX0_markPoint) 27 = .ok (.iaload, 1) := by decide +kernel
theorem qX0_markPoint_28 : decode (mB mX0_markPoint) 28 = .ok (.aload_n 1, 1) := by decide +kernel
theorem qX0_markPoint_29 : decode (mB mX0_markPoint) 29 = .ok (.invokevirtual 97, 3) := by decide +kernel
theorem qX0_markPoint_32 : decode (mB mX0_markPoint) 32 = .ok (.invokevirtual 107, 3) := by decide +kernel
theorem qX0_markPoint_35 : decode (mB mX0_markPoint) 35 = .ok (.return_, 1) := by decide +kernel
theorem qX0_passMinutes_0 : decode (mB mX0_passMinutes) 0 = .ok (.iconst 0, 1) := by decide +kernel
theorem qX0_passMinutes_1 : decode (mB mX0_passMinutes) 1 = .ok (.istore_n 2, 1) := by decide +kernel
theorem qX0_passMinutes_2 : decode (mB mX0_passMinutes) 2 = .ok (.iconst 0, 1) := by decide +kernel
theorem qX0_passMinutes_3 : decode (mB mX0_passMinutes) 3 = .ok (.istore_n 3, 1) := by decide +kernel
theorem qX0_passMinutes_4 : decode (mB mX0_passMinutes) 4 = .ok (.iload_n 3, 1) := by decide +kernel
theorem qX0_passMinutes_5 : decode (mB mX0_passMinutes) 5 = .ok (.iload_n 1, 1) := by decide +kernel
theorem qX0_passMinutes_6 : decode (mB mX0_passMinutes) 6 = .ok (.if_icmp .ge 75, 3) := by decide +kernel
theorem qX0_passMinutes_9 : decode (mB mX0_passMinutes) 9 = .ok (.aload_n 0, 1) := by decide +kernel
theorem qX0_passMinutes_10 : decode (mB mX0_passMinutes) 10 = .ok (.dup, 1) := by decide +kernel
theorem qX0_passMinutes_11 : decode (mB mX0_passMinutes) 11 = .ok (.getfield 55, 3) := by decide +kernel
theorem qX0_passMinutes_14 : decode (mB mX0_passMinutes) 14 = .ok (.iconst 1, 1) := by decide +kernel
theorem qX0_passMinutes_15 : decode (mB mX0_passMinutes) 15 = .ok (.iadd, 1) := by decide +kernel
theorem qX0_passMinutes_16 : decode (mB mX0_passMinutes) 16 = .ok (.putfield 55, 3) := by decide +kernel
theorem qX0_passMinutes_19 : decode (mB mX0_passMinutes) 19 = .ok (.iconst 0, 1) := by decide +kernel
theorem qX0_passMinutes_20 : decode (mB mX0_passMinutes) 20 = .ok (.istore 4, 2) := by decide +kernel
theorem qX0_passMinutes_22 : decode (mB mX0_passMinutes) 22 = .ok (.iload 4, 2) := by decide +kernel
theorem qX0_passMinutes_24 : decode (mB mX0_passMinutes) 24 = .ok (.aload_n 0, 1) := by decide +kernel
theorem qX0_passMinutes_25 : decode (mB mX0_passMinutes) 25 = .ok (.getfield 52, 3) := by decide +kernel
theorem qX0_passMinutes_28 : decode (mB mX0_passMinutes) 28 = .ok (.if_icmp .ge 47, 3) := by decide +kernel
theorem qX0_passMinutes_31 : decode (mB mX0_passMinutes) 31 = .ok (.iload_n 2, 1) := by decide +kernel
theorem qX0_passMinutes_32 : decode (mB mX0_passMinutes) 32 = .ok (.aload_n 0, 1) := by decide +kernel
theorem qX0_passMinutes_33 : decode (mB mX0_passMinutes) 33 = .ok (.getfield 26, 3) := by decide +kernel
theorem qX0_passMinutes_36 : decode (mB mX0_passMinutes) 36 = .ok (.iload 4, 2) := by decide +kernel
theorem qX0_passMinutes_38 : decode (mB mX0_passMinutes) 38 = .ok (.aaload, 1) := by decide +kernel
theorem qX0_passMinutes_39 : decode (mB mX0_passMinutes) 39 = .ok (.aload_n 0, 1) := by decide +kernel
theorem qX0_passMinutes_40 : decode (mB mX0_passMinutes) 40 = .ok (.getfield 55, 3) := by decide +kernel
theorem qX0_passMinutes_43 : decode (mB mX0_passMinutes) 43 = .ok (.aload_n 0, 1) := by decide +kernel
theorem qX0_passMinutes_44 : decode (mB mX0_passMinutes) 44 = .ok (.aload_n 0, 1) := by decide +kernel
theorem qX0_passMinutes_45 : decode (mB mX0_passMinutes) 45 = .ok (.getfield 26, 3) := by decide +kernel
theorem qX0_passMinutes_48 : decode (mB mX0_passMinutes) 48 = .ok (.iload 4, 2) := by decide +kernel
theorem qX0_passMinutes_50 : decode (mB mX0_passMinutes) 50 = .ok (.aaload, 1) := by decide +kernel
theorem qX0_passMinutes_51 : decode (mB mX0_passMinutes) 51 = .ok (.invokevirtual 85, 3) := by decide +kernel
theorem qX0_passMinutes_54 : decode (mB mX0_passMinutes) 54 = .ok (.aload_n 0, 1) := by decide +kernel
theorem qX0_passMinutes_55 : decode (mB mX0_passMinutes) 55 = .ok (.getfield 33, 3) := by decide +kernel
theorem qX0_passMinutes_58 : decode (mB mX0_passMinutes) 58 = .ok (.invokevirtual 111, 3) := by decide +kernel
theorem qX0_passMinutes_61 : decode (mB mX0_passMinutes) 61 = .ok (.iadd, 1) := by decide +kernel
theorem qX0_passMinutes_62 : decode (mB mX0_passMinutes) 62 = .ok (.istore_n 2, 1) := by decide +kernel
theorem qX0_passMinutes_63 : decode (mB mX0_passMinutes) 63 = .ok (.aload_n 0, 1) := by decide +kernel
theorem qX0_passMinutes_64 : decode (mB mX0_passMinutes) 64 = .ok (.iload 4, 2) := by decide +kernel
theorem qX0_passMinutes_66 : decode (mB mX0_passMinutes) 66 = .ok (.invokevirtual 115, 3) := by decide +kernel
theorem qX0_passMinutes_69 : decode (mB mX0_passMinutes) 69 = .ok (.iinc 4 1, 3) := by decide +kernel
theorem qX0_passMinutes_72 : decode (mB mX0_passMinutes) 72 = .ok (.goto (-50), 3) := by decide +kernel
theorem qX0_passMinutes_75 : decode (mB mX0_passMinutes) 75 = .ok (.iinc 3 1, 3) := by decide +kernel
theorem qX0_passMinutes_78 : decode (mB mX0_passMinutes) 78 = .ok (.goto (-74), 3) := by decide +kernel
theorem qX0_passMinutes_81 : decode (mB mX0_passMinutes) 81 = .ok (.iload_n 2, 1) := by decide +kernel
theorem qX0_passMinutes_82 : decode (mB mX0_passMinutes) 82 = .ok (.ireturn, 1) := by decide +kernel
theorem qX0_tenthsAround_0 : decode (mB mX0_tenthsAround) 0 = .ok (.aload_n 0, 1) := by decide +kernel
theorem qX0_tenthsAround_1 : decode (mB mX0_tenthsAround) 1 = .ok (.getfield 37, 3) := by decide +kernel
theorem qX0_tenthsAround_4 : decode (mB mX0_tenthsAround) 4 = .ok (.aload_n 1, 1) := by decide +kernel
theorem qX0_tenthsAround_5 : decode (mB mX0_tenthsAround) 5 = .ok (.getfield 76, 3) := by decide +kernel
theorem qX0_tenthsAround_8 : decode (mB mX0_tenthsAround) 8 = .ok (.if_icmp .ne 7, 3) := by decide +kernel
theorem qX0_tenthsAround_11 : decode (mB mX0_tenthsAround) 11 = .ok (.sipush 370, 3) := by decide +kernel
theorem qX0_tenthsAround_14 : decode (mB mX0_tenthsAround) 14 = .ok (.ireturn, 1) := by decide +kernel
theorem qX0_tenthsAround_15 : decode (mB mX0_tenthsAround) 15 = .ok (.aload_n 1, 1) := by decide +kernel
theorem qX0_tenthsAround_16 : decode (mB mX0_tenthsAround) 16 = .ok (.getfield 79, 3) := by decide +kernel
theorem qX0_tenthsAround_19 : decode (mB mX0_tenthsAround) 19 = .ok (.ifCond .lt 27, 3) := by decide +kernel
theorem qX0_tenthsAround_22 : decode (mB mX0_tenthsAround) 22 = .ok (.aload_n 1, 1) := by decide +kernel
theorem qX0_tenthsAround_23 : decode (mB mX0_tenthsAround) 23 = .ok (.getfield 79, 3) := by decide +kernel
theorem qX0_tenthsAround_26 : decode (mB mX0_tenthsAround) 26 = .ok (.aload_n 0, 1) := by decide +kernel
theorem qX0_tenthsAround_27 : decode (mB mX0_tenthsAround) 27 = .ok (.getfield 49, 3) := by decide +kernel
theorem qX0_tenthsAround_30 : decode (mB mX0_tenthsAround) 30 = .ok (.if_icmp .ge 16, 3) := by decide +kernel
theorem qX0_tenthsAround_33 : decode (mB mX0_tenthsAround) 33 = .ok (.bipush 10, 2) := by decide +kernel
theorem qX0_tenthsAround_35 : decode (mB mX0_tenthsAround) 35 = .ok (.aload_n 0, 1) := by decide +kernel
theorem qX0_tenthsAround_36 : decode (mB mX0_tenthsAround) 36 = .ok (.getfield 21, 3) := by decide +kernel
theorem qX0_tenthsAround_39 : decode (mB mX0_tenthsAround) 39 = .ok (.aload_n 1, 1) := by decide +kernel
theorem qX0_tenthsAround_40 : decode (mB mX0_tenthsAround) 40 = .ok (.getfield 79, 3) := by decide +kernel
theorem qX0_tenthsAround_43 : decode (mB mX0_tenthsAround) 43 = .ok (.iaload, 1) := by decide +kernel
theorem qX0_tenthsAround_44 : decode (mB mX0_tenthsAround) 44 = .ok (.imul, 1) := by decide +kernel
theorem qX0_tenthsAround_45 : decode (mB mX0_tenthsAround) 45 = .ok (.ireturn, 1) := by decide +kernel
theorem qX0_tenthsAround_46 : decode (mB mX0_tenthsAround) 46 = .ok (.bipush 10, 2) := by decide +kernel
theorem qX0_tenthsAround_48 : decode (mB mX0_tenthsAround) 48 = .ok (.aload_n 0, 1) := by decide +kernel
theorem qX0_tenthsAround_49 : decode (mB mX0_tenthsAround) 49 = .ok (.getfield 58, 3) := by decide +kernel
theorem qX0_tenthsAround_52 : decode (mB mX0_tenthsAround) 52 = .ok (.imul, 1) := by decide +kernel
theorem qX0_tenthsAround_53 : decode (mB mX0_tenthsAround) 53 = .ok (.ireturn, 1) := by decide +kernel
theorem qX0_whyNotDip_0 : decode (mB mX0_whyNotDip) 0 = .ok (.aload_n 1, 1) := by decide +kernel
theorem qX0_whyNotDip_1 : decode (mB mX0_whyNotDip) 1 = .ok (.getfield 79, 3) := by decide +kernel
theorem qX0_whyNotDip_4 : decode (mB mX0_whyNotDip) 4 = .ok (.iload_n 2, 1) := by decide +kernel
theorem qX0_whyNotDip_5 : decode (mB mX0_whyNotDip) 5 = .ok (.if_icmp .ne 5, 3) := by decide +kernel
theorem qX0_whyNotDip_8 : decode (mB mX0_whyNotDip) 8 = .ok (.iconst 1, 1) := by decide +kernel
theorem qX0_whyNotDip_9 : decode (mB mX0_whyNotDip) 9 = .ok (.ireturn, 1) := by decide +kernel
theorem qX0_whyNotDip_10 : decode (mB mX0_whyNotDip) 10 = .ok (.aload_n 0, 1) := by decide +kernel
theorem qX0_whyNotDip_11 : decode (mB mX0_whyNotDip) 11 = .ok (.getfield 37, 3) := by decide +kernel
theorem qX0_whyNotDip_14 : decode (mB mX0_whyNotDip) 14 = .ok (.aload_n 1, 1) := by decide +kernel
theorem qX0_whyNotDip_15 : decode (mB mX0_whyNotDip) 15 = .ok (.getfield 76, 3) := by decide +kernel
theorem qX0_whyNotDip_18 : decode (mB mX0_whyNotDip) 18 = .ok (.if_icmp .ne 7, 3) := by decide +kernel
theorem qX0_whyNotDip_21 : decode (mB mX0_whyNotDip) 21 = .ok (.iconst 2, 1) := by decide +kernel
theorem qX0_whyNotDip_22 : decode (mB mX0_whyNotDip) 22 = .ok (.goto 4, 3) := by decide +kernel
theorem qX0_whyNotDip_25 : decode (mB mX0_whyNotDip) 25 = .ok (.iconst 0, 1) := by decide +kernel
theorem qX0_whyNotDip_26 : decode (mB mX0_whyNotDip) 26 = .ok (.ireturn, 1) := by decide +kernel
theorem qX0_whyNotMark_0 : decode (mB mX0_whyNotMark) 0 = .ok (.aload_n 1, 1) := by decide +kernel
theorem qX0_whyNotMark_1 : decode (mB mX0_whyNotMark) 1 = .ok (.getfield 79, 3) := by decide +kernel
theorem qX0_whyNotMark_4 : decode (mB mX0_whyNotMark) 4 = .ok (.ifCond .lt 14, 3) := by decide +kernel
theorem qX0_whyNotMark_7 : decode (mB mX0_whyNotMark) 7 = .ok (.aload_n 1, 1) := by decide +kernel
theorem qX0_whyNotMark_8 : decode (mB mX0_whyNotMark) 8 = .ok (.getfield 79, 3) := by decide +kernel
theorem qX0_whyNotMark_11 : decode (mB mX0_whyNotMark) 11 = .ok (.aload_n 0, 1) := by decide +kernel
theorem qX0_whyNotMark_12 : decode (mB mX0_whyNotMark) 12 = .ok (.getfield 49, 3) := by decide +kernel
theorem qX0_whyNotMark_15 : decode (mB mX0_whyNotMark) 15 = .ok (.if_icmp .lt 5, 3) := by decide +kernel
theorem qX0_whyNotMark_18 : decode (mB mX0_whyNotMark) 18 = .ok (.iconst 1, 1) := by decide +kernel
theorem qX0_whyNotMark_19 : decode (mB mX0_whyNotMark) 19 = .ok (.ireturn, 1) := by decide +kernel
theorem qX0_whyNotMark_20 : decode (mB mX0_whyNotMark) 20 = .ok (.aload_n 0, 1) := by decide +kernel
theorem qX0_whyNotMark_21 : decode (mB mX0_whyNotMark) 21 = .ok (.getfield 37, 3) := by decide +kernel
theorem qX0_whyNotMark_24 : decode (mB mX0_whyNotMark) 24 = .ok (.aload_n 1, 1) := by decide +kernel
theorem qX0_whyNotMark_25 : decode (mB mX0_whyNotMark) 25 = .ok (.getfield 76, 3) := by decide +kernel
theorem qX0_whyNotMark_28 : decode (mB mX0_whyNotMark) 28 = .ok (.if_icmp .eq 11, 3) := by decide +kernel
theorem qX0_whyNotMark_31 : decode (mB mX0_whyNotMark) 31 = .ok (.aload_n 0, 1) := by decide +kernel
theorem qX0_whyNotMark_32 : decode (mB mX0_whyNotMark) 32 = .ok (.aload_n 1, 1) := by decide +kernel
theorem qX0_whyNotMark_33 : decode (mB mX0_whyNotMark) 33 = .ok (.invokevirtual 89, 3) := by decide +kernel
theorem qX0_whyNotMark_36 : decode (mB mX0_whyNotMark) 36 = .ok (.ifCond .ne 5, 3) := by decide +kernel
theorem qX0_whyNotMark_39 : decode (mB mX0_whyNotMark) 39 = .ok (.iconst 2, 1) := by decide +kernel
theorem qX0_whyNotMark_40 : decode (mB mX0_whyNotMark) 40 = .ok (.ireturn, 1) := by decide +kernel
theorem qX0_whyNotMark_41 : decode (mB mX0_whyNotMark) 41 = .ok (.aload_n 1, 1) := by decide +kernel
theorem qX0_whyNotMark_42 : decode (mB mX0_whyNotMark) 42 = .ok (.aload_n 0, 1) := by decide +kernel
theorem qX0_whyNotMark_43 : decode (mB mX0_whyNotMark) 43 = .ok (.getfield 21, 3) := by decide +kernel
theorem qX0_whyNotMark_46 : decode (mB mX0_whyNotMark) 46 = .ok (.aload_n 1, 1) := by decide +kernel
theorem qX0_whyNotMark_47 : decode (mB mX0_whyNotMark) 47 = .ok (.getfield 79, 3) := by decide +kernel
theorem qX0_whyNotMark_50 : decode (mB mX0_whyNotMark) 50 = .ok (.iaload, 1) := by decide +kernel
theorem qX0_whyNotMark_51 : decode (mB mX0_whyNotMark) 51 = .ok (.invokevirtual 93, 3) := by decide +kernel
theorem qX0_whyNotMark_54 : decode (mB mX0_whyNotMark) 54 = .ok (.ifCond .eq 5, 3) := by decide +kernel
theorem qX0_whyNotMark_57 : decode (mB mX0_whyNotMark) 57 = .ok (.iconst 3, 1) := by decide +kernel
theorem qX0_whyNotMark_58 : decode (mB mX0_whyNotMark) 58 = .ok (.ireturn, 1) := by decide +kernel
theorem qX0_whyNotMark_59 : decode (mB mX0_whyNotMark) 59 = .ok (.aload_n 1, 1) := by decide +kernel
theorem qX0_whyNotMark_60 : decode (mB mX0_whyNotMark) 60 = .ok (.aload_n 1, 1) := by decide +kernel
theorem qX0_whyNotMark_61 : decode (mB mX0_whyNotMark) 61 = .ok (.invokevirtual 97, 3) := by decide +kernel
theorem qX0_whyNotMark_64 : decode (mB mX0_whyNotMark) 64 = .ok (.invokevirtual 101, 3) := by decide +kernel
theorem qX0_whyNotMark_67 : decode (mB mX0_whyNotMark) 67 = .ok (.ifCond .eq 5, 3) := by decide +kernel
theorem qX0_whyNotMark_70 : decode (mB mX0_whyNotMark) 70 = .ok (.iconst 4, 1) := by decide +kernel
theorem qX0_whyNotMark_71 : decode (mB mX0_whyNotMark) 71 = .ok (.ireturn, 1) := by decide +kernel
theorem qX0_whyNotMark_72 : decode (mB mX0_whyNotMark) 72 = .ok (.aload_n 1, 1) := by decide +kernel
theorem qX0_whyNotMark_73 : decode (mB mX0_whyNotMark) 73 = .ok (.getfield 104, 3) := by decide +kernel
theorem qX0_whyNotMark_76 : decode (mB mX0_whyNotMark) 76 = .ok (.bipush 6, 2) := by decide +kernel
theorem qX0_whyNotMark_78 : decode (mB mX0_whyNotMark) 78 = .ok (.if_icmp .lt 7, 3) := by decide +kernel
theorem qX0_whyNotMark_81 : decode (mB mX0_whyNotMark) 81 = .ok (.iconst 5, 1) := by decide +kernel
theorem qX0_whyNotMark_82 : decode (mB mX0_whyNotMark) 82 = .ok (.goto 4, 3) := by decide +kernel
theorem qX0_whyNotMark_85 : decode (mB mX0_whyNotMark) 85 = .ok (.iconst 0, 1) := by decide +kernel
theorem qX0_whyNotMark_86 : decode (mB mX0_whyNotMark) 86 = .ok (.ireturn, 1) := by decide +kernel
theorem qX1_atWord_0 : decode (mB mX1_atWord) 0 = .ok (.aload_n 0, 1) := by decide +kernel
theorem qX1_atWord_1 : decode (mB mX1_atWord) 1 = .ok (.getfield 57, 3) := by decide +kernel
theorem qX1_atWord_4 : decode (mB mX1_atWord) 4 = .ok (.iconst 1, 1) := by decide +kernel
theorem qX1_atWord_5 : decode (mB mX1_atWord) 5 = .ok (.if_icmp .ne 19, 3) := by decide +kernel
theorem qX1_atWord_8 : decode (mB mX1_atWord) 8 = .ok (.aload_n 0, 1) := by decide +kernel
theorem qX1_atWord_9 : decode (mB mX1_atWord) 9 = .ok (.getfield 48, 3) := by decide +kernel
theorem qX1_atWord_12 : decode (mB mX1_atWord) 12 = .ok (.aload_n 0, 1) := by decide +kernel
theorem qX1_atWord_13 : decode (mB mX1_atWord) 13 = .ok (.getfield 242, 3) := by decide +kernel
theorem qX1_atWord_16 : decode (mB mX1_atWord) 16 = .ok (.isub, 1) := by decide +kernel
theorem qX1_atWord_17 : decode (mB mX1_atWord) 17 = .ok (.aload_n 1, 1) := by decide +kernel
theorem qX1_atWord_18 : decode (mB mX1_atWord) 18 = .ok (.invokevirtual 33, 3) := by decide +kernel
theorem qX1_atWord_21 : decode (mB mX1_atWord) 21 = .ok (.if_icmp .eq 5, 3) := by decide +kernel
theorem qX1_atWord_24 : decode (mB mX1_atWord) 24 = .ok (.iconst 0, 1) := by decide +kernel
theorem qX1_atWord_25 : decode (mB mX1_atWord) 25 = .ok (.ireturn, 1) := by decide +kernel
theorem qX1_atWord_26 : decode (mB mX1_atWord) 26 = .ok (.iconst 0, 1) := by decide +kernel
theorem qX1_atWord_27 : decode (mB mX1_atWord) 27 = .ok (.istore_n 2, 1) := by decide +kernel
theorem qX1_atWord_28 : decode (mB mX1_atWord) 28 = .ok (.iload_n 2, 1) := by decide +kernel
theorem qX1_atWord_29 : decode (mB mX1_atWord) 29 = .ok (.aload_n 1, 1) := by decide +kernel
theorem qX1_atWord_30 : decode (mB mX1_atWord) 30 = .ok (.invokevirtual 33, 3) := by decide +kernel
theorem qX1_atWord_33 : decode (mB mX1_atWord) 33 = .ok (.if_icmp .ge 30, 3) := by decide +kernel
theorem qX1_atWord_36 : decode (mB mX1_atWord) 36 = .ok (.aload_n 0, 1) := by decide +kernel
theorem qX1_atWord_37 : decode (mB mX1_atWord) 37 = .ok (.getfield 11, 3) := by decide +kernel
theorem qX1_atWord_40 : decode (mB mX1_atWord) 40 = .ok (.aload_n 0, 1) := by decide +kernel
theorem qX1_atWord_41 : decode (mB mX1_atWord) 41 = .ok (.getfield 242, 3) := by decide +kernel
theorem qX1_atWord_44 : decode (mB mX1_atWord) 44 = .ok (.iload_n 2, 1) := by decide +kernel
theorem qX1_atWord_45 : decode (mB mX1_atWord) 45 = .ok (.iadd, 1) := by decide +kernel
theorem qX1_atWord_46 : decode (mB mX1_atWord) 46 = .ok (.baload, 1) := by decide +kernel
theorem qX1_atWord_47 : decode (mB mX1_atWord) 47 = .ok (.aload_n 1, 1) := by decide +kernel
theorem qX1_atWord_48 : decode (mB mX1_atWord) 48 = .ok (.iload_n 2, 1) := by decide +kernel
theorem qX1_atWord_49 : decode (mB mX1_atWord) 49 = .ok (.invokevirtual 38, 3) := by decide +kernel
theorem qX1_atWord_52 : decode (mB mX1_atWord) 52 = .ok (.if_icmp .eq 5, 3) := by decide +kernel
theorem qX1_atWord_55 : decode (mB mX1_atWord) 55 = .ok (.iconst 0, 1) := by decide +kernel
theorem qX1_atWord_56 : decode (mB mX1_atWord) 56 = .ok (.ireturn, 1) := by decide +kernel
theorem qX1_atWord_57 : decode (mB mX1_atWord) 57 = .ok (.iinc 2 1, 3) := by decide +kernel
theorem qX1_atWord_60 : decode (mB mX1_atWord) 60 = .ok (.goto (-32), 3) := by decide +kernel
theorem qX1_atWord_63 : decode (mB mX1_atWord) 63 = .ok (.iconst 1, 1) := by decide +kernel
theorem qX1_atWord_64 : decode (mB mX1_atWord) 64 = .ok (.ireturn, 1) := by decide +kernel
theorem qX1_fail_0 : decode (mB mX1_fail) 0 = .ok (.aload_n 0, 1) := by decide +kernel
theorem qX1_fail_1 : decode (mB mX1_fail) 1 = .ok (.getfield 45, 3) := by decide +kernel
theorem qX1_fail_4 : decode (mB mX1_fail) 4 = .ok (.ifCond .ne 16, 3) := by decide +kernel
theorem qX1_fail_7 : decode (mB mX1_fail) 7 = .ok (.aload_n 0, 1) := by decide +kernel
theorem qX1_fail_8 : decode (mB mX1_fail) 8 = .ok (.iload_n 1, 1) := by decide +kernel
theorem qX1_fail_9 : decode (mB mX1_fail) 9 = .ok (.putfield 45, 3) := by decide +kernel
theorem qX1_fail_12 : decode (mB mX1_fail) 12 = .ok (.aload_n 0, 1) := by decide +kernel
theorem qX1_fail_13 : decode (mB mX1_fail) 13 = .ok (.aload_n 0, 1) := by decide +kernel
theorem qX1_fail_14 : decode (mB mX1_fail) 14 = .ok (.getfield 242, 3) := by decide +kernel
theorem qX1_fail_17 : decode (mB mX1_fail) 17 = .ok (.putfield 22, 3) := by decide +kernel
theorem qX1_fail_20 : decode (mB mX1_fail) 20 = .ok (.return_, 1) := by decide +kernel
theorem qX1_indexOfName_0 : decode (mB mX1_indexOfName) 0 = .ok (.iconst 0, 1) := by decide +kernel
theorem qX1_indexOfName_1 : decode (mB mX1_indexOfName) 1 = .ok (.istore_n 3, 1) := by decide +kernel
theorem qX1_indexOfName_2 : decode (mB mX1_indexOfName) 2 = .ok (.iload_n 3, 1) := by decide +kernel
theorem qX1_indexOfName_3 : decode (mB mX1_indexOfName) 3 = .ok (.iload_n 1, 1) := by decide +kernel
theorem qX1_indexOfName_4 : decode (mB mX1_indexOfName) 4 = .ok (.if_icmp .ge 24, 3) := by decide +kernel
theorem qX1_indexOfName_7 : decode (mB mX1_indexOfName) 7 = .ok (.iload_n 3, 1) := by decide +kernel
theorem qX1_indexOfName_8 : decode (mB mX1_indexOfName) 8 = .ok (.aload_n 0, 1) := by decide +kernel
theorem qX1_indexOfName_9 : decode (mB mX1_indexOfName) 9 = .ok (.arraylength, 1) := by decide +kernel
theorem qX1_indexOfName_10 : decode (mB mX1_indexOfName) 10 = .ok (.if_icmp .ge 18, 3) := by decide +kernel
theorem qX1_indexOfName_13 : decode (mB mX1_indexOfName) 13 = .ok (.aload_n 0, 1) := by decide +kernel
theorem qX1_indexOfName_14 : decode (mB mX1_indexOfName) 14 = .ok (.iload_n 3, 1) := by decide +kernel
theorem qX1_indexOfName_15 : decode (mB mX1_indexOfName) 15 = .ok (.iaload, 1) := by decide +kernel
theorem qX1_indexOfName_16 : decode (mB mX1_indexOfName) 16 = .ok (.iload_n 2, 1) := by decide +kernel
theorem qX1_indexOfName_17 : decode (mB mX1_indexOfName) 17 = .ok (.if_icmp .ne 5, 3) := by decide +kernel
theorem qX1_indexOfName_20 : decode (mB mX1_indexOfName) 20 = .ok (.iload_n 3, 1) := by decide +kernel
theorem qX1_indexOfName_21 : decode (mB mX1_indexOfName) 21 = .ok (.ireturn, 1) := by decide +kernel
theorem qX1_indexOfName_22 : decode (mB mX1_indexOfName) 22 = .ok (.iinc 3 1, 3) := by decide +kernel
theorem qX1_indexOfName_25 : decode (mB mX1_indexOfName) 25 = .ok (.goto (-23), 3) := by decide +kernel
theorem qX1_indexOfName_28 : decode (mB mX1_indexOfName) 28 = .ok (.iconst (-1), 1) := by decide +kernel
theorem qX1_indexOfName_29 : decode (mB mX1_indexOfName) 29 = .ok (.ireturn, 1) := by decide +kernel
theorem qX1_init_0 : decode (mB mX1_init) 0 = .ok (.aload_n 0, 1) := by decide +kernel
theorem qX1_init_1 : decode (mB mX1_init) 1 = .ok (.invokespecial 3, 3) := by decide +kernel
theorem qX1_init_4 : decode (mB mX1_init) 4 = .ok (.aload_n 0, 1) := by decide +kernel
theorem qX1_init_5 : decode (mB mX1_init) 5 = .ok (.sipush 600, 3) := by decide +kernel
theorem qX1_init_8 : decode (mB mX1_init) 8 = .ok (.newarray .byte, 2) := by decide +kernel
theorem qX1_init_10 : decode (mB mX1_init) 10 = .ok (.putfield 11, 3) := by decide +kernel
theorem qX1_init_13 : decode (mB mX1_init) 13 = .ok (.aload_n 0, 1) := by decide +kernel
theorem qX1_init_14 : decode (mB mX1_init) 14 = .ok (.new 15, 3) := by decide +kernel
theorem qX1_init_17 : decode (mB mX1_init) 17 = .ok (.dup, 1) := by decide +kernel
theorem qX1_init_18 : decode (mB mX1_init) 18 = .ok (.invokespecial 17, 3) := by decide +kernel
theorem qX1_init_21 : decode (mB mX1_init) 21 = .ok (.putfield 18, 3) := by decide +kernel
theorem qX1_init_24 : decode (mB mX1_init) 24 = .ok (.aload_n 0, 1) := by decide +kernel
theorem qX1_init_25 : decode (mB mX1_init) 25 = .ok (.iconst (-1), 1) := by decide +kernel
theorem qX1_init_26 : decode (mB mX1_init) 26 = .ok (.putfield 22, 3) := by decide +kernel
theorem qX1_init_29 : decode (mB mX1_init) 29 = .ok (.return_, 1) := by decide +kernel
theorem qX1_kindOf_0 : decode (mB mX1_kindOf) 0 = .ok (.iload_n 0, 1) := by decide +kernel
theorem qX1_kindOf_1 : decode (mB mX1_kindOf) 1 = .ok (.bipush 97, 2) := by decide +kernel
theorem qX1_kindOf_3 : decode (mB mX1_kindOf) 3 = .ok (.if_icmp .lt 11, 3) := by decide +kernel
theorem qX1_kindOf_6 : decode (mB mX1_kindOf) 6 = .ok (.iload_n 0, 1) := by decide +kernel
theorem qX1_kindOf_7 : decode (mB mX1_kindOf) 7 = .ok (.bipush 122, 2) := by decide +kernel
theorem qX1_kindOf_9 : decode (mB mX1_kindOf) 9 = .ok (.if_icmp .gt 5, 3) := by decide +kernel
theorem qX1_kindOf_12 : decode (mB mX1_kindOf) 12 = .ok (.iconst 1, 1) := by decide +kernel
theorem qX1_kindOf_13 : decode (mB mX1_kindOf) 13 = .ok (.ireturn, 1) := by decide +kernel
theorem qX1_kindOf_14 : decode (mB mX1_kindOf) 14 = .ok (.iload_n 0, 1) := by decide +kernel
theorem qX1_kindOf_15 : decode (mB mX1_kindOf) 15 = .ok (.bipush 48, 2) := by decide +kernel
theorem qX1_kindOf_17 : decode (mB mX1_kindOf) 17 = .ok (.if_icmp .lt 11, 3) := by decide +kernel
theorem qX1_kindOf_20 : decode (mB mX1_kindOf) 20 = .ok (.iload_n 0, 1) := by decide +kernel
theorem qX1_kindOf_21 : decode (mB mX1_kindOf) 21 = .ok (.bipush 57, 2) := by decide +kernel
theorem qX1_kindOf_23 : decode (mB mX1_kindOf) 23 = .ok (.if_icmp .gt 5, 3) := by decide +kernel
theorem qX1_kindOf_26 : decode (mB mX1_kindOf) 26 = .ok (.iconst 2, 1) := by decide +kernel
theorem qX1_kindOf_27 : decode (mB mX1_kindOf) 27 = .ok (.ireturn, 1) := by decide +kernel
theorem qX1_kindOf_28 : decode (mB mX1_kindOf) 28 = .ok (.iload_n 0, 1) := by decide +kernel
theorem qX1_kindOf_29 : decode (mB mX1_kindOf) 29 = .ok (.bipush 45, 2) := by decide +kernel
theorem qX1_kindOf_31 : decode (mB mX1_kindOf) 31 = .ok (.if_icmp .ne 5, 3) := by decide +kernel
theorem qX1_kindOf_34 : decode (mB mX1_kindOf) 34 = .ok (.iconst 3, 1) := by decide +kernel
theorem qX1_kindOf_35 : decode (mB mX1_kindOf) 35 = .ok (.ireturn, 1) := by decide +kernel
theorem qX1_kindOf_36 : decode (mB mX1_kindOf) 36 = .ok (.iload_n 0, 1) := by decide +kernel
theorem qX1_kindOf_37 : decode (mB mX1_kindOf) 37 = .ok (.bipush 59, 2) := by decide +kernel
theorem qX1_kindOf_39 : decode (mB mX1_kindOf) 39 = .ok (.if_icmp .ne 7, 3) := by decide +kernel
theorem qX1_kindOf_42 : decode (mB mX1_kindOf) 42 = .ok (.iconst 4, 1) := by decide +kernel
theorem qX1_kindOf_43 : decode (mB mX1_kindOf) 43 = .ok (.goto 4, 3) := by decide +kernel
theorem qX1_kindOf_46 : decode (mB mX1_kindOf) 46 = .ok (.iconst 5, 1) := by decide +kernel
theorem qX1_kindOf_47 : decode (mB mX1_kindOf) 47 = .ok (.ireturn, 1) := by decide +kernel
theorem qX1_nextToken_0 : decode (mB mX1_nextToken) 0 = .ok (.aload_n 0, 1) := by decide +kernel
theorem qX1_nextToken_1 : decode (mB mX1_nextToken) 1 = .ok (.aload_n 0, 1) := by decide +kernel
theorem qX1_nextToken_2 : decode (mB mX1_nextToken) 2 = .ok (.getfield 48, 3) := by decide +kernel
theorem qX1_nextToken_5 : decode (mB mX1_nextToken) 5 = .ok (.putfield 242, 3) := by decide +kernel
theorem qX1_nextToken_8 : decode (mB mX1_nextToken) 8 = .ok (.aload_n 0, 1) := by decide +kernel
theorem qX1_nextToken_9 : decode (mB mX1_nextToken) 9 = .ok (.getfield 242, 3) := by decide +kernel
theorem qX1_nextToken_12 : decode (mB mX1_nextToken) 12 = .ok (.aload_n 0, 1) := by decide +kernel
theorem qX1_nextToken_13 : decode (mB mX1_nextToken) 13 = .ok (.getfield 26, 3) := by decide +kernel
theorem qX1_nextToken_16 : decode (mB mX1_nextToken) 16 = .ok (.if_icmp .ge 44, 3) := by decide +kernel
theorem qX1_nextToken_19 : decode (mB mX1_nextToken) 19 = .ok (.aload_n 0, 1) := by decide +kernel
theorem qX1_nextToken_20 : decode (mB mX1_nextToken) 20 = .ok (.getfield 11, 3) := by decide +kernel
theorem qX1_nextToken_23 : decode (mB mX1_nextToken) 23 = .ok (.aload_n 0, 1) := by decide +kernel
theorem qX1_nextToken_24 : decode (mB mX1_nextToken) 24 = .ok (.getfield 242, 3) := by decide +kernel
theorem qX1_nextToken_27 : decode (mB mX1_nextToken) 27 = .ok (.baload, 1) := by decide +kernel
theorem qX1_nextToken_28 : decode (mB mX1_nextToken) 28 = .ok (.bipush 32, 2) := by decide +kernel
theorem qX1_nextToken_30 : decode (mB mX1_nextToken) 30 = .ok (.if_icmp .eq 17, 3) := by decide +kernel
theorem qX1_nextToken_33 : decode (mB mX1_nextToken) 33 = .ok (.aload_n 0, 1) := by decide +kernel
theorem qX1_nextToken_34 : decode (mB mX1_nextToken) 34 = .ok (.getfield 11, 3) := by decide +kernel
theorem qX1_nextToken_37 : decode (mB mX1_nextToken) 37 = .ok (.aload_n 0, 1) := by decide +kernel
theorem qX1_nextToken_38 : decode (mB mX1_nextToken) 38 = .ok (.getfield 242, 3) := by decide +kernel
theorem qX1_nextToken_41 : decode (mB mX1_nextToken) 41 = .ok (.baload, 1) := by decide +kernel
theorem qX1_nextToken_42 : decode (mB mX1_nextToken) 42 = .ok (.bipush 10, 2) := by decide +kernel
theorem qX1_nextToken_44 : decode (mB mX1_nextToken) 44 = .ok (.if_icmp .ne 16, 3) := by decide +kernel
theorem qX1_nextToken_47 : decode (mB mX1_nextToken) 47 = .ok (.aload_n 0, 1) := by decide +kernel
theorem qX1_nextToken_48 : decode (mB mX1_nextToken) 48 = .ok (.dup, 1) := by decide +kernel
theorem qX1_nextToken_49 : decode (mB mX1_nextToken) 49 = .ok (.getfield 242, 3) := by decide +kernel
theorem qX1_nextToken_52 : decode (mB mX1_nextToken) 52 = .ok (.iconst 1, 1) := by decide +kernel
theorem qX1_nextToken_53 : decode (mB mX1_nextToken) 53 = .ok (.iadd, 1) := by decide +kernel
theorem qX1_nextToken_54 : decode (mB mX1_nextToken) 54 = .ok (.putfield 242, 3) := by decide +kernel
theorem qX1_nextToken_57 : decode (mB mX1_nextToken) 57 = .ok (.goto (-49), 3) := by decide +kernel
theorem qX1_nextToken_60 : decode (mB mX1_nextToken) 60 = .ok (.aload_n 0, 1) := by decide +kernel
theorem qX1_nextToken_61 : decode (mB mX1_nextToken) 61 = .ok (.aload_n 0, 1) := by decide +kernel
theorem qX1_nextToken_62 : decode (mB mX1_nextToken) 62 = .ok (.getfield 242, 3) := by decide +kernel
theorem qX1_nextToken_65 : decode (mB mX1_nextToken) 65 = .ok (.putfield 48, 3) := by decide +kernel
theorem qX1_nextToken_68 : decode (mB mX1_nextToken) 68 = .ok (.aload_n 0, 1) := by decide +kernel
theorem qX1_nextToken_69 : decode (mB mX1_nextToken) 69 = .ok (.getfield 242, 3) := by decide +kernel
theorem qX1_nextToken_72 : decode (mB mX1_nextToken) 72 = .ok (.aload_n 0, 1) := by decide +kernel
theorem qX1_nextToken_73 : decode (mB mX1_nextToken) 73 = .ok (.getfield 26, 3) := by decide +kernel
theorem qX1_nextToken_76 : decode (mB mX1_nextToken) 76 = .ok (.if_icmp .lt 9, 3) := by decide +kernel
theorem qX1_nextToken_79 : decode (mB mX1_nextToken) 79 = .ok (.aload_n 0, 1) := by decide +kernel
theorem qX1_nextToken_80 : decode (mB mX1_nextToken) 80 = .ok (.iconst 0, 1) := by decide +kernel
theorem qX1_nextToken_81 : decode (mB mX1_nextToken) 81 = .ok (.putfield 57, 3) := by decide +kernel
theorem qX1_nextToken_84 : decode (mB mX1_nextToken) 84 = .ok (.return_, 1) := by decide +kernel
theorem qX1_nextToken_85 : decode (mB mX1_nextToken) 85 = .ok (.aload_n 0, 1) := by decide +kernel
theorem qX1_nextToken_86 : decode (mB mX1_nextToken) 86 = .ok (.aload_n 0, 1) := by decide +kernel
theorem qX1_nextToken_87 : decode (mB mX1_nextToken) 87 = .ok (.getfield 11, 3) := by decide +kernel
theorem qX1_nextToken_90 : decode (mB mX1_nextToken) 90 = .ok (.aload_n 0, 1) := by decide +kernel
theorem qX1_nextToken_91 : decode (mB mX1_nextToken) 91 = .ok (.getfield 242, 3) := by decide +kernel
theorem qX1_nextToken_94 : decode (mB mX1_nextToken) 94 = .ok (.baload, 1) := by decide +kernel
theorem qX1_nextToken_95 : decode (mB mX1_nextToken) 95 = .ok (.invokestatic 259, 3) := by decide +kernel
theorem qX1_nextToken_98 : decode (mB mX1_nextToken) 98 = .ok (.putfield 57, 3) := by decide +kernel
theorem qX1_nextToken_101 : decode (mB mX1_nextToken) 101 = .ok (.aload_n 0, 1) := by decide +kernel
theorem qX1_nextToken_102 : decode (mB mX1_nextToken) 102 = .ok (.dup, 1) := by decide +kernel
theorem qX1_nextToken_103 : decode (mB mX1_nextToken) 103 = .ok (.getfield 48, 3) := by decide +kernel
theorem qX1_nextToken_106 : decode (mB mX1_nextToken) 106 = .ok (.iconst 1, 1) := by decide +kernel
theorem qX1_nextToken_107 : decode (mB mX1_nextToken) 107 = .ok (.iadd, 1) := by decide +kernel
theorem qX1_nextToken_108 : decode (mB mX1_nextToken) 108 = .ok (.putfield 48, 3) := by decide +kernel
theorem qX1_nextToken_111 : decode (mB mX1_nextToken) 111 = .ok (.aload_n 0, 1) := by decide +kernel
theorem qX1_nextToken_112 : decode (mB mX1_nextToken) 112 = .ok (.getfield 57, 3) := by decide +kernel
theorem qX1_nextToken_115 : decode (mB mX1_nextToken) 115 = .ok (.iconst 1, 1) := by decide +kernel
theorem qX1_nextToken_116 : decode (mB mX1_nextToken) 116 = .ok (.if_icmp .eq 11, 3) := by decide +kernel
theorem qX1_nextToken_119 : decode (mB mX1_nextToken) 119 = .ok (.aload_n 0, 1) := by decide +kernel
theorem qX1_nextToken_120 : decode (mB mX1_nextToken) 120 = .ok (.getfield 57, 3) := by decide +kernel
theorem qX1_nextToken_123 : decode (mB mX1_nextToken) 123 = .ok (.iconst 2, 1) := by decide +kernel
theorem qX1_nextToken_124 : decode (mB mX1_nextToken) 124 = .ok (.if_icmp .ne 46, 3) := by decide +kernel
theorem qX1_nextToken_127 : decode (mB mX1_nextToken) 127 = .ok (.aload_n 0, 1) := by decide +kernel
theorem qX1_nextToken_128 : decode (mB mX1_nextToken) 128 = .ok (.getfield 48, 3) := by decide +kernel
theorem qX1_nextToken_131 : decode (mB mX1_nextToken) 131 = .ok (.aload_n 0, 1) := by decide +kernel
theorem qX1_nextToken_132 : decode (mB mX1_nextToken) 132 = .ok (.getfield 26, 3) := by decide +kernel
theorem qX1_nextToken_135 : decode (mB mX1_nextToken) 135 = .ok (.if_icmp .ge 35, 3) := by decide +kernel
theorem qX1_nextToken_138 : decode (mB mX1_nextToken) 138 = .ok (.aload_n 0, 1) := by decide +kernel
theorem qX1_nextToken_139 : decode (mB mX1_nextToken) 139 = .ok (.getfield 11, 3) := by decide +kernel
theorem qX1_nextToken_142 : decode (mB mX1_nextToken) 142 = .ok (.aload_n 0, 1) := by decide +kernel
theorem qX1_nextToken_143 : decode (mB mX1_nextToken) 143 = .ok (.getfield 48, 3) := by decide +kernel
theorem qX1_nextToken_146 : decode (mB mX1_nextToken) 146 = .ok (.baload, 1) := by decide +kernel
theorem qX1_nextToken_147 : decode (mB mX1_nextToken) 147 = .ok (.invokestatic 259, 3) := by decide +kernel
theorem qX1_nextToken_150 : decode (mB mX1_nextToken) 150 = .ok (.aload_n 0, 1) := by decide +kernel
theorem qX1_nextToken_151 : decode (mB mX1_nextToken) 151 = .ok (.getfield 57, 3) := by decide +kernel
theorem qX1_nextToken_154 : decode (mB mX1_nextToken) 154 = .ok (.if_icmp .ne 16, 3) := by decide +kernel
theorem qX1_nextToken_157 : decode (mB mX1_nextToken) 157 = .ok (.aload_n 0, 1) := by decide +kernel
theorem qX1_nextToken_158 : decode (mB mX1_nextToken) 158 = .ok (.dup, 1) := by decide +kernel
theorem qX1_nextToken_159 : decode (mB mX1_nextToken) 159 = .ok (.getfield 48, 3) := by decide +kernel
theorem qX1_nextToken_162 : decode (mB mX1_nextToken) 162 = .ok (.iconst 1, 1) := by decide +kernel
theorem qX1_nextToken_163 : decode (mB mX1_nextToken) 163 = .ok (.iadd, 1) := by decide +kernel
theorem qX1_nextToken_164 : decode (mB mX1_nextToken) 164 = .ok (.putfield 48, 3) := by decide +kernel
theorem qX1_nextToken_167 : decode (mB mX1_nextToken) 167 = .ok (.goto (-56), 3) := by decide +kernel
theorem qX1_nextToken_170 : decode (mB mX1_nextToken) 170 = .ok (.return_, 1) := by decide +kernel
theorem qX1_putByte_0 : decode (mB mX1_putByte) 0 = .ok (.aload_n 0, 1) := by decide +kernel
theorem qX1_putByte_1 : decode (mB mX1_putByte) 1 = .ok (.getfield 26, 3) := by decide +kernel
theorem qX1_putByte_4 : decode (mB mX1_putByte) 4 = .ok (.ifCond .lt 34, 3) := by decide +kernel
theorem qX1_putByte_7 : decode (mB mX1_putByte) 7 = .ok (.aload_n 0, 1) := by decide +kernel
theorem qX1_putByte_8 : decode (mB mX1_putByte) 8 = .ok (.getfield 26, 3) := by decide +kernel
theorem qX1_putByte_11 : decode (mB mX1_putByte) 11 = .ok (.sipush 600, 3) := by decide +kernel
theorem qX1_putByte_14 : decode (mB mX1_putByte) 14 = .ok (.if_icmp .ge 24, 3) := by decide +kernel
theorem qX1_putByte_17 : decode (mB mX1_putByte) 17 = .ok (.aload_n 0, 1) := by decide +kernel
theorem qX1_putByte_18 : decode (mB mX1_putByte) 18 = .ok (.getfield 11, 3) := by decide +kernel
theorem qX1_putByte_21 : decode (mB mX1_putByte) 21 = .ok (.aload_n 0, 1) := by decide +kernel
theorem qX1_putByte_22 : decode (mB mX1_putByte) 22 = .ok (.getfield 26, 3) := by decide +kernel
theorem qX1_putByte_25 : decode (mB mX1_putByte) 25 = .ok (.iload_n 1, 1) := by decide +kernel
theorem qX1_putByte_26 : decode (mB mX1_putByte) 26 = .ok (.i2b, 1) := by decide +kernel
theorem qX1_putByte_27 : decode (mB mX1_putByte) 27 = .ok (.bastore, 1) := by decide +kernel
theorem qX1_putByte_28 : decode (mB mX1_putByte) 28 = .ok (.aload_n 0, 1) := by decide +kernel
theorem qX1_putByte_29 : decode (mB mX1_putByte) 29 = .ok (.dup, 1) := by decide +kernel
theorem qX1_putByte_30 : decode (mB mX1_putByte) 30 = .ok (.getfield 26, 3) := by decide +kernel
theorem qX1_putByte_33 : decode (mB mX1_putByte) 33 = .ok (.iconst 1, 1) := by decide +kernel
theorem qX1_putByte_34 : decode (mB mX1_putByte) 34 = .ok (.iadd, 1) := by decide +kernel
theorem qX1_putByte_35 : decode (mB mX1_putByte) 35 = .ok (.putfield 26, 3) := by decide +kernel
theorem qX1_putByte_38 : decode (mB mX1_putByte) 38 = .ok (.return_, 1) := by decide +kernel
theorem qX1_putFourBytes_0 : decode (mB mX1_putFourBytes) 0 = .ok (.aload_n 0, 1) := by decide +kernel
theorem qX1_putFourBytes_1 : decode (mB mX1_putFourBytes) 1 = .ok (.iload_n 1, 1) := by decide +kernel
theorem qX1_putFourBytes_2 : decode (mB mX1_putFourBytes) 2 = .ok (.bipush 24, 2) := by decide +kernel
theorem qX1_putFourBytes_4 : decode (mB mX1_putFourBytes) 4 = .ok (.ishr, 1) := by decide +kernel
theorem qX1_putFourBytes_5 : decode (mB mX1_putFourBytes) 5 = .ok (.invokevirtual 29, 3) := by decide +kernel
theorem qX1_putFourBytes_8 : decode (mB mX1_putFourBytes) 8 = .ok (.aload_n 0, 1) := by decide +kernel
theorem qX1_putFourBytes_9 : decode (mB mX1_putFourBytes) 9 = .ok (.iload_n 1, 1) := by decide +kernel
theorem qX1_putFourBytes_10 : decode (mB mX1_putFourBytes) 10 = .ok (.bipush 16, 2) := by decide +kernel
theorem qX1_putFourBytes_12 : decode (mB mX1_putFourBytes) 12 = .ok (.ishr, 1) := by decide +kernel
theorem qX1_putFourBytes_13 : decode (mB mX1_putFourBytes) 13 = .ok (.invokevirtual 29, 3) := by decide +kernel
theorem qX1_putFourBytes_16 : decode (mB mX1_putFourBytes) 16 = .ok (.aload_n 0, 1) := by decide +kernel
theorem qX1_putFourBytes_17 : decode (mB mX1_putFourBytes) 17 = .ok (.iload_n 1, 1) := by decide +kernel
theorem qX1_putFourBytes_18 : decode (mB mX1_putFourBytes) 18 = .ok (.bipush 8, 2) := by decide +kernel
theorem qX1_putFourBytes_20 : decode (mB mX1_putFourBytes) 20 = .ok (.ishr, 1) := by decide +kernel
theorem qX1_putFourBytes_21 : decode (mB mX1_putFourBytes) 21 = .ok (.invokevirtual 29, 3) := by decide +kernel
theorem qX1_putFourBytes_24 : decode (mB mX1_putFourBytes) 24 = .ok (.aload_n 0, 1) := by decide +kernel
theorem qX1_putFourBytes_25 : decode (mB mX1_putFourBytes) 25 = .ok (.iload_n 1, 1) := by decide +kernel
theorem qX1_putFourBytes_26 : decode (mB mX1_putFourBytes) 26 = .ok (.invokevirtual 29, 3) := by decide +kernel
theorem qX1_putFourBytes_29 : decode (mB mX1_putFourBytes) 29 = .ok (.return_, 1) := by decide +kernel
theorem qX1_putText_0 : decode (mB mX1_putText) 0 = .ok (.iconst 0, 1) := by decide +kernel
theorem qX1_putText_1 : decode (mB mX1_putText) 1 = .ok (.istore_n 2, 1) := by decide +kernel
theorem qX1_putText_2 : decode (mB mX1_putText) 2 = .ok (.iload_n 2, 1) := by decide +kernel
theorem qX1_putText_3 : decode (mB mX1_putText) 3 = .ok (.aload_n 1, 1) := by decide +kernel
theorem qX1_putText_4 : decode (mB mX1_putText) 4 = .ok (.invokevirtual 33, 3) := by decide +kernel
theorem qX1_putText_7 : decode (mB mX1_putText) 7 = .ok (.if_icmp .ge 18, 3) := by decide +kernel
theorem qX1_putText_10 : decode (mB mX1_putText) 10 = .ok (.aload_n 0, 1) := by decide +kernel
theorem qX1_putText_11 : decode (mB mX1_putText) 11 = .ok (.aload_n 1, 1) := by decide +kernel
theorem qX1_putText_12 : decode (mB mX1_putText) 12 = .ok (.iload_n 2, 1) := by decide +kernel
theorem qX1_putText_13 : decode (mB mX1_putText) 13 = .ok (.invokevirtual 38, 3) := by decide +kernel
theorem qX1_putText_16 : decode (mB mX1_putText) 16 = .ok (.invokevirtual 29, 3) := by decide +kernel
theorem qX1_putText_19 : decode (mB mX1_putText) 19 = .ok (.iinc 2 1, 3) := by decide +kernel
theorem qX1_putText_22 : decode (mB mX1_putText) 22 = .ok (.goto (-20), 3) := by decide +kernel
theorem qX1_putText_25 : decode (mB mX1_putText) 25 = .ok (.return_, 1) := by decide +kernel
theorem qX1_readBath_0 : decode (mB mX1_readBath) 0 = .ok (.aload_n 0, 1) := by decide +kernel
theorem qX1_readBath_1 : decode (mB mX1_readBath) 1 = .ok (.invokevirtual 171, 3) := by decide +kernel
theorem qX1_readBath_4 : decode (mB mX1_readBath) 4 = .ok (.istore_n 1, 1) := by decide +kernel
theorem qX1_readBath_5 : decode (mB mX1_readBath) 5 = .ok (.aload_n 0, 1) := by decide +kernel
theorem qX1_readBath_6 : decode (mB mX1_readBath) 6 = .ok (.invokevirtual 76, 3) := by decide +kernel
theorem qX1_readBath_9 : decode (mB mX1_readBath) 9 = .ok (.istore_n 2, 1) := by decide +kernel
theorem qX1_readBath_10 : decode (mB mX1_readBath) 10 = .ok (.aload_n 0, 1) := by decide +kernel
theorem qX1_readBath_11 : decode (mB mX1_readBath) 11 = .ok (.iconst 0, 1) := by decide +kernel
theorem qX1_readBath_12 : decode (mB mX1_readBath) 12 = .ok (.invokevirtual 83, 3) := by decide +kernel
theorem qX1_readBath_15 : decode (mB mX1_readBath) 15 = .ok (.ifCond .eq 12, 3) := by decide +kernel
theorem qX1_readBath_18 : decode (mB mX1_readBath) 18 = .ok (.aload_n 0, 1) := by decide +kernel
theorem qX1_readBath_19 : decode (mB mX1_readBath) 19 = .ok (.getfield 18, 3) := by decide +kernel
theorem qX1_readBath_22 : decode (mB mX1_readBath) 22 = .ok (.iload_n 1, 1) := by decide +kernel
theorem qX1_readBath_23 : decode (mB mX1_readBath) 23 = .ok (.iload_n 2, 1) := by decide +kernel
theorem qX1_readBath_24 : decode (mB mX1_readBath) 24 = .ok (.invokevirtual 177, 3) := by decide +kernel
theorem qX1_readBath_27 : decode (mB mX1_readBath) 27 = .ok (.return_, 1) := by decide +kernel
theorem qX1_readDeed_0 : decode (mB mX1_readDeed) 0 = .ok (.aload_n 0, 1) := by decide +kernel
theorem qX1_readDeed_1 : decode (mB mX1_readDeed) 1 = .ok (.ldc 124, 2) := by decide +kernel
theorem qX1_readDeed_3 : decode (mB mX1_readDeed) 3 = .ok (.invokevirtual 72, 3) := by decide +kernel
theorem qX1_readDeed_6 : decode (mB mX1_readDeed) 6 = .ok (.ifCond .eq 11, 3) := by decide +kernel
theorem qX1_readDeed_9 : decode (mB mX1_readDeed) 9 = .ok (.aload_n 0, 1) := by decide +kernel
theorem qX1_readDeed_10 : decode (mB mX1_readDeed) 10 = .ok (.iconst 1, 1) := by decide +kernel
theorem qX1_readDeed_11 : decode (mB mX1_readDeed) 11 = .ok (.invokevirtual 126, 3) := by decide +kernel
theorem qX1_readDeed_14 : decode (mB mX1_readDeed) 14 = .ok (.goto 150, 3) := by decide +kernel
theorem qX1_readDeed_17 : decode (mB mX1_readDeed) 17 = .ok (.aload_n 0, 1) := by decide +kernel
theorem qX1_readDeed_18 : decode (mB mX1_readDeed) 18 = .ok (.ldc 130, 2) := by decide +kernel
theorem qX1_readDeed_20 : decode (mB mX1_readDeed) 20 = .ok (.invokevirtual 72, 3) := by decide +kernel
theorem qX1_readDeed_23 : decode (mB mX1_readDeed) 23 = .ok (.ifCond .eq 11, 3) := by decide +kernel
theorem qX1_readDeed_26 : decode (mB mX1_readDeed) 26 = .ok (.aload_n 0, 1) := by decide +kernel
theorem qX1_readDeed_27 : decode (mB mX1_readDeed) 27 = .ok (.iconst 0, 1) := by decide +kernel
theorem qX1_readDeed_28 : decode (mB mX1_readDeed) 28 = .ok (.invokevirtual 126, 3) := by decide +kernel
theorem qX1_readDeed_31 : decode (mB mX1_readDeed) 31 = .ok (.goto 133, 3) := by decide +kernel
theorem qX1_readDeed_34 : decode (mB mX1_readDeed) 34 = .ok (.aload_n 0, 1) := by decide +kernel
theorem qX1_readDeed_35 : decode (mB mX1_readDeed) 35 = .ok (.ldc 132, 2) := by decide +kernel
theorem qX1_readDeed_37 : decode (mB mX1_readDeed) 37 = .ok (.invokevirtual 72, 3) := by decide +kernel
theorem qX1_readDeed_40 : decode (mB mX1_readDeed) 40 = .ok (.ifCond .eq 10, 3) := by decide +kernel
theorem qX1_readDeed_43 : decode (mB mX1_readDeed) 43 = .ok (.aload_n 0, 1) := by decide +kernel
theorem qX1_readDeed_44 : decode (mB mX1_readDeed) 44 = .ok (.invokevirtual 134, 3) := by decide +kernel
theorem qX1_readDeed_47 : decode (mB mX1_readDeed) 47 = .ok (.goto 117, 3) := by decide +kernel
theorem qX1_readDeed_50 : decode (mB mX1_readDeed) 50 = .ok (.aload_n 0, 1) := by decide +kernel
theorem qX1_readDeed_51 : decode (mB mX1_readDeed) 51 = .ok (.ldc 137, 2) := by decide +kernel
theorem qX1_readDeed_53 : decode (mB mX1_readDeed) 53 = .ok (.invokevirtual 72, 3) := by decide +kernel
theorem qX1_readDeed_56 : decode (mB mX1_readDeed) 56 = .ok (.ifCond .eq 10, 3) := by decide +kernel
theorem qX1_readDeed_59 : decode (mB mX1_readDeed) 59 = .ok (.aload_n 0, 1) := by decide +kernel
theorem qX1_readDeed_60 : decode (mB mX1_readDeed) 60 = .ok (.invokevirtual 139, 3) := by decide +kernel
theorem qX1_readDeed_63 : decode (mB mX1_readDeed) 63 = .ok (.goto 101, 3) := by decide +kernel
theorem qX1_readDeed_66 : decode (mB mX1_readDeed) 66 = .ok (.aload_n 0, 1) := by decide +kernel
theorem qX1_readDeed_67 : decode (mB mX1_readDeed) 67 = .ok (.ldc 142, 2) := by decide +kernel
theorem qX1_readDeed_69 : decode (mB mX1_readDeed) 69 = .ok (.invokevirtual 72, 3) := by decide +kernel
theorem qX1_readDeed_72 : decode (mB mX1_readDeed) 72 = .ok (.ifCond .eq 10, 3) := by decide +kernel
theorem qX1_readDeed_75 : decode (mB mX1_readDeed) 75 = .ok (.aload_n 0, 1) := by decide +kernel
theorem qX1_readDeed_76 : decode (mB mX1_readDeed) 76 = .ok (.invokevirtual 144, 3) := by decide +kernel
theorem qX1_readDeed_79 : decode (mB mX1_readDeed) 79 = .ok (.goto 85, 3) := by decide +kernel
theorem qX1_readDeed_82 : decode (mB mX1_readDeed) 82 = .ok (.aload_n 0, 1) := by decide +kernel
theorem qX1_readDeed_83 : decode (mB mX1_readDeed) 83 = .ok (.ldc 147, 2) := by decide +kernel
theorem qX1_readDeed_85 : decode (mB mX1_readDeed) 85 = .ok (.invokevirtual 72, 3) := by decide +kernel
theorem qX1_readDeed_88 : decode (mB mX1_readDeed) 88 = .ok (.ifCond .eq 10, 3) := by decide +kernel
theorem qX1_readDeed_91 : decode (mB mX1_readDeed) 91 = .ok (.aload_n 0, 1) := by decide +kernel
theorem qX1_readDeed_92 : decode (mB mX1_readDeed) 92 = .ok (.invokevirtual 149, 3) := by decide +kernel
theorem qX1_readDeed_95 : decode (mB mX1_readDeed) 95 = .ok (.goto 69, 3) := by decide +kernel
theorem qX1_readDeed_98 : decode (mB mX1_readDeed) 98 = .ok (.aload_n 0, 1) := by decide +kernel
theorem qX1_readDeed_99 : decode (mB mX1_readDeed) 99 = .ok (.ldc 152, 2) := by decide +kernel
theorem qX1_readDeed_101 : decode (mB mX1_readDeed) 101 = .ok (.invokevirtual 72, 3) := by decide +kernel
theorem qX1_readDeed_104 : decode (mB mX1_readDeed) 104 = .ok (.ifCond .eq 10, 3) := by decide +kernel
theorem qX1_readDeed_107 : decode (mB mX1_readDeed) 107 = .ok (.aload_n 0, 1) := by decide +kernel
theorem qX1_readDeed_108 : decode (mB mX1_readDeed) 108 = .ok (.invokevirtual 154, 3) := by decide +kernel
theorem qX1_readDeed_111 : decode (mB mX1_readDeed) 111 = .ok (.goto 53, 3) := by decide +kernel
theorem qX1_readDeed_114 : decode (mB mX1_readDeed) 114 = .ok (.aload_n 0, 1) := by decide +kernel
theorem qX1_readDeed_115 : decode (mB mX1_readDeed) 115 = .ok (.ldc 157, 2) := by decide +kernel
theorem qX1_readDeed_117 : decode (mB mX1_readDeed) 117 = .ok (.invokevirtual 72, 3) := by decide +kernel
theorem qX1_readDeed_120 : decode (mB mX1_readDeed) 120 = .ok (.ifCond .eq 10, 3) := by decide +kernel
theorem qX1_readDeed_123 : decode (mB mX1_readDeed) 123 = .ok (.aload_n 0, 1) := by decide +kernel
theorem qX1_readDeed_124 : decode (mB mX1_readDeed) 124 = .ok (.invokevirtual 159, 3) := by decide +kernel
theorem qX1_readDeed_127 : decode (mB mX1_readDeed) 127 = .ok (.goto 37, 3) := by decide +kernel
theorem qX1_readDeed_130 : decode (mB mX1_readDeed) 130 = .ok (.aload_n 0, 1) := by decide +kernel
theorem qX1_readDeed_131 : decode (mB mX1_readDeed) 131 = .ok (.ldc 162, 2) := by decide +kernel
theorem qX1_readDeed_133 : decode (mB mX1_readDeed) 133 = .ok (.invokevirtual 72, 3) := by decide +kernel
theorem qX1_readDeed_136 : decode (mB mX1_readDeed) 136 = .ok (.ifCond .eq 10, 3) := by decide +kernel
theorem qX1_readDeed_139 : decode (mB mX1_readDeed) 139 = .ok (.aload_n 0, 1) := by decide +kernel
theorem qX1_readDeed_140 : decode (mB mX1_readDeed) 140 = .ok (.invokevirtual 163, 3) := by decide +kernel
theorem qX1_readDeed_143 : decode (mB mX1_readDeed) 143 = .ok (.goto 21, 3) := by decide +kernel
theorem qX1_readDeed_146 : decode (mB mX1_readDeed) 146 = .ok (.aload_n 0, 1) := by decide +kernel
theorem qX1_readDeed_147 : decode (mB mX1_readDeed) 147 = .ok (.ldc 166, 2) := by decide +kernel
theorem qX1_readDeed_149 : decode (mB mX1_readDeed) 149 = .ok (.invokevirtual 72, 3) := by decide +kernel
theorem qX1_readDeed_152 : decode (mB mX1_readDeed) 152 = .ok (.ifCond .eq 10, 3) := by decide +kernel
theorem qX1_readDeed_155 : decode (mB mX1_readDeed) 155 = .ok (.aload_n 0, 1) := by decide +kernel
theorem qX1_readDeed_156 : decode (mB mX1_readDeed) 156 = .ok (.invokevirtual 168, 3) := by decide +kernel
theorem qX1_readDeed_159 : decode (mB mX1_readDeed) 159 = .ok (.goto 5, 3) := by decide +kernel
theorem qX1_readDeed_162 : decode (mB mX1_readDeed) 162 = .ok (.iconst 0, 1) := by decide +kernel
theorem qX1_readDeed_163 : decode (mB mX1_readDeed) 163 = .ok (.ireturn, 1) := by decide +kernel
theorem qX1_readDeed_164 : decode (mB mX1_readDeed) 164 = .ok (.iconst 1, 1) := by decide +kernel
theorem qX1_readDeed_165 : decode (mB mX1_readDeed) 165 = .ok (.ireturn, 1) := by decide +kernel
theorem qX1_readDescription_0 : decode (mB mX1_readDescription) 0 = .ok (.aload_n 0, 1) := by decide +kernel
theorem qX1_readDescription_1 : decode (mB mX1_readDescription) 1 = .ok (.ldc 93, 2) := by decide +kernel
theorem qX1_readDescription_3 : decode (mB mX1_readDescription) 3 = .ok (.invokevirtual 95, 3) := by decide +kernel
theorem qX1_readDescription_6 : decode (mB mX1_readDescription) 6 = .ok (.ifCond .eq 22, 3) := by decide +kernel
theorem qX1_readDescription_9 : decode (mB mX1_readDescription) 9 = .ok (.aload_n 0, 1) := by decide +kernel
theorem qX1_readDescription_10 : decode (mB mX1_readDescription) 10 = .ok (.aload_n 0, 1) := by decide +kernel
theorem qX1_readDescription_11 : decode (mB mX1_readDescription) 11 = .ok (.getfield 18, 3) := by decide +kernel
theorem qX1_readDescription_14 : decode (mB mX1_readDescription) 14 = .ok (.getfield 98, 3) := by decide +kernel
theorem qX1_readDescription_17 : decode (mB mX1_readDescription) 17 = .ok (.iconst 5, 1) := by decide +kernel
theorem qX1_readDescription_18 : decode (mB mX1_readDescription) 18 = .ok (.invokevirtual 101, 3) := by decide +kernel
theorem qX1_readDescription_21 : decode (mB mX1_readDescription) 21 = .ok (.aload_n 0, 1) := by decide +kernel
theorem qX1_readDescription_22 : decode (mB mX1_readDescription) 22 = .ok (.invokevirtual 105, 3) := by decide +kernel
theorem qX1_readDescription_25 : decode (mB mX1_readDescription) 25 = .ok (.goto 62, 3) := by decide +kernel
theorem qX1_readDescription_28 : decode (mB mX1_readDescription) 28 = .ok (.aload_n 0, 1) := by decide +kernel
theorem qX1_readDescription_29 : decode (mB mX1_readDescription) 29 = .ok (.ldc 108, 2) := by decide +kernel
theorem qX1_readDescription_31 : decode (mB mX1_readDescription) 31 = .ok (.invokevirtual 95, 3) := by decide +kernel
theorem qX1_readDescription_34 : decode (mB mX1_readDescription) 34 = .ok (.ifCond .eq 22, 3) := by decide +kernel
theorem qX1_readDescription_37 : decode (mB mX1_readDescription) 37 = .ok (.aload_n 0, 1) := by decide +kernel
theorem qX1_readDescription_38 : decode (mB mX1_readDescription) 38 = .ok (.aload_n 0, 1) := by decide +kernel
theorem qX1_readDescription_39 : decode (mB mX1_readDescription) 39 = .ok (.getfield 18, 3) := by decide +kernel
theorem qX1_readDescription_42 : decode (mB mX1_readDescription) 42 = .ok (.getfield 110, 3) := by decide +kernel
theorem qX1_readDescription_45 : decode (mB mX1_readDescription) 45 = .ok (.iconst 4, 1) := by decide +kernel
theorem qX1_readDescription_46 : decode (mB mX1_readDescription) 46 = .ok (.invokevirtual 101, 3) := by decide +kernel
theorem qX1_readDescription_49 : decode (mB mX1_readDescription) 49 = .ok (.aload_n 0, 1) := by decide +kernel
theorem qX1_readDescription_50 : decode (mB mX1_readDescription) 50 = .ok (.invokevirtual 113, 3) := by decide +kernel
theorem qX1_readDescription_53 : decode (mB mX1_readDescription) 53 = .ok (.goto 34, 3) := by decide +kernel
theorem qX1_readDescription_56 : decode (mB mX1_readDescription) 56 = .ok (.aload_n 0, 1) := by decide +kernel
theorem qX1_readDescription_57 : decode (mB mX1_readDescription) 57 = .ok (.ldc 116, 2) := by decide +kernel
theorem qX1_readDescription_59 : decode (mB mX1_readDescription) 59 = .ok (.invokevirtual 95, 3) := by decide +kernel
theorem qX1_readDescription_62 : decode (mB mX1_readDescription) 62 = .ok (.ifCond .eq 23, 3) := by decide +kernel
theorem qX1_readDescription_65 : decode (mB mX1_readDescription) 65 = .ok (.aload_n 0, 1) := by decide +kernel
theorem qX1_readDescription_66 : decode (mB mX1_readDescription) 66 = .ok (.aload_n 0, 1) := by decide +kernel
theorem qX1_readDescription_67 : decode (mB mX1_readDescription) 67 = .ok (.getfield 18, 3) := by decide +kernel
theorem qX1_readDescription_70 : decode (mB mX1_readDescription) 70 = .ok (.getfield 118, 3) := by decide +kernel
theorem qX1_readDescription_73 : decode (mB mX1_readDescription) 73 = .ok (.bipush 8, 2) := by decide +kernel
theorem qX1_readDescription_75 : decode (mB mX1_readDescription) 75 = .ok (.invokevirtual 101, 3) := by decide +kernel
theorem qX1_readDescription_78 : decode (mB mX1_readDescription) 78 = .ok (.aload_n 0, 1) := by decide +kernel
theorem qX1_readDescription_79 : decode (mB mX1_readDescription) 79 = .ok (.invokevirtual 121, 3) := by decide +kernel
theorem qX1_readDescription_82 : decode (mB mX1_readDescription) 82 = .ok (.goto 5, 3) := by decide +kernel
theorem qX1_readDescription_85 : decode (mB mX1_readDescription) 85 = .ok (.iconst 0, 1) := by decide +kernel
theorem qX1_readDescription_86 : decode (mB mX1_readDescription) 86 = .ok (.ireturn, 1) := by decide +kernel
theorem qX1_readDescription_87 : decode (mB mX1_readDescription) 87 = .ok (.iconst 1, 1) := by decide +kernel
theorem qX1_readDescription_88 : decode (mB mX1_readDescription) 88 = .ok (.ireturn, 1) := by decide +kernel
theorem qX1_readDip_0 : decode (mB mX1_readDip) 0 = .ok (.aload_n 0, 1) := by decide +kernel
theorem qX1_readDip_1 : decode (mB mX1_readDip) 1 = .ok (.invokevirtual 192, 3) := by decide +kernel
theorem qX1_readDip_4 : decode (mB mX1_readDip) 4 = .ok (.astore_n 1, 1) := by decide +kernel
theorem qX1_readDip_5 : decode (mB mX1_readDip) 5 = .ok (.aload_n 0, 1) := by decide +kernel
theorem qX1_readDip_6 : decode (mB mX1_readDip) 6 = .ok (.aload_n 0, 1) := by decide +kernel
theorem qX1_readDip_7 : decode (mB mX1_readDip) 7 = .ok (.getfield 18, 3) := by decide +kernel
theorem qX1_readDip_10 : decode (mB mX1_readDip) 10 = .ok (.getfield 202, 3) := by decide +kernel
theorem qX1_readDip_13 : decode (mB mX1_readDip) 13 = .ok (.aload_n 0, 1) := by decide +kernel
theorem qX1_readDip_14 : decode (mB mX1_readDip) 14 = .ok (.getfield 18, 3) := by decide +kernel
theorem qX1_readDip_17 : decode (mB mX1_readDip) 17 = .ok (.getfield 110, 3) := by decide +kernel
theorem qX1_readDip_20 : decode (mB mX1_readDip) 20 = .ok (.invokevirtual 184, 3) := by decide +kernel
theorem qX1_readDip_23 : decode (mB mX1_readDip) 23 = .ok (.istore_n 2, 1) := by decide +kernel
theorem qX1_readDip_24 : decode (mB mX1_readDip) 24 = .ok (.aload_n 1, 1) := by decide +kernel
theorem qX1_readDip_25 : decode (mB mX1_readDip) 25 = .ok (.ifnull 19, 3) := by decide +kernel
theorem qX1_readDip_28 : decode (mB mX1_readDip) 28 = .ok (.aload_n 0, 1) := by decide +kernel
theorem qX1_readDip_29 : decode (mB mX1_readDip) 29 = .ok (.getfield 18, 3) := by decide +kernel
theorem qX1_readDip_32 : decode (mB mX1_readDip) 32 = .ok (.aload_n 1, 1) := by decide +kernel
theorem qX1_readDip_33 : decode (mB mX1_readDip) 33 = .ok (.iload_n 2, 1) := by decide +kernel
theorem qX1_readDip_34 : decode (mB mX1_readDip) 34 = .ok (.invokevirtual 205, 3) := by decide +kernel
theorem qX1_readDip_37 : decode (mB mX1_readDip) 37 = .ok (.ifCond .eq 7, 3) := by decide +kernel
theorem qX1_readDip_40 : decode (mB mX1_readDip) 40 = .ok (.iconst 1, 1) := by decide +kernel
theorem qX1_readDip_41 : decode (mB mX1_readDip) 41 = .ok (.goto 4, 3) := by decide +kernel
theorem qX1_readDip_44 : decode (mB mX1_readDip) 44 = .ok (.iconst 0, 1) := by decide +kernel
theorem qX1_readDip_45 : decode (mB mX1_readDip) 45 = .ok (.istore_n 3, 1) := by decide +kernel
theorem qX1_readDip_46 : decode (mB mX1_readDip) 46 = .ok (.aload_n 0, 1) := by decide +kernel
theorem qX1_readDip_47 : decode (mB mX1_readDip) 47 = .ok (.iload_n 3, 1) := by decide +kernel
theorem qX1_readDip_48 : decode (mB mX1_readDip) 48 = .ok (.invokevirtual 83, 3) := by decide +kernel
theorem qX1_readDip_51 : decode (mB mX1_readDip) 51 = .ok (.ifCond .eq 12, 3) := by decide +kernel
theorem qX1_readDip_54 : decode (mB mX1_readDip) 54 = .ok (.aload_n 1, 1) := by decide +kernel
theorem qX1_readDip_55 : decode (mB mX1_readDip) 55 = .ok (.ifnull 8, 3) := by decide +kernel
theorem qX1_readDip_58 : decode (mB mX1_readDip) 58 = .ok (.aload_n 1, 1) := by decide +kernel
theorem qX1_readDip_59 : decode (mB mX1_readDip) 59 = .ok (.iload_n 2, 1) := by decide +kernel
theorem qX1_readDip_60 : decode (mB mX1_readDip) 60 = .ok (.putfield 209, 3) := by decide +kernel
theorem qX1_readDip_63 : decode (mB mX1_readDip) 63 = .ok (.return_, 1) := by decide +kernel
theorem qX1_readErase_0 : decode (mB mX1_readErase) 0 = .ok (.aload_n 0, 1) := by decide +kernel
theorem qX1_readErase_1 : decode (mB mX1_readErase) 1 = .ok (.invokevirtual 192, 3) := by decide +kernel
theorem qX1_readErase_4 : decode (mB mX1_readErase) 4 = .ok (.astore_n 1, 1) := by decide +kernel
theorem qX1_readErase_5 : decode (mB mX1_readErase) 5 = .ok (.aload_n 1, 1) := by decide +kernel
theorem qX1_readErase_6 : decode (mB mX1_readErase) 6 = .ok (.ifnonnull 7, 3) := by decide +kernel
theorem qX1_readErase_9 : decode (mB mX1_readErase) 9 = .ok (.iconst (-1), 1) := by decide +kernel
theorem qX1_readErase_10 : decode (mB mX1_readErase) 10 = .ok (.goto 14, 3) := by decide +kernel
theorem qX1_readErase_13 : decode (mB mX1_readErase) 13 = .ok (.aload_n 0, 1) := by decide +kernel
theorem qX1_readErase_14 : decode (mB mX1_readErase) 14 = .ok (.iconst 0, 1) := by decide +kernel
theorem qX1_readErase_15 : decode (mB mX1_readErase) 15 = .ok (.aload_n 1, 1) := by decide +kernel
theorem qX1_readErase_16 : decode (mB mX1_readErase) 16 = .ok (.getfield 232, 3) := by decide +kernel
theorem qX1_readErase_19 : decode (mB mX1_readErase) 19 = .ok (.iconst 1, 1) := by decide +kernel
theorem qX1_readErase_20 : decode (mB mX1_readErase) 20 = .ok (.isub, 1) := by decide +kernel
theorem qX1_readErase_21 : decode (mB mX1_readErase) 21 = .ok (.invokevirtual 79, 3) := by decide +kernel
theorem qX1_readErase_24 : decode (mB mX1_readErase) 24 = .ok (.istore_n 2, 1) := by decide +kernel
theorem qX1_readErase_25 : decode (mB mX1_readErase) 25 = .ok (.aload_n 0, 1) := by decide +kernel
theorem qX1_readErase_26 : decode (mB mX1_readErase) 26 = .ok (.iconst 0, 1) := by decide +kernel
theorem qX1_readErase_27 : decode (mB mX1_readErase) 27 = .ok (.invokevirtual 83, 3) := by decide +kernel
theorem qX1_readErase_30 : decode (mB mX1_readErase) 30 = .ok (.ifCond .eq 12, 3) := by decide +kernel
theorem qX1_readErase_33 : decode (mB mX1_readErase) 33 = .ok (.aload_n 1, 1) := by decide +kernel
theorem qX1_readErase_34 : decode (mB mX1_readErase) 34 = .ok (.ifnull 8, 3) := by decide +kernel
theorem qX1_readErase_37 : decode (mB mX1_readErase) 37 = .ok (.aload_n 1, 1) := by decide +kernel
theorem qX1_readErase_38 : decode (mB mX1_readErase) 38 = .ok (.iload_n 2, 1) := by decide +kernel
theorem qX1_readErase_39 : decode (mB mX1_readErase) 39 = .ok (.invokevirtual 235, 3) := by decide +kernel
theorem qX1_readErase_42 : decode (mB mX1_readErase) 42 = .ok (.return_, 1) := by decide +kernel
theorem qX1_readFill_0 : decode (mB mX1_readFill) 0 = .ok (.aload_n 0, 1) := by decide +kernel
theorem qX1_readFill_1 : decode (mB mX1_readFill) 1 = .ok (.invokevirtual 192, 3) := by decide +kernel
theorem qX1_readFill_4 : decode (mB mX1_readFill) 4 = .ok (.astore_n 1, 1) := by decide +kernel
theorem qX1_readFill_5 : decode (mB mX1_readFill) 5 = .ok (.aload_n 0, 1) := by decide +kernel
theorem qX1_readFill_6 : decode (mB mX1_readFill) 6 = .ok (.iconst 1, 1) := by decide +kernel
theorem qX1_readFill_7 : decode (mB mX1_readFill) 7 = .ok (.sipush 999, 3) := by decide +kernel
theorem qX1_readFill_10 : decode (mB mX1_readFill) 10 = .ok (.invokevirtual 79, 3) := by decide +kernel
theorem qX1_readFill_13 : decode (mB mX1_readFill) 13 = .ok (.istore_n 2, 1) := by decide +kernel
theorem qX1_readFill_14 : decode (mB mX1_readFill) 14 = .ok (.aload_n 1, 1) := by decide +kernel
theorem qX1_readFill_15 : decode (mB mX1_readFill) 15 = .ok (.ifnull 19, 3) := by decide +kernel
theorem qX1_readFill_18 : decode (mB mX1_readFill) 18 = .ok (.aload_n 1, 1) := by decide +kernel
theorem qX1_readFill_19 : decode (mB mX1_readFill) 19 = .ok (.getfield 228, 3) := by decide +kernel
theorem qX1_readFill_22 : decode (mB mX1_readFill) 22 = .ok (.iload_n 2, 1) := by decide +kernel
theorem qX1_readFill_23 : decode (mB mX1_readFill) 23 = .ok (.iadd, 1) := by decide +kernel
theorem qX1_readFill_24 : decode (mB mX1_readFill) 24 = .ok (.sipush 999, 3) := by decide +kernel
theorem qX1_readFill_27 : decode (mB mX1_readFill) 27 = .ok (.if_icmp .le 7, 3) := by decide +kernel
theorem qX1_readFill_30 : decode (mB mX1_readFill) 30 = .ok (.iconst 1, 1) := by decide +kernel
theorem qX1_readFill_31 : decode (mB mX1_readFill) 31 = .ok (.goto 4, 3) := by decide +kernel
theorem qX1_readFill_34 : decode (mB mX1_readFill) 34 = .ok (.iconst 0, 1) := by decide +kernel
theorem qX1_readFill_35 : decode (mB mX1_readFill) 35 = .ok (.istore_n 3, 1) := by decide +kernel
theorem qX1_readFill_36 : decode (mB mX1_readFill) 36 = .ok (.aload_n 0, 1) := by decide +kernel
theorem qX1_readFill_37 : decode (mB mX1_readFill) 37 = .ok (.iload_n 3, 1) := by decide +kernel
theorem qX1_readFill_38 : decode (mB mX1_readFill) 38 = .ok (.invokevirtual 83, 3) := by decide +kernel
theorem qX1_readFill_41 : decode (mB mX1_readFill) 41 = .ok (.ifCond .eq 12, 3) := by decide +kernel
theorem qX1_readFill_44 : decode (mB mX1_readFill) 44 = .ok (.aload_n 1, 1) := by decide +kernel
theorem qX1_readFill_45 : decode (mB mX1_readFill) 45 = .ok (.ifnull 8, 3) := by decide +kernel
theorem qX1_readFill_48 : decode (mB mX1_readFill) 48 = .ok (.aload_n 1, 1) := by decide +kernel
theorem qX1_readFill_49 : decode (mB mX1_readFill) 49 = .ok (.iload_n 2, 1) := by decide +kernel
theorem qX1_readFill_50 : decode (mB mX1_readFill) 50 = .ok (.invokevirtual 230, 3) := by decide +kernel
theorem qX1_readFill_53 : decode (mB mX1_readFill) 53 = .ok (.return_, 1) := by decide +kernel
theorem qX1_readGallery_0 : decode (mB mX1_readGallery) 0 = .ok (.aload_n 0, 1) := by decide +kernel
theorem qX1_readGallery_1 : decode (mB mX1_readGallery) 1 = .ok (.ldc 70, 2) := by decide +kernel
theorem qX1_readGallery_3 : decode (mB mX1_readGallery) 3 = .ok (.invokevirtual 72, 3) := by decide +kernel
theorem qX1_readGallery_6 : decode (mB mX1_readGallery) 6 = .ok (.ifCond .ne 8, 3) := by decide +kernel
theorem qX1_readGallery_9 : decode (mB mX1_readGallery) 9 = .ok (.aload_n 0, 1) := by decide +kernel
theorem qX1_readGallery_10 : decode (mB mX1_readGallery) 10 = .ok (.iconst 1, 1) := by decide +kernel
theorem qX1_readGallery_11 : decode (mB mX1_readGallery) 11 = .ok (.invokevirtual 67, 3) := by decide +kernel
theorem qX1_readGallery_14 : decode (mB mX1_readGallery) 14 = .ok (.aload_n 0, 1) := by decide +kernel
theorem qX1_readGallery_15 : decode (mB mX1_readGallery) 15 = .ok (.invokevirtual 76, 3) := by decide +kernel
theorem qX1_readGallery_18 : decode (mB mX1_readGallery) 18 = .ok (.istore_n 1, 1) := by decide +kernel
theorem qX1_readGallery_19 : decode (mB mX1_readGallery) 19 = .ok (.aload_n 0, 1) := by decide +kernel
theorem qX1_readGallery_20 : decode (mB mX1_readGallery) 20 = .ok (.iconst 1, 1) := by decide +kernel
theorem qX1_readGallery_21 : decode (mB mX1_readGallery) 21 = .ok (.bipush 20, 2) := by decide +kernel
theorem qX1_readGallery_23 : decode (mB mX1_readGallery) 23 = .ok (.invokevirtual 79, 3) := by decide +kernel
theorem qX1_readGallery_26 : decode (mB mX1_readGallery) 26 = .ok (.istore_n 2, 1) := by decide +kernel
theorem qX1_readGallery_27 : decode (mB mX1_readGallery) 27 = .ok (.aload_n 0, 1) := by decide +kernel
theorem qX1_readGallery_28 : decode (mB mX1_readGallery) 28 = .ok (.iconst 0, 1) := by decide +kernel
theorem qX1_readGallery_29 : decode (mB mX1_readGallery) 29 = .ok (.invokevirtual 83, 3) := by decide +kernel
theorem qX1_readGallery_32 : decode (mB mX1_readGallery) 32 = .ok (.ifCond .eq 19, 3) := by decide +kernel
theorem qX1_readGallery_35 : decode (mB mX1_readGallery) 35 = .ok (.aload_n 0, 1) := by decide +kernel
theorem qX1_readGallery_36 : decode (mB mX1_readGallery) 36 = .ok (.getfield 18, 3) := by decide +kernel
theorem qX1_readGallery_39 : decode (mB mX1_readGallery) 39 = .ok (.iload_n 1, 1) := by decide +kernel
theorem qX1_readGallery_40 : decode (mB mX1_readGallery) 40 = .ok (.putfield 87, 3) := by decide +kernel
theorem qX1_readGallery_43 : decode (mB mX1_readGallery) 43 = .ok (.aload_n 0, 1) := by decide +kernel
theorem qX1_readGallery_44 : decode (mB mX1_readGallery) 44 = .ok (.getfield 18, 3) := by decide +kernel
theorem qX1_readGallery_47 : decode (mB mX1_readGallery) 47 = .ok (.iload_n 2, 1) := by decide +kernel
theorem qX1_readGallery_48 : decode (mB mX1_readGallery) 48 = .ok (.putfield 90, 3) := by decide +kernel
theorem qX1_readGallery_51 : decode (mB mX1_readGallery) 51 = .ok (.return_, 1) := by decide +kernel
theorem qX1_readLeaky_0 : decode (mB mX1_readLeaky) 0 = .ok (.aload_n 0, 1) := by decide +kernel
theorem qX1_readLeaky_1 : decode (mB mX1_readLeaky) 1 = .ok (.invokevirtual 192, 3) := by decide +kernel
theorem qX1_readLeaky_4 : decode (mB mX1_readLeaky) 4 = .ok (.astore_n 2, 1) := by decide +kernel
theorem qX1_readLeaky_5 : decode (mB mX1_readLeaky) 5 = .ok (.aload_n 0, 1) := by decide +kernel
theorem qX1_readLeaky_6 : decode (mB mX1_readLeaky) 6 = .ok (.iconst 0, 1) := by decide +kernel
theorem qX1_readLeaky_7 : decode (mB mX1_readLeaky) 7 = .ok (.invokevirtual 83, 3) := by decide +kernel
theorem qX1_readLeaky_10 : decode (mB mX1_readLeaky) 10 = .ok (.ifCond .eq 12, 3) := by decide +kernel
theorem qX1_readLeaky_13 : decode (mB mX1_readLeaky) 13 = .ok (.aload_n 2, 1) := by decide +kernel
theorem qX1_readLeaky_14 : decode (mB mX1_readLeaky) 14 = .ok (.ifnull 8, 3) := by decide +kernel
theorem qX1_readLeaky_17 : decode (mB mX1_readLeaky) 17 = .ok (.aload_n 2, 1) := by decide +kernel
theorem qX1_readLeaky_18 : decode (mB mX1_readLeaky) 18 = .ok (.iload_n 1, 1) := by decide +kernel
theorem qX1_readLeaky_19 : decode (mB mX1_readLeaky) 19 = .ok (.putfield 196, 3) := by decide +kernel
theorem qX1_readLeaky_22 : decode (mB mX1_readLeaky) 22 = .ok (.return_, 1) := by decide +kernel
theorem qX1_readLift_0 : decode (mB mX1_readLift) 0 = .ok (.aload_n 0, 1) := by decide +kernel
theorem qX1_readLift_1 : decode (mB mX1_readLift) 1 = .ok (.invokevirtual 192, 3) := by decide +kernel
theorem qX1_readLift_4 : decode (mB mX1_readLift) 4 = .ok (.astore_n 1, 1) := by decide +kernel
theorem qX1_readLift_5 : decode (mB mX1_readLift) 5 = .ok (.aload_n 1, 1) := by decide +kernel
theorem qX1_readLift_6 : decode (mB mX1_readLift) 6 = .ok (.ifnull 15, 3) := by decide +kernel
theorem qX1_readLift_9 : decode (mB mX1_readLift) 9 = .ok (.aload_n 1, 1) := by decide +kernel
theorem qX1_readLift_10 : decode (mB mX1_readLift) 10 = .ok (.getfield 209, 3) := by decide +kernel
theorem qX1_readLift_13 : decode (mB mX1_readLift) 13 = .ok (.iconst (-1), 1) := by decide +kernel
theorem qX1_readLift_14 : decode (mB mX1_readLift) 14 = .ok (.if_icmp .ne 7, 3) := by decide +kernel
theorem qX1_readLift_17 : decode (mB mX1_readLift) 17 = .ok (.iconst 1, 1) := by decide +kernel
theorem qX1_readLift_18 : decode (mB mX1_readLift) 18 = .ok (.goto 4, 3) := by decide +kernel
theorem qX1_readLift_21 : decode (mB mX1_readLift) 21 = .ok (.iconst 0, 1) := by decide +kernel
theorem qX1_readLift_22 : decode (mB mX1_readLift) 22 = .ok (.istore_n 2, 1) := by decide +kernel
theorem qX1_readLift_23 : decode (mB mX1_readLift) 23 = .ok (.aload_n 0, 1) := by decide +kernel
theorem qX1_readLift_24 : decode (mB mX1_readLift) 24 = .ok (.iload_n 2, 1) := by decide +kernel
theorem qX1_readLift_25 : decode (mB mX1_readLift) 25 = .ok (.invokevirtual 83, 3) := by decide +kernel
theorem qX1_readLift_28 : decode (mB mX1_readLift) 28 = .ok (.ifCond .eq 12, 3) := by decide +kernel
theorem qX1_readLift_31 : decode (mB mX1_readLift) 31 = .ok (.aload_n 1, 1) := by decide +kernel
theorem qX1_readLift_32 : decode (mB mX1_readLift) 32 = .ok (.ifnull 8, 3) := by decide +kernel
theorem qX1_readLift_35 : decode (mB mX1_readLift) 35 = .ok (.aload_n 1, 1) := by decide +kernel
theorem qX1_readLift_36 : decode (mB mX1_readLift) 36 = .ok (.iconst (-1), 1) := by decide +kernel
theorem qX1_readLift_37 : decode (mB mX1_readLift) 37 = .ok (.putfield 209, 3) := by decide +kernel
theorem qX1_readLift_40 : decode (mB mX1_readLift) 40 = .ok (.return_, 1) := by decide +kernel
theorem qX1_readMark_0 : decode (mB mX1_readMark) 0 = .ok (.aload_n 0, 1) := by decide +kernel
theorem qX1_readMark_1 : decode (mB mX1_readMark) 1 = .ok (.invokevirtual 192, 3) := by decide +kernel
theorem qX1_readMark_4 : decode (mB mX1_readMark) 4 = .ok (.astore_n 1, 1) := by decide +kernel
theorem qX1_readMark_5 : decode (mB mX1_readMark) 5 = .ok (.aload_n 1, 1) := by decide +kernel
theorem qX1_readMark_6 : decode (mB mX1_readMark) 6 = .ok (.ifnull 18, 3) := by decide +kernel
theorem qX1_readMark_9 : decode (mB mX1_readMark) 9 = .ok (.aload_n 0, 1) := by decide +kernel
theorem qX1_readMark_10 : decode (mB mX1_readMark) 10 = .ok (.getfield 18, 3) := by decide +kernel
theorem qX1_readMark_13 : decode (mB mX1_readMark) 13 = .ok (.aload_n 1, 1) := by decide +kernel
theorem qX1_readMark_14 : decode (mB mX1_readMark) 14 = .ok (.invokevirtual 211, 3) := by decide +kernel
theorem qX1_readMark_17 : decode (mB mX1_readMark) 17 = .ok (.ifCond .eq 7, 3) := by decide +kernel
theorem qX1_readMark_20 : decode (mB mX1_readMark) 20 = .ok (.iconst 1, 1) := by decide +kernel
theorem qX1_readMark_21 : decode (mB mX1_readMark) 21 = .ok (.goto 4, 3) := by decide +kernel
theorem qX1_readMark_24 : decode (mB mX1_readMark) 24 = .ok (.iconst 0, 1) := by decide +kernel
theorem qX1_readMark_25 : decode (mB mX1_readMark) 25 = .ok (.istore_n 2, 1) := by decide +kernel
theorem qX1_readMark_26 : decode (mB mX1_readMark) 26 = .ok (.aload_n 0, 1) := by decide +kernel
theorem qX1_readMark_27 : decode (mB mX1_readMark) 27 = .ok (.iload_n 2, 1) := by decide +kernel
theorem qX1_readMark_28 : decode (mB mX1_readMark) 28 = .ok (.invokevirtual 83, 3) := by decide +kernel
theorem qX1_readMark_31 : decode (mB mX1_readMark) 31 = .ok (.ifCond .eq 15, 3) := by decide +kernel
theorem qX1_readMark_34 : decode (mB mX1_readMark) 34 = .ok (.aload_n 1, 1) := by decide +kernel
theorem qX1_readMark_35 : decode (mB mX1_readMark) 35 = .ok (.ifnull 11, 3) := by decide +kernel
theorem qX1_readMark_38 : decode (mB mX1_readMark) 38 = .ok (.aload_n 0, 1) := by decide +kernel
theorem qX1_readMark_39 : decode (mB mX1_readMark) 39 = .ok (.getfield 18, 3) := by decide +kernel
theorem qX1_readMark_42 : decode (mB mX1_readMark) 42 = .ok (.aload_n 1, 1) := by decide +kernel
theorem qX1_readMark_43 : decode (mB mX1_readMark) 43 = .ok (.invokevirtual 215, 3) := by decide +kernel
theorem qX1_readMark_46 : decode (mB mX1_readMark) 46 = .ok (.return_, 1) := by decide +kernel
theorem qX1_readPass_0 : decode (mB mX1_readPass) 0 = .ok (.aload_n 0, 1) := by decide +kernel
theorem qX1_readPass_1 : decode (mB mX1_readPass) 1 = .ok (.iconst 0, 1) := by decide +kernel
theorem qX1_readPass_2 : decode (mB mX1_readPass) 2 = .ok (.sipush 300, 3) := by decide +kernel
theorem qX1_readPass_5 : decode (mB mX1_readPass) 5 = .ok (.invokevirtual 79, 3) := by decide +kernel
theorem qX1_readPass_8 : decode (mB mX1_readPass) 8 = .ok (.istore_n 1, 1) := by decide +kernel
theorem qX1_readPass_9 : decode (mB mX1_readPass) 9 = .ok (.aload_n 0, 1) := by decide +kernel
theorem qX1_readPass_10 : decode (mB mX1_readPass) 10 = .ok (.iconst 0, 1) := by decide +kernel
theorem qX1_readPass_11 : decode (mB mX1_readPass) 11 = .ok (.invokevirtual 83, 3) := by decide +kernel
theorem qX1_readPass_14 : decode (mB mX1_readPass) 14 = .ok (.ifCond .eq 12, 3) := by decide +kernel
theorem qX1_readPass_17 : decode (mB mX1_readPass) 17 = .ok (.aload_n 0, 1) := by decide +kernel
theorem qX1_readPass_18 : decode (mB mX1_readPass) 18 = .ok (.getfield 18, 3) := by decide +kernel
theorem qX1_readPass_21 : decode (mB mX1_readPass) 21 = .ok (.iload_n 1, 1) := by decide +kernel
theorem qX1_readPass_22 : decode (mB mX1_readPass) 22 = .ok (.invokevirtual 238, 3) := by decide +kernel
theorem qX1_readPass_25 : decode (mB mX1_readPass) 25 = .ok (.pop, 1) := by decide +kernel
theorem qX1_readPass_26 : decode (mB mX1_readPass) 26 = .ok (.return_, 1) := by decide +kernel
theorem qX1_readRoom_0 : decode (mB mX1_readRoom) 0 = .ok (.aload_n 0, 1) := by decide +kernel
theorem qX1_readRoom_1 : decode (mB mX1_readRoom) 1 = .ok (.invokevirtual 76, 3) := by decide +kernel
theorem qX1_readRoom_4 : decode (mB mX1_readRoom) 4 = .ok (.istore_n 1, 1) := by decide +kernel
theorem qX1_readRoom_5 : decode (mB mX1_readRoom) 5 = .ok (.aload_n 0, 1) := by decide +kernel
theorem qX1_readRoom_6 : decode (mB mX1_readRoom) 6 = .ok (.iconst 0, 1) := by decide +kernel
theorem qX1_readRoom_7 : decode (mB mX1_readRoom) 7 = .ok (.invokevirtual 83, 3) := by decide +kernel
theorem qX1_readRoom_10 : decode (mB mX1_readRoom) 10 = .ok (.ifCond .eq 11, 3) := by decide +kernel
theorem qX1_readRoom_13 : decode (mB mX1_readRoom) 13 = .ok (.aload_n 0, 1) := by decide +kernel
theorem qX1_readRoom_14 : decode (mB mX1_readRoom) 14 = .ok (.getfield 18, 3) := by decide +kernel
theorem qX1_readRoom_17 : decode (mB mX1_readRoom) 17 = .ok (.iload_n 1, 1) := by decide +kernel
theorem qX1_readRoom_18 : decode (mB mX1_readRoom) 18 = .ok (.putfield 87, 3) := by decide +kernel
theorem qX1_readRoom_21 : decode (mB mX1_readRoom) 21 = .ok (.return_, 1) := by decide +kernel
theorem qX1_readSetup_0 : decode (mB mX1_readSetup) 0 = .ok (.aload_n 0, 1) := by decide +kernel
theorem qX1_readSetup_1 : decode (mB mX1_readSetup) 1 = .ok (.getfield 18, 3) := by decide +kernel
theorem qX1_readSetup_4 : decode (mB mX1_readSetup) 4 = .ok (.invokevirtual 42, 3) := by decide +kernel
theorem qX1_readSetup_7 : decode (mB mX1_readSetup) 7 = .ok (.aload_n 0, 1) := by decide +kernel
theorem qX1_readSetup_8 : decode (mB mX1_readSetup) 8 = .ok (.iconst 0, 1) := by decide +kernel
theorem qX1_readSetup_9 : decode (mB mX1_readSetup) 9 = .ok (.putfield 45, 3) := by decide +kernel
theorem qX1_readSetup_12 : decode (mB mX1_readSetup) 12 = .ok (.aload_n 0, 1) := by decide +kernel
theorem qX1_readSetup_13 : decode (mB mX1_readSetup) 13 = .ok (.iconst (-1), 1) := by decide +kernel
theorem qX1_readSetup_14 : decode (mB mX1_readSetup) 14 = .ok (.putfield 22, 3) := by decide +kernel
theorem qX1_readSetup_17 : decode (mB mX1_readSetup) 17 = .ok (.aload_n 0, 1) := by decide +kernel
theorem qX1_readSetup_18 : decode (mB mX1_readSetup) 18 = .ok (.iconst 0, 1) := by decide +kernel
theorem qX1_readSetup_19 : decode (mB mX1_readSetup) 19 = .ok (.putfield 48, 3) := by decide +kernel
theorem qX1_readSetup_22 : decode (mB mX1_readSetup) 22 = .ok (.aload_n 0, 1) := by decide +kernel
theorem qX1_readSetup_23 : decode (mB mX1_readSetup) 23 = .ok (.invokevirtual 51, 3) := by decide +kernel
theorem qX1_readSetup_26 : decode (mB mX1_readSetup) 26 = .ok (.aload_n 0, 1) := by decide +kernel
theorem qX1_readSetup_27 : decode (mB mX1_readSetup) 27 = .ok (.invokevirtual 54, 3) := by decide +kernel
theorem qX1_readSetup_30 : decode (mB mX1_readSetup) 30 = .ok (.iconst 0, 1) := by decide +kernel
theorem qX1_readSetup_31 : decode (mB mX1_readSetup) 31 = .ok (.istore_n 1, 1) := by decide +kernel
theorem qX1_readSetup_32 : decode (mB mX1_readSetup) 32 = .ok (.iload_n 1, 1) := by decide +kernel
theorem qX1_readSetup_33 : decode (mB mX1_readSetup) 33 = .ok (.sipush 600, 3) := by decide +kernel
theorem qX1_readSetup_36 : decode (mB mX1_readSetup) 36 = .ok (.if_icmp .ge 42, 3) := by decide +kernel
theorem qX1_readSetup_39 : decode (mB mX1_readSetup) 39 = .ok (.aload_n 0, 1) := by decide +kernel
theorem qX1_readSetup_40 : decode (mB mX1_readSetup) 40 = .ok (.getfield 45, 3) := by decide +kernel
theorem qX1_readSetup_43 : decode (mB mX1_readSetup) 43 = .ok (.ifCond .ne 35, 3) := by decide +kernel
theorem qX1_readSetup_46 : decode (mB mX1_readSetup) 46 = .ok (.aload_n 0, 1) := by decide +kernel
theorem qX1_readSetup_47 : decode (mB mX1_readSetup) 47 = .ok (.getfield 57, 3) := by decide +kernel
theorem qX1_readSetup_50 : decode (mB mX1_readSetup) 50 = .ok (.ifCond .eq 28, 3) := by decide +kernel
theorem qX1_readSetup_53 : decode (mB mX1_readSetup) 53 = .ok (.aload_n 0, 1) := by decide +kernel
theorem qX1_readSetup_54 : decode (mB mX1_readSetup) 54 = .ok (.invokevirtual 60, 3) := by decide +kernel
theorem qX1_readSetup_57 : decode (mB mX1_readSetup) 57 = .ok (.ifCond .ne 15, 3) := by decide +kernel
theorem qX1_readSetup_60 : decode (mB mX1_readSetup) 60 = .ok (.aload_n 0, 1) := by decide +kernel
theorem qX1_readSetup_61 : decode (mB mX1_readSetup) 61 = .ok (.invokevirtual 64, 3) := by decide +kernel
theorem qX1_readSetup_64 : decode (mB mX1_readSetup) 64 = .ok (.ifCond .ne 8, 3) := by decide +kernel
theorem qX1_readSetup_67 : decode (mB mX1_readSetup) 67 = .ok (.aload_n 0, 1) := by decide +kernel
theorem qX1_readSetup_68 : decode (mB mX1_readSetup) 68 = .ok (.iconst 1, 1) := by decide +kernel
theorem qX1_readSetup_69 : decode (mB mX1_readSetup) 69 = .ok (.invokevirtual 67, 3) := by decide +kernel
theorem qX1_readSetup_72 : decode (mB mX1_readSetup) 72 = .ok (.iinc 1 1, 3) := by decide +kernel
theorem qX1_readSetup_75 : decode (mB mX1_readSetup) 75 = .ok (.goto (-43), 3) := by decide +kernel
theorem qX1_readSetup_78 : decode (mB mX1_readSetup) 78 = .ok (.return_, 1) := by decide +kernel
theorem qX1_readSpirit_0 : decode (mB mX1_readSpirit) 0 = .ok (.aload_n 0, 1) := by decide +kernel
theorem qX1_readSpirit_1 : decode (mB mX1_readSpirit) 1 = .ok (.invokevirtual 171, 3) := by decide +kernel
theorem qX1_readSpirit_4 : decode (mB mX1_readSpirit) 4 = .ok (.istore_n 1, 1) := by decide +kernel
theorem qX1_readSpirit_5 : decode (mB mX1_readSpirit) 5 = .ok (.aload_n 0, 1) := by decide +kernel
theorem qX1_readSpirit_6 : decode (mB mX1_readSpirit) 6 = .ok (.iconst 1, 1) := by decide +kernel
theorem qX1_readSpirit_7 : decode (mB mX1_readSpirit) 7 = .ok (.bipush 40, 2) := by decide +kernel
theorem qX1_readSpirit_9 : decode (mB mX1_readSpirit) 9 = .ok (.invokevirtual 79, 3) := by decide +kernel
theorem qX1_readSpirit_12 : decode (mB mX1_readSpirit) 12 = .ok (.istore_n 2, 1) := by decide +kernel
theorem qX1_readSpirit_13 : decode (mB mX1_readSpirit) 13 = .ok (.aload_n 0, 1) := by decide +kernel
theorem qX1_readSpirit_14 : decode (mB mX1_readSpirit) 14 = .ok (.iconst 0, 1) := by decide +kernel
theorem qX1_readSpirit_15 : decode (mB mX1_readSpirit) 15 = .ok (.invokevirtual 83, 3) := by decide +kernel
theorem qX1_readSpirit_18 : decode (mB mX1_readSpirit) 18 = .ok (.ifCond .eq 12, 3) := by decide +kernel
theorem qX1_readSpirit_21 : decode (mB mX1_readSpirit) 21 = .ok (.aload_n 0, 1) := by decide +kernel
theorem qX1_readSpirit_22 : decode (mB mX1_readSpirit) 22 = .ok (.getfield 18, 3) := by decide +kernel
theorem qX1_readSpirit_25 : decode (mB mX1_readSpirit) 25 = .ok (.iload_n 1, 1) := by decide +kernel
theorem qX1_readSpirit_26 : decode (mB mX1_readSpirit) 26 = .ok (.iload_n 2, 1) := by decide +kernel
theorem qX1_readSpirit_27 : decode (mB mX1_readSpirit) 27 = .ok (.invokevirtual 174, 3) := by decide +kernel
theorem qX1_readSpirit_30 : decode (mB mX1_readSpirit) 30 = .ok (.return_, 1) := by decide +kernel
theorem qX1_readThumb_0 : decode (mB mX1_readThumb) 0 = .ok (.aload_n 0, 1) := by decide +kernel
theorem qX1_readThumb_1 : decode (mB mX1_readThumb) 1 = .ok (.invokevirtual 192, 3) := by decide +kernel
theorem qX1_readThumb_4 : decode (mB mX1_readThumb) 4 = .ok (.astore_n 1, 1) := by decide +kernel
theorem qX1_readThumb_5 : decode (mB mX1_readThumb) 5 = .ok (.aload_n 0, 1) := by decide +kernel
theorem qX1_readThumb_6 : decode (mB mX1_readThumb) 6 = .ok (.iconst 1, 1) := by decide +kernel
theorem qX1_readThumb_7 : decode (mB mX1_readThumb) 7 = .ok (.bipush 60, 2) := by decide +kernel
theorem qX1_readThumb_9 : decode (mB mX1_readThumb) 9 = .ok (.invokevirtual 79, 3) := by decide +kernel
theorem qX1_readThumb_12 : decode (mB mX1_readThumb) 12 = .ok (.istore_n 2, 1) := by decide +kernel
theorem qX1_readThumb_13 : decode (mB mX1_readThumb) 13 = .ok (.aload_n 0, 1) := by decide +kernel
theorem qX1_readThumb_14 : decode (mB mX1_readThumb) 14 = .ok (.iconst 0, 1) := by decide +kernel
theorem qX1_readThumb_15 : decode (mB mX1_readThumb) 15 = .ok (.invokevirtual 83, 3) := by decide +kernel
theorem qX1_readThumb_18 : decode (mB mX1_readThumb) 18 = .ok (.ifCond .eq 26, 3) := by decide +kernel
theorem qX1_readThumb_21 : decode (mB mX1_readThumb) 21 = .ok (.aload_n 1, 1) := by decide +kernel
theorem qX1_readThumb_22 : decode (mB mX1_readThumb) 22 = .ok (.ifnull 22, 3) := by decide +kernel
theorem qX1_readThumb_25 : decode (mB mX1_readThumb) 25 = .ok (.aload_n 0, 1) := by decide +kernel
theorem qX1_readThumb_26 : decode (mB mX1_readThumb) 26 = .ok (.getfield 18, 3) := by decide +kernel
theorem qX1_readThumb_29 : decode (mB mX1_readThumb) 29 = .ok (.aload_n 1, 1) := by decide +kernel
theorem qX1_readThumb_30 : decode (mB mX1_readThumb) 30 = .ok (.getfield 219, 3) := by decide +kernel
theorem qX1_readThumb_33 : decode (mB mX1_readThumb) 33 = .ok (.putfield 222, 3) := by decide +kernel
theorem qX1_readThumb_36 : decode (mB mX1_readThumb) 36 = .ok (.aload_n 0, 1) := by decide +kernel
theorem qX1_readThumb_37 : decode (mB mX1_readThumb) 37 = .ok (.getfield 18, 3) := by decide +kernel
theorem qX1_readThumb_40 : decode (mB mX1_readThumb) 40 = .ok (.iload_n 2, 1) := by decide +kernel
theorem qX1_readThumb_41 : decode (mB mX1_readThumb) 41 = .ok (.putfield 225, 3) := by decide +kernel
theorem qX1_readThumb_44 : decode (mB mX1_readThumb) 44 = .ok (.return_, 1) := by decide +kernel
theorem qX1_readTube_0 : decode (mB mX1_readTube) 0 = .ok (.aload_n 0, 1) := by decide +kernel
theorem qX1_readTube_1 : decode (mB mX1_readTube) 1 = .ok (.aload_n 0, 1) := by decide +kernel
theorem qX1_readTube_2 : decode (mB mX1_readTube) 2 = .ok (.getfield 18, 3) := by decide +kernel
theorem qX1_readTube_5 : decode (mB mX1_readTube) 5 = .ok (.getfield 180, 3) := by decide +kernel
theorem qX1_readTube_8 : decode (mB mX1_readTube) 8 = .ok (.aload_n 0, 1) := by decide +kernel
theorem qX1_readTube_9 : decode (mB mX1_readTube) 9 = .ok (.getfield 18, 3) := by decide +kernel
theorem qX1_readTube_12 : decode (mB mX1_readTube) 12 = .ok (.getfield 98, 3) := by decide +kernel
theorem qX1_readTube_15 : decode (mB mX1_readTube) 15 = .ok (.invokevirtual 184, 3) := by decide +kernel
theorem qX1_readTube_18 : decode (mB mX1_readTube) 18 = .ok (.istore_n 1, 1) := by decide +kernel
theorem qX1_readTube_19 : decode (mB mX1_readTube) 19 = .ok (.aload_n 0, 1) := by decide +kernel
theorem qX1_readTube_20 : decode (mB mX1_readTube) 20 = .ok (.iconst 1, 1) := by decide +kernel
theorem qX1_readTube_21 : decode (mB mX1_readTube) 21 = .ok (.bipush 50, 2) := by decide +kernel
theorem qX1_readTube_23 : decode (mB mX1_readTube) 23 = .ok (.invokevirtual 79, 3) := by decide +kernel
theorem qX1_readTube_26 : decode (mB mX1_readTube) 26 = .ok (.istore_n 2, 1) := by decide +kernel
theorem qX1_readTube_27 : decode (mB mX1_readTube) 27 = .ok (.aload_n 0, 1) := by decide +kernel
theorem qX1_readTube_28 : decode (mB mX1_readTube) 28 = .ok (.iconst 1, 1) := by decide +kernel
theorem qX1_readTube_29 : decode (mB mX1_readTube) 29 = .ok (.bipush 9, 2) := by decide +kernel
theorem qX1_readTube_31 : decode (mB mX1_readTube) 31 = .ok (.invokevirtual 79, 3) := by decide +kernel
theorem qX1_readTube_34 : decode (mB mX1_readTube) 34 = .ok (.istore_n 3, 1) := by decide +kernel
theorem qX1_readTube_35 : decode (mB mX1_readTube) 35 = .ok (.aload_n 0, 1) := by decide +kernel
theorem qX1_readTube_36 : decode (mB mX1_readTube) 36 = .ok (.bipush 10, 2) := by decide +kernel
theorem qX1_readTube_38 : decode (mB mX1_readTube) 38 = .ok (.sipush 999, 3) := by decide +kernel
theorem qX1_readTube_41 : decode (mB mX1_readTube) 41 = .ok (.invokevirtual 79, 3) := by decide +kernel
theorem qX1_readTube_44 : decode (mB mX1_readTube) 44 = .ok (.istore 4, 2) := by decide +kernel
theorem qX1_readTube_46 : decode (mB mX1_readTube) 46 = .ok (.aload_n 0, 1) := by decide +kernel
theorem qX1_readTube_47 : decode (mB mX1_readTube) 47 = .ok (.iconst 0, 1) := by decide +kernel
theorem qX1_readTube_48 : decode (mB mX1_readTube) 48 = .ok (.sipush 999, 3) := by decide +kernel
theorem qX1_readTube_51 : decode (mB mX1_readTube) 51 = .ok (.invokevirtual 79, 3) := by decide +kernel
theorem qX1_readTube_54 : decode (mB mX1_readTube) 54 = .ok (.istore 5, 2) := by decide +kernel
theorem qX1_readTube_56 : decode (mB mX1_readTube) 56 = .ok (.aload_n 0, 1) := by decide +kernel
theorem qX1_readTube_57 : decode (mB mX1_readTube) 57 = .ok (.iconst 0, 1) := by decide +kernel
theorem qX1_readTube_58 : decode (mB mX1_readTube) 58 = .ok (.invokevirtual 83, 3) := by decide +kernel
theorem qX1_readTube_61 : decode (mB mX1_readTube) 61 = .ok (.ifCond .eq 17, 3) := by decide +kernel
theorem qX1_readTube_64 : decode (mB mX1_readTube) 64 = .ok (.aload_n 0, 1) := by decide +kernel
theorem qX1_readTube_65 : decode (mB mX1_readTube) 65 = .ok (.getfield 18, 3) := by decide +kernel
theorem qX1_readTube_68 : decode (mB mX1_readTube) 68 = .ok (.iload_n 1, 1) := by decide +kernel
theorem qX1_readTube_69 : decode (mB mX1_readTube) 69 = .ok (.iload_n 2, 1) := by decide +kernel
theorem qX1_readTube_70 : decode (mB mX1_readTube) 70 = .ok (.iload_n 3, 1) := by decide +kernel
theorem qX1_readTube_71 : decode (mB mX1_readTube) 71 = .ok (.iload 4, 2) := by decide +kernel
theorem qX1_readTube_73 : decode (mB mX1_readTube) 73 = .ok (.iload 5, 2) := by decide +kernel
theorem qX1_readTube_75 : decode (mB mX1_readTube) 75 = .ok (.invokevirtual 188, 3) := by decide +kernel
theorem qX1_readTube_78 : decode (mB mX1_readTube) 78 = .ok (.return_, 1) := by decide +kernel
theorem qX1_takeDegrees_0 : decode (mB mX1_takeDegrees) 0 = .ok (.aload_n 0, 1) := by decide +kernel
theorem qX1_takeDegrees_1 : decode (mB mX1_takeDegrees) 1 = .ok (.getfield 57, 3) := by decide +kernel
theorem qX1_takeDegrees_4 : decode (mB mX1_takeDegrees) 4 = .ok (.iconst 3, 1) := by decide +kernel
theorem qX1_takeDegrees_5 : decode (mB mX1_takeDegrees) 5 = .ok (.if_icmp .ne 16, 3) := by decide +kernel
theorem qX1_takeDegrees_8 : decode (mB mX1_takeDegrees) 8 = .ok (.aload_n 0, 1) := by decide +kernel
theorem qX1_takeDegrees_9 : decode (mB mX1_takeDegrees) 9 = .ok (.invokevirtual 51, 3) := by decide +kernel
theorem qX1_takeDegrees_12 : decode (mB mX1_takeDegrees) 12 = .ok (.aload_n 0, 1) := by decide +kernel
theorem qX1_takeDegrees_13 : decode (mB mX1_takeDegrees) 13 = .ok (.iconst 0, 1) := by decide +kernel
theorem qX1_takeDegrees_14 : decode (mB mX1_takeDegrees) 14 = .ok (.bipush 20, 2) := by decide +kernel
theorem qX1_takeDegrees_16 : decode (mB mX1_takeDegrees) 16 = .ok (.invokevirtual 79, 3) := by decide +kernel
theorem qX1_takeDegrees_19 : decode (mB mX1_takeDegrees) 19 = .ok (.ineg, 1) := by decide +kernel
theorem qX1_takeDegrees_20 : decode (mB mX1_takeDegrees) 20 = .ok (.ireturn, 1) := by decide +kernel
theorem qX1_takeDegrees_21 : decode (mB mX1_takeDegrees) 21 = .ok (.aload_n 0, 1) := by decide +kernel
theorem qX1_takeDegrees_22 : decode (mB mX1_takeDegrees) 22 = .ok (.iconst 0, 1) := by decide +kernel
theorem qX1_takeDegrees_23 : decode (mB mX1_takeDegrees) 23 = .ok (.sipush 150, 3) := by decide +kernel
theorem qX1_takeDegrees_26 : decode (mB mX1_takeDegrees) 26 = .ok (.invokevirtual 79, 3) := by decide +kernel
theorem qX1_takeDegrees_29 : decode (mB mX1_takeDegrees) 29 = .ok (.ireturn, 1) := by decide +kernel
theorem qX1_takeKnownName_0 : decode (mB mX1_takeKnownName) 0 = .ok (.aload_n 1, 1) := by decide +kernel
theorem qX1_takeKnownName_1 : decode (mB mX1_takeKnownName) 1 = .ok (.iload_n 2, 1) := by decide +kernel
theorem qX1_takeKnownName_2 : decode (mB mX1_takeKnownName) 2 = .ok (.aload_n 0, 1) := by decide +kernel
theorem qX1_takeKnownName_3 : decode (mB mX1_takeKnownName) 3 = .ok (.invokevirtual 252, 3) := by decide +kernel
theorem qX1_takeKnownName_6 : decode (mB mX1_takeKnownName) 6 = .ok (.invokestatic 255, 3) := by decide +kernel
theorem qX1_takeKnownName_9 : decode (mB mX1_takeKnownName) 9 = .ok (.istore_n 3, 1) := by decide +kernel
theorem qX1_takeKnownName_10 : decode (mB mX1_takeKnownName) 10 = .ok (.aload_n 0, 1) := by decide +kernel
theorem qX1_takeKnownName_11 : decode (mB mX1_takeKnownName) 11 = .ok (.getfield 57, 3) := by decide +kernel
theorem qX1_takeKnownName_14 : decode (mB mX1_takeKnownName) 14 = .ok (.iconst 1, 1) := by decide +kernel
theorem qX1_takeKnownName_15 : decode (mB mX1_takeKnownName) 15 = .ok (.if_icmp .eq 11, 3) := by decide +kernel
theorem qX1_takeKnownName_18 : decode (mB mX1_takeKnownName) 18 = .ok (.aload_n 0, 1) := by decide +kernel
theorem qX1_takeKnownName_19 : decode (mB mX1_takeKnownName) 19 = .ok (.iconst 1, 1) := by decide +kernel
theorem qX1_takeKnownName_20 : decode (mB mX1_takeKnownName) 20 = .ok (.invokevirtual 67, 3) := by decide +kernel
theorem qX1_takeKnownName_23 : decode (mB mX1_takeKnownName) 23 = .ok (.goto 13, 3) := by decide +kernel
theorem qX1_takeKnownName_26 : decode (mB mX1_takeKnownName) 26 = .ok (.iload_n 3, 1) := by decide +kernel
theorem qX1_takeKnownName_27 : decode (mB mX1_takeKnownName) 27 = .ok (.iconst (-1), 1) := by decide +kernel
theorem qX1_takeKnownName_28 : decode (mB mX1_takeKnownName) 28 = .ok (.if_icmp .ne 8, 3) := by decide +kernel
theorem qX1_takeKnownName_31 : decode (mB mX1_takeKnownName) 31 = .ok (.aload_n 0, 1) := by decide +kernel
theorem qX1_takeKnownName_32 : decode (mB mX1_takeKnownName) 32 = .ok (.iconst 4, 1) := by decide +kernel
theorem qX1_takeKnownName_33 : decode (mB mX1_takeKnownName) 33 = .ok (.invokevirtual 67, 3) := by decide +kernel
theorem qX1_takeKnownName_36 : decode (mB mX1_takeKnownName) 36 = .ok (.aload_n 0, 1) := by decide +kernel
theorem qX1_takeKnownName_37 : decode (mB mX1_takeKnownName) 37 = .ok (.invokevirtual 51, 3) := by decide +kernel
theorem qX1_takeKnownName_40 : decode (mB mX1_takeKnownName) 40 = .ok (.iload_n 3, 1) := by decide +kernel
theorem qX1_takeKnownName_41 : decode (mB mX1_takeKnownName) 41 = .ok (.ireturn, 1) := by decide +kernel
theorem qX1_takeNewName_0 : decode (mB mX1_takeNewName) 0 = .ok (.aload_n 0, 1) := by decide +kernel
theorem qX1_takeNewName_1 : decode (mB mX1_takeNewName) 1 = .ok (.invokevirtual 252, 3) := by decide +kernel
theorem qX1_takeNewName_4 : decode (mB mX1_takeNewName) 4 = .ok (.istore_n 1, 1) := by decide +kernel
theorem qX1_takeNewName_5 : decode (mB mX1_takeNewName) 5 = .ok (.aload_n 0, 1) := by decide +kernel
theorem qX1_takeNewName_6 : decode (mB mX1_takeNewName) 6 = .ok (.getfield 57, 3) := by decide +kernel
theorem qX1_takeNewName_9 : decode (mB mX1_takeNewName) 9 = .ok (.iconst 1, 1) := by decide +kernel
theorem qX1_takeNewName_10 : decode (mB mX1_takeNewName) 10 = .ok (.if_icmp .eq 11, 3) := by decide +kernel
theorem qX1_takeNewName_13 : decode (mB mX1_takeNewName) 13 = .ok (.aload_n 0, 1) := by decide +kernel
theorem qX1_takeNewName_14 : decode (mB mX1_takeNewName) 14 = .ok (.iconst 1, 1) := by decide +kernel
theorem qX1_takeNewName_15 : decode (mB mX1_takeNewName) 15 = .ok (.invokevirtual 67, 3) := by decide +kernel
theorem qX1_takeNewName_18 : decode (mB mX1_takeNewName) 18 = .ok (.goto 64, 3) := by decide +kernel
theorem qX1_takeNewName_21 : decode (mB mX1_takeNewName) 21 = .ok (.iload_n 1, 1) := by decide +kernel
theorem qX1_takeNewName_22 : decode (mB mX1_takeNewName) 22 = .ok (.ifCond .ne 11, 3) := by decide +kernel
theorem qX1_takeNewName_25 : decode (mB mX1_takeNewName) 25 = .ok (.aload_n 0, 1) := by decide +kernel
theorem qX1_takeNewName_26 : decode (mB mX1_takeNewName) 26 = .ok (.iconst 2, 1) := by decide +kernel
theorem qX1_takeNewName_27 : decode (mB mX1_takeNewName) 27 = .ok (.invokevirtual 67, 3) := by decide +kernel
theorem qX1_takeNewName_30 : decode (mB mX1_takeNewName) 30 = .ok (.goto 52, 3) := by decide +kernel
theorem qX1_takeNewName_33 : decode (mB mX1_takeNewName) 33 = .ok (.aload_n 0, 1) := by decide +kernel
theorem qX1_takeNewName_34 : decode (mB mX1_takeNewName) 34 = .ok (.getfield 18, 3) := by decide +kernel
theorem qX1_takeNewName_37 : decode (mB mX1_takeNewName) 37 = .ok (.getfield 180, 3) := by decide +kernel
theorem qX1_takeNewName_40 : decode (mB mX1_takeNewName) 40 = .ok (.aload_n 0, 1) := by decide +kernel
theorem qX1_takeNewName_41 : decode (mB mX1_takeNewName) 41 = .ok (.getfield 18, 3) := by decide +kernel
theorem qX1_takeNewName_44 : decode (mB mX1_takeNewName) 44 = .ok (.getfield 98, 3) := by decide +kernel
theorem qX1_takeNewName_47 : decode (mB mX1_takeNewName) 47 = .ok (.iload_n 1, 1) := by decide +kernel
theorem qX1_takeNewName_48 : decode (mB mX1_takeNewName) 48 = .ok (.invokestatic 255, 3) := by decide +kernel
theorem qX1_takeNewName_51 : decode (mB mX1_takeNewName) 51 = .ok (.iconst (-1), 1) := by decide +kernel
theorem qX1_takeNewName_52 : decode (mB mX1_takeNewName) 52 = .ok (.if_icmp .ne 25, 3) := by decide +kernel
theorem qX1_takeNewName_55 : decode (mB mX1_takeNewName) 55 = .ok (.aload_n 0, 1) := by decide +kernel
theorem qX1_takeNewName_56 : decode (mB mX1_takeNewName) 56 = .ok (.getfield 18, 3) := by decide +kernel
theorem qX1_takeNewName_59 : decode (mB mX1_takeNewName) 59 = .ok (.getfield 202, 3) := by decide +kernel
theorem qX1_takeNewName_62 : decode (mB mX1_takeNewName) 62 = .ok (.aload_n 0, 1) := by decide +kernel
theorem qX1_takeNewName_63 : decode (mB mX1_takeNewName) 63 = .ok (.getfield 18, 3) := by decide +kernel
theorem qX1_takeNewName_66 : decode (mB mX1_takeNewName) 66 = .ok (.getfield 110, 3) := by decide +kernel
theorem qX1_takeNewName_69 : decode (mB mX1_takeNewName) 69 = .ok (.iload_n 1, 1) := by decide +kernel
theorem qX1_takeNewName_70 : decode (mB mX1_takeNewName) 70 = .ok (.invokestatic 255, 3) := by decide +kernel
theorem qX1_takeNewName_73 : decode (mB mX1_takeNewName) 73 = .ok (.iconst (-1), 1) := by decide +kernel
theorem qX1_takeNewName_74 : decode (mB mX1_takeNewName) 74 = .ok (.if_icmp .eq 8, 3) := by decide +kernel
theorem qX1_takeNewName_77 : decode (mB mX1_takeNewName) 77 = .ok (.aload_n 0, 1) := by decide +kernel
theorem qX1_takeNewName_78 : decode (mB mX1_takeNewName) 78 = .ok (.iconst 3, 1) := by decide +kernel
theorem qX1_takeNewName_79 : decode (mB mX1_takeNewName) 79 = .ok (.invokevirtual 67, 3) := by decide +kernel
theorem qX1_takeNewName_82 : decode (mB mX1_takeNewName) 82 = .ok (.aload_n 0, 1) := by decide +kernel
theorem qX1_takeNewName_83 : decode (mB mX1_takeNewName) 83 = .ok (.invokevirtual 51, 3) := by decide +kernel
theorem qX1_takeNewName_86 : decode (mB mX1_takeNewName) 86 = .ok (.iload_n 1, 1) := by decide +kernel
theorem qX1_takeNewName_87 : decode (mB mX1_takeNewName) 87 = .ok (.ireturn, 1) := by decide +kernel
theorem qX1_takeNumber_0 : decode (mB mX1_takeNumber) 0 = .ok (.aload_n 0, 1) := by decide +kernel
theorem qX1_takeNumber_1 : decode (mB mX1_takeNumber) 1 = .ok (.invokevirtual 245, 3) := by decide +kernel
theorem qX1_takeNumber_4 : decode (mB mX1_takeNumber) 4 = .ok (.istore_n 3, 1) := by decide +kernel
theorem qX1_takeNumber_5 : decode (mB mX1_takeNumber) 5 = .ok (.aload_n 0, 1) := by decide +kernel
theorem qX1_takeNumber_6 : decode (mB mX1_takeNumber) 6 = .ok (.getfield 57, 3) := by decide +kernel
theorem qX1_takeNumber_9 : decode (mB mX1_takeNumber) 9 = .ok (.iconst 2, 1) := by decide +kernel
theorem qX1_takeNumber_10 : decode (mB mX1_takeNumber) 10 = .ok (.if_icmp .eq 11, 3) := by decide +kernel
theorem qX1_takeNumber_13 : decode (mB mX1_takeNumber) 13 = .ok (.aload_n 0, 1) := by decide +kernel
theorem qX1_takeNumber_14 : decode (mB mX1_takeNumber) 14 = .ok (.iconst 1, 1) := by decide +kernel
theorem qX1_takeNumber_15 : decode (mB mX1_takeNumber) 15 = .ok (.invokevirtual 67, 3) := by decide +kernel
theorem qX1_takeNumber_18 : decode (mB mX1_takeNumber) 18 = .ok (.goto 18, 3) := by decide +kernel
theorem qX1_takeNumber_21 : decode (mB mX1_takeNumber) 21 = .ok (.iload_n 3, 1) := by decide +kernel
theorem qX1_takeNumber_22 : decode (mB mX1_takeNumber) 22 = .ok (.iload_n 1, 1) := by decide +kernel
theorem qX1_takeNumber_23 : decode (mB mX1_takeNumber) 23 = .ok (.if_icmp .lt 8, 3) := by decide +kernel
theorem qX1_takeNumber_26 : decode (mB mX1_takeNumber) 26 = .ok (.iload_n 3, 1) := by decide +kernel
theorem qX1_takeNumber_27 : decode (mB mX1_takeNumber) 27 = .ok (.iload_n 2, 1) := by decide +kernel
theorem qX1_takeNumber_28 : decode (mB mX1_takeNumber) 28 = .ok (.if_icmp .le 8, 3) := by decide +kernel
theorem qX1_takeNumber_31 : decode (mB mX1_takeNumber) 31 = .ok (.aload_n 0, 1) := by decide +kernel
theorem qX1_takeNumber_32 : decode (mB mX1_takeNumber) 32 = .ok (.iconst 2, 1) := by decide +kernel
theorem qX1_takeNumber_33 : decode (mB mX1_takeNumber) 33 = .ok (.invokevirtual 67, 3) := by decide +kernel
theorem qX1_takeNumber_36 : decode (mB mX1_takeNumber) 36 = .ok (.aload_n 0, 1) := by decide +kernel
theorem qX1_takeNumber_37 : decode (mB mX1_takeNumber) 37 = .ok (.invokevirtual 51, 3) := by decide +kernel
theorem qX1_takeNumber_40 : decode (mB mX1_takeNumber) 40 = .ok (.aload_n 0, 1) := by decide +kernel
theorem qX1_takeNumber_41 : decode (mB mX1_takeNumber) 41 = .ok (.getfield 45, 3) := by decide +kernel
theorem qX1_takeNumber_44 : decode (mB mX1_takeNumber) 44 = .ok (.ifCond .ne 7, 3) := by decide +kernel
theorem qX1_takeNumber_47 : decode (mB mX1_takeNumber) 47 = .ok (.iload_n 3, 1) := by decide +kernel
theorem qX1_takeNumber_48 : decode (mB mX1_takeNumber) 48 = .ok (.goto 4, 3) := by decide +kernel
theorem qX1_takeNumber_51 : decode (mB mX1_takeNumber) 51 = .ok (.iconst (-1), 1) := by decide +kernel
theorem qX1_takeNumber_52 : decode (mB mX1_takeNumber) 52 = .ok (.ireturn, 1) := by decide +kernel
theorem qX1_takeRow_0 : decode (mB mX1_takeRow) 0 = .ok (.iload_n 1, 1) := by decide +kernel
theorem qX1_takeRow_1 : decode (mB mX1_takeRow) 1 = .ok (.iload_n 2, 1) := by decide +kernel
theorem qX1_takeRow_2 : decode (mB mX1_takeRow) 2 = .ok (.if_icmp .lt 8, 3) := by decide +kernel
theorem qX1_takeRow_5 : decode (mB mX1_takeRow) 5 = .ok (.aload_n 0, 1) := by decide +kernel
theorem qX1_takeRow_6 : decode (mB mX1_takeRow) 6 = .ok (.iconst 5, 1) := by decide +kernel
theorem qX1_takeRow_7 : decode (mB mX1_takeRow) 7 = .ok (.invokevirtual 67, 3) := by decide +kernel
theorem qX1_takeRow_10 : decode (mB mX1_takeRow) 10 = .ok (.aload_n 0, 1) := by decide +kernel
theorem qX1_takeRow_11 : decode (mB mX1_takeRow) 11 = .ok (.invokevirtual 51, 3) := by decide +kernel
theorem qX1_takeRow_14 : decode (mB mX1_takeRow) 14 = .ok (.return_, 1) := by decide +kernel
theorem qX1_takeSemicolon_0 : decode (mB mX1_takeSemicolon) 0 = .ok (.aload_n 0, 1) := by decide +kernel
theorem qX1_takeSemicolon_1 : decode (mB mX1_takeSemicolon) 1 = .ok (.getfield 57, 3) := by decide +kernel
theorem qX1_takeSemicolon_4 : decode (mB mX1_takeSemicolon) 4 = .ok (.iconst 4, 1) := by decide +kernel
theorem qX1_takeSemicolon_5 : decode (mB mX1_takeSemicolon) 5 = .ok (.if_icmp .eq 11, 3) := by decide +kernel
theorem qX1_takeSemicolon_8 : decode (mB mX1_takeSemicolon) 8 = .ok (.aload_n 0, 1) := by decide +kernel
theorem qX1_takeSemicolon_9 : decode (mB mX1_takeSemicolon) 9 = .ok (.iconst 1, 1) := by decide +kernel
theorem qX1_takeSemicolon_10 : decode (mB mX1_takeSemicolon) 10 = .ok (.invokevirtual 67, 3) := by decide +kernel
theorem qX1_takeSemicolon_13 : decode (mB mX1_takeSemicolon) 13 = .ok (.goto 13, 3) := by decide +kernel
theorem qX1_takeSemicolon_16 : decode (mB mX1_takeSemicolon) 16 = .ok (.iload_n 1, 1) := by decide +kernel
theorem qX1_takeSemicolon_17 : decode (mB mX1_takeSemicolon) 17 = .ok (.ifCond .eq 9, 3) := by decide +kernel
theorem qX1_takeSemicolon_20 : decode (mB mX1_takeSemicolon) 20 = .ok (.aload_n 0, 1) := by decide +kernel
theorem qX1_takeSemicolon_21 : decode (mB mX1_takeSemicolon) 21 = .ok (.bipush 6, 2) := by decide +kernel
theorem qX1_takeSemicolon_23 : decode (mB mX1_takeSemicolon) 23 = .ok (.invokevirtual 67, 3) := by decide +kernel
theorem qX1_takeSemicolon_26 : decode (mB mX1_takeSemicolon) 26 = .ok (.aload_n 0, 1) := by decide +kernel
theorem qX1_takeSemicolon_27 : decode (mB mX1_takeSemicolon) 27 = .ok (.invokevirtual 51, 3) := by decide +kernel
theorem qX1_takeSemicolon_30 : decode (mB mX1_takeSemicolon) 30 = .ok (.aload_n 0, 1) := by decide +kernel
theorem qX1_takeSemicolon_31 : decode (mB mX1_takeSemicolon) 31 = .ok (.getfield 45, 3) := by decide +kernel
theorem qX1_takeSemicolon_34 : decode (mB mX1_takeSemicolon) 34 = .ok (.ifCond .ne 7, 3) := by decide +kernel
theorem qX1_takeSemicolon_37 : decode (mB mX1_takeSemicolon) 37 = .ok (.iconst 1, 1) := by decide +kernel
theorem qX1_takeSemicolon_38 : decode (mB mX1_takeSemicolon) 38 = .ok (.goto 4, 3) := by decide +kernel
theorem qX1_takeSemicolon_41 : decode (mB mX1_takeSemicolon) 41 = .ok (.iconst 0, 1) := by decide +kernel
theorem qX1_takeSemicolon_42 : decode (mB mX1_takeSemicolon) 42 = .ok (.ireturn, 1) := by decide +kernel
theorem qX1_takeTube_0 : decode (mB mX1_takeTube) 0 = .ok (.aload_n 0, 1) := by decide +kernel
theorem qX1_takeTube_1 : decode (mB mX1_takeTube) 1 = .ok (.iconst 0, 1) := by decide +kernel
theorem qX1_takeTube_2 : decode (mB mX1_takeTube) 2 = .ok (.aload_n 0, 1) := by decide +kernel
theorem qX1_takeTube_3 : decode (mB mX1_takeTube) 3 = .ok (.getfield 18, 3) := by decide +kernel
theorem qX1_takeTube_6 : decode (mB mX1_takeTube) 6 = .ok (.getfield 118, 3) := by decide +kernel
theorem qX1_takeTube_9 : decode (mB mX1_takeTube) 9 = .ok (.iconst 1, 1) := by decide +kernel
theorem qX1_takeTube_10 : decode (mB mX1_takeTube) 10 = .ok (.isub, 1) := by decide +kernel
theorem qX1_takeTube_11 : decode (mB mX1_takeTube) 11 = .ok (.invokevirtual 79, 3) := by decide +kernel
theorem qX1_takeTube_14 : decode (mB mX1_takeTube) 14 = .ok (.istore_n 1, 1) := by decide +kernel
theorem qX1_takeTube_15 : decode (mB mX1_takeTube) 15 = .ok (.iload_n 1, 1) := by decide +kernel
theorem qX1_takeTube_16 : decode (mB mX1_takeTube) 16 = .ok (.ifCond .lt 14, 3) := by decide +kernel
theorem qX1_takeTube_19 : decode (mB mX1_takeTube) 19 = .ok (.iload_n 1, 1) := by decide +kernel
theorem qX1_takeTube_20 : decode (mB mX1_takeTube) 20 = .ok (.aload_n 0, 1) := by decide +kernel
theorem qX1_takeTube_21 : decode (mB mX1_takeTube) 21 = .ok (.getfield 18, 3) := by decide +kernel
theorem qX1_takeTube_24 : decode (mB mX1_takeTube) 24 = .ok (.getfield 118, 3) := by decide +kernel
theorem qX1_takeTube_27 : decode (mB mX1_takeTube) 27 = .ok (.if_icmp .lt 5, 3) := by decide +kernel
theorem qX1_takeTube_30 : decode (mB mX1_takeTube) 30 = .ok (.aconst_null, 1) := by decide +kernel
theorem qX1_takeTube_31 : decode (mB mX1_takeTube) 31 = .ok (.areturn, 1) := by decide +kernel
theorem qX1_takeTube_32 : decode (mB mX1_takeTube) 32 = .ok (.aload_n 0, 1) := by decide +kernel
theorem qX1_takeTube_33 : decode (mB mX1_takeTube) 33 = .ok (.getfield 18, 3) := by decide +kernel
theorem qX1_takeTube_36 : decode (mB mX1_takeTube) 36 = .ok (.getfield 248, 3) := by decide +kernel
theorem qX1_takeTube_39 : decode (mB mX1_takeTube) 39 = .ok (.iload_n 1, 1) := by decide +kernel
theorem qX1_takeTube_40 : decode (mB mX1_takeTube) 40 = .ok (.aaload, 1) := by decide +kernel
theorem qX1_takeTube_41 : decode (mB mX1_takeTube) 41 = .ok (.areturn, 1) := by decide +kernel
theorem qX1_takeWord_0 : decode (mB mX1_takeWord) 0 = .ok (.aload_n 0, 1) := by decide +kernel
theorem qX1_takeWord_1 : decode (mB mX1_takeWord) 1 = .ok (.aload_n 1, 1) := by decide +kernel
theorem qX1_takeWord_2 : decode (mB mX1_takeWord) 2 = .ok (.invokevirtual 95, 3) := by decide +kernel
theorem qX1_takeWord_5 : decode (mB mX1_takeWord) 5 = .ok (.istore_n 2, 1) := by decide +kernel
theorem qX1_takeWord_6 : decode (mB mX1_takeWord) 6 = .ok (.iload_n 2, 1) := by decide +kernel
theorem qX1_takeWord_7 : decode (mB mX1_takeWord) 7 = .ok (.ifCond .eq 7, 3) := by decide +kernel
theorem qX1_takeWord_10 : decode (mB mX1_takeWord) 10 = .ok (.aload_n 0, 1) := by decide +kernel
theorem qX1_takeWord_11 : decode (mB mX1_takeWord) 11 = .ok (.invokevirtual 51, 3) := by decide +kernel
theorem qX1_takeWord_14 : decode (mB mX1_takeWord) 14 = .ok (.iload_n 2, 1) := by decide +kernel
theorem qX1_takeWord_15 : decode (mB mX1_takeWord) 15 = .ok (.ireturn, 1) := by decide +kernel
theorem qX1_tokenName_0 : decode (mB mX1_tokenName) 0 = .ok (.aload_n 0, 1) := by decide +kernel
theorem qX1_tokenName_1 : decode (mB mX1_tokenName) 1 = .ok (.getfield 57, 3) := by decide +kernel
theorem qX1_tokenName_4 : decode (mB mX1_tokenName) 4 = .ok (.iconst 1, 1) := by decide +kernel
theorem qX1_tokenName_5 : decode (mB mX1_tokenName) 5 = .ok (.if_icmp .ne 16, 3) := by decide +kernel
theorem qX1_tokenName_8 : decode (mB mX1_tokenName) 8 = .ok (.aload_n 0, 1) := by decide +kernel
theorem qX1_tokenName_9 : decode (mB mX1_tokenName) 9 = .ok (.getfield 48, 3) := by decide +kernel
theorem qX1_tokenName_12 : decode (mB mX1_tokenName) 12 = .ok (.aload_n 0, 1) := by decide +kernel
theorem qX1_tokenName_13 : decode (mB mX1_tokenName) 13 = .ok (.getfield 242, 3) := by decide +kernel
theorem qX1_tokenName_16 : decode (mB mX1_tokenName) 16 = .ok (.isub, 1) := by decide +kernel
theorem qX1_tokenName_17 : decode (mB mX1_tokenName) 17 = .ok (.iconst 4, 1) := by decide +kernel
theorem qX1_tokenName_18 : decode (mB mX1_tokenName) 18 = .ok (.if_icmp .le 5, 3) := by decide +kernel
theorem qX1_tokenName_21 : decode (mB mX1_tokenName) 21 = .ok (.iconst 0, 1) := by decide +kernel
theorem qX1_tokenName_22 : decode (mB mX1_tokenName) 22 = .ok (.ireturn, 1) := by decide +kernel
theorem qX1_tokenName_23 : decode (mB mX1_tokenName) 23 = .ok (.iconst 0, 1) := by decide +kernel
theorem qX1_tokenName_24 : decode (mB mX1_tokenName) 24 = .ok (.istore_n 1, 1) := by decide +kernel
theorem qX1_tokenName_25 : decode (mB mX1_tokenName) 25 = .ok (.aload_n 0, 1) := by decide +kernel
theorem qX1_tokenName_26 : decode (mB mX1_tokenName) 26 = .ok (.getfield 242, 3) := by decide +kernel
theorem qX1_tokenName_29 : decode (mB mX1_tokenName) 29 = .ok (.istore_n 2, 1) := by decide +kernel
theorem qX1_tokenName_30 : decode (mB mX1_tokenName) 30 = .ok (.iload_n 2, 1) := by decide +kernel
theorem qX1_tokenName_31 : decode (mB mX1_tokenName) 31 = .ok (.aload_n 0, 1) := by decide +kernel
theorem qX1_tokenName_32 : decode (mB mX1_tokenName) 32 = .ok (.getfield 48, 3) := by decide +kernel
theorem qX1_tokenName_35 : decode (mB mX1_tokenName) 35 = .ok (.if_icmp .ge 21, 3) := by decide +kernel
theorem qX1_tokenName_38 : decode (mB mX1_tokenName) 38 = .ok (.iload_n 1, 1) := by decide +kernel
theorem qX1_tokenName_39 : decode (mB mX1_tokenName) 39 = .ok (.bipush 8, 2) := by decide +kernel
theorem qX1_tokenName_41 : decode (mB mX1_tokenName) 41 = .ok (.ishl, 1) := by decide +kernel
theorem qX1_tokenName_42 : decode (mB mX1_tokenName) 42 = .ok (.aload_n 0, 1) := by decide +kernel
theorem qX1_tokenName_43 : decode (mB mX1_tokenName) 43 = .ok (.getfield 11, 3) := by decide +kernel
theorem qX1_tokenName_46 : decode (mB mX1_tokenName) 46 = .ok (.iload_n 2, 1) := by decide +kernel
theorem qX1_tokenName_47 : decode (mB mX1_tokenName) 47 = .ok (.baload, 1) := by decide +kernel
theorem qX1_tokenName_48 : decode (mB mX1_tokenName) 48 = .ok (.ior, 1) := by decide +kernel
theorem qX1_tokenName_49 : decode (mB mX1_tokenName) 49 = .ok (.istore_n 1, 1) := by decide +kernel
theorem qX1_tokenName_50 : decode (mB mX1_tokenName) 50 = .ok (.iinc 2 1, 3) := by decide +kernel
theorem qX1_tokenName_53 : decode (mB mX1_tokenName) 53 = .ok (.goto (-23), 3) := by decide +kernel
theorem qX1_tokenName_56 : decode (mB mX1_tokenName) 56 = .ok (.iload_n 1, 1) := by decide +kernel
theorem qX1_tokenName_57 : decode (mB mX1_tokenName) 57 = .ok (.ireturn, 1) := by decide +kernel
theorem qX1_tokenNumber_0 : decode (mB mX1_tokenNumber) 0 = .ok (.aload_n 0, 1) := by decide +kernel
theorem qX1_tokenNumber_1 : decode (mB mX1_tokenNumber) 1 = .ok (.getfield 57, 3) := by decide +kernel
theorem qX1_tokenNumber_4 : decode (mB mX1_tokenNumber) 4 = .ok (.iconst 2, 1) := by decide +kernel
theorem qX1_tokenNumber_5 : decode (mB mX1_tokenNumber) 5 = .ok (.if_icmp .eq 5, 3) := by decide +kernel
theorem qX1_tokenNumber_8 : decode (mB mX1_tokenNumber) 8 = .ok (.iconst (-1), 1) := by decide +kernel
theorem qX1_tokenNumber_9 : decode (mB mX1_tokenNumber) 9 = .ok (.ireturn, 1) := by decide +kernel
theorem qX1_tokenNumber_10 : decode (mB mX1_tokenNumber) 10 = .ok (.iconst 0, 1) := by decide +kernel
theorem qX1_tokenNumber_11 : decode (mB mX1_tokenNumber) 11 = .ok (.istore_n 1, 1) := by decide +kernel
theorem qX1_tokenNumber_12 : decode (mB mX1_tokenNumber) 12 = .ok (.aload_n 0, 1) := by decide +kernel
theorem qX1_tokenNumber_13 : decode (mB mX1_tokenNumber) 13 = .ok (.getfield 242, 3) := by decide +kernel
theorem qX1_tokenNumber_16 : decode (mB mX1_tokenNumber) 16 = .ok (.istore_n 2, 1) := by decide +kernel
theorem qX1_tokenNumber_17 : decode (mB mX1_tokenNumber) 17 = .ok (.iload_n 2, 1) := by decide +kernel
theorem qX1_tokenNumber_18 : decode (mB mX1_tokenNumber) 18 = .ok (.aload_n 0, 1) := by decide +kernel
theorem qX1_tokenNumber_19 : decode (mB mX1_tokenNumber) 19 = .ok (.getfield 48, 3) := by decide +kernel
theorem qX1_tokenNumber_22 : decode (mB mX1_tokenNumber) 22 = .ok (.if_icmp .ge 30, 3) := by decide +kernel
theorem qX1_tokenNumber_25 : decode (mB mX1_tokenNumber) 25 = .ok (.bipush 10, 2) := by decide +kernel
theorem qX1_tokenNumber_27 : decode (mB mX1_tokenNumber) 27 = .ok (.iload_n 1, 1) := by decide +kernel
theorem qX1_tokenNumber_28 : decode (mB mX1_tokenNumber) 28 = .ok (.imul, 1) := by decide +kernel
theorem qX1_tokenNumber_29 : decode (mB mX1_tokenNumber) 29 = .ok (.aload_n 0, 1) := by decide +kernel
theorem qX1_tokenNumber_30 : decode (mB mX1_tokenNumber) 30 = .ok (.getfield 11, 3) := by decide +kernel
theorem qX1_tokenNumber_33 : decode (mB mX1_tokenNumber) 33 = .ok (.iload_n 2, 1) := by decide +kernel
theorem qX1_tokenNumber_34 : decode (mB mX1_tokenNumber) 34 = .ok (.baload, 1) := by decide +kernel
theorem qX1_tokenNumber_35 : decode (mB mX1_tokenNumber) 35 = .ok (.iadd, 1) := by decide +kernel
theorem qX1_tokenNumber_36 : decode (mB mX1_tokenNumber) 36 = .ok (.bipush 48, 2) := by decide +kernel
theorem qX1_tokenNumber_38 : decode (mB mX1_tokenNumber) 38 = .ok (.isub, 1) := by decide +kernel
theorem qX1_tokenNumber_39 : decode (mB mX1_tokenNumber) 39 = .ok (.ldc_w 263, 3) := by decide +kernel
theorem qX1_tokenNumber_42 : decode (mB mX1_tokenNumber) 42 = .ok (.invokestatic 264, 3) := by decide +kernel
theorem qX1_tokenNumber_45 : decode (mB mX1_tokenNumber) 45 = .ok (.istore_n 1, 1) := by decide +kernel
theorem qX1_tokenNumber_46 : decode (mB mX1_tokenNumber) 46 = .ok (.iinc 2 1, 3) := by decide +kernel
theorem qX1_tokenNumber_49 : decode (mB mX1_tokenNumber) 49 = .ok (.goto (-32), 3) := by decide +kernel
theorem qX1_tokenNumber_52 : decode (mB mX1_tokenNumber) 52 = .ok (.iload_n 1, 1) := by decide +kernel
theorem qX1_tokenNumber_53 : decode (mB mX1_tokenNumber) 53 = .ok (.ireturn, 1) := by decide +kernel
theorem qX2_addPoint_0 : decode (mB mX2_addPoint) 0 = .ok (.aload_n 0, 1) := by decide +kernel
theorem qX2_addPoint_1 : decode (mB mX2_addPoint) 1 = .ok (.getfield 34, 3) := by decide +kernel
theorem qX2_addPoint_4 : decode (mB mX2_addPoint) 4 = .ok (.bipush 6, 2) := by decide +kernel
theorem qX2_addPoint_6 : decode (mB mX2_addPoint) 6 = .ok (.if_icmp .ge 33, 3) := by decide +kernel
theorem qX2_addPoint_9 : decode (mB mX2_addPoint) 9 = .ok (.aload_n 0, 1) := by decide +kernel
theorem qX2_addPoint_10 : decode (mB mX2_addPoint) 10 = .ok (.getfield 15, 3) := by decide +kernel
theorem qX2_addPoint_13 : decode (mB mX2_addPoint) 13 = .ok (.aload_n 0, 1) := by decide +kernel
theorem qX2_addPoint_14 : decode (mB mX2_addPoint) 14 = .ok (.getfield 34, 3) := by decide +kernel
theorem qX2_addPoint_17 : decode (mB mX2_addPoint) 17 = .ok (.iload_n 1, 1) := by decide +kernel
theorem qX2_addPoint_18 : decode (mB mX2_addPoint) 18 = .ok (.iastore, 1) := by decide +kernel
theorem qX2_addPoint_19 : decode (mB mX2_addPoint) 19 = .ok (.aload_n 0, 1) := by decide +kernel
theorem qX2_addPoint_20 : decode (mB mX2_addPoint) 20 = .ok (.getfield 19, 3) := by decide +kernel
theorem qX2_addPoint_23 : decode (mB mX2_addPoint) 23 = .ok (.aload_n 0, 1) := by decide +kernel
theorem qX2_addPoint_24 : decode (mB mX2_addPoint) 24 = .ok (.getfield 34, 3) := by decide +kernel
theorem qX2_addPoint_27 : decode (mB mX2_addPoint) 27 = .ok (.iload_n 2, 1) := by decide +kernel
theorem qX2_addPoint_28 : decode (mB mX2_addPoint) 28 = .ok (.iastore, 1) := by decide +kernel
theorem qX2_addPoint_29 : decode (mB mX2_addPoint) 29 = .ok (.aload_n 0, 1) := by decide +kernel
theorem qX2_addPoint_30 : decode (mB mX2_addPoint) 30 = .ok (.dup, 1) := by decide +kernel
theorem qX2_addPoint_31 : decode (mB mX2_addPoint) 31 = .ok (.getfield 34, 3) := by decide +kernel
theorem qX2_addPoint_34 : decode (mB mX2_addPoint) 34 = .ok (.iconst 1, 1) := by decide +kernel
theorem qX2_addPoint_35 : decode (mB mX2_addPoint) 35 = .ok (.iadd, 1) := by decide +kernel
theorem qX2_addPoint_36 : decode (mB mX2_addPoint) 36 = .ok (.putfield 34, 3) := by decide +kernel
theorem qX2_addPoint_39 : decode (mB mX2_addPoint) 39 = .ok (.return_, 1) := by decide +kernel
theorem qX2_addSpirit_0 : decode (mB mX2_addSpirit) 0 = .ok (.aload_n 0, 1) := by decide +kernel
theorem qX2_addSpirit_1 : decode (mB mX2_addSpirit) 1 = .ok (.dup, 1) := by decide +kernel
theorem qX2_addSpirit_2 : decode (mB mX2_addSpirit) 2 = .ok (.getfield 52, 3) := by decide +kernel
theorem qX2_addSpirit_5 : decode (mB mX2_addSpirit) 5 = .ok (.iload_n 1, 1) := by decide +kernel
theorem qX2_addSpirit_6 : decode (mB mX2_addSpirit) 6 = .ok (.iadd, 1) := by decide +kernel
theorem qX2_addSpirit_7 : decode (mB mX2_addSpirit) 7 = .ok (.putfield 52, 3) := by decide +kernel
theorem qX2_addSpirit_10 : decode (mB mX2_addSpirit) 10 = .ok (.aload_n 0, 1) := by decide +kernel
theorem qX2_addSpirit_11 : decode (mB mX2_addSpirit) 11 = .ok (.dup, 1) := by decide +kernel
theorem qX2_addSpirit_12 : decode (mB mX2_addSpirit) 12 = .ok (.getfield 62, 3) := by decide +kernel
theorem qX2_addSpirit_15 : decode (mB mX2_addSpirit) 15 = .ok (.iload_n 1, 1) := by decide +kernel
theorem qX2_addSpirit_16 : decode (mB mX2_addSpirit) 16 = .ok (.iadd, 1) := by decide +kernel
theorem qX2_addSpirit_17 : decode (mB mX2_addSpirit) 17 = .ok (.putfield 62, 3) := by decide +kernel
theorem qX2_addSpirit_20 : decode (mB mX2_addSpirit) 20 = .ok (.return_, 1) := by decide +kernel
theorem qX2_copyFrom_0 : decode (mB mX2_copyFrom) 0 = .ok (.aload_n 1, 1) := by decide +kernel
theorem qX2_copyFrom_1 : decode (mB mX2_copyFrom) 1 = .ok (.getfield 15, 3) := by decide +kernel
theorem qX2_copyFrom_4 : decode (mB mX2_copyFrom) 4 = .ok (.iconst 0, 1) := by decide +kernel
theorem qX2_copyFrom_5 : decode (mB mX2_copyFrom) 5 = .ok (.aload_n 0, 1) := by decide +kernel
theorem qX2_copyFrom_6 : decode (mB mX2_copyFrom) 6 = .ok (.getfield 15, 3) := by decide +kernel
theorem qX2_copyFrom_9 : decode (mB mX2_copyFrom) 9 = .ok (.iconst 0, 1) := by decide +kernel
theorem qX2_copyFrom_10 : decode (mB mX2_copyFrom) 10 = .ok (.bipush 6, 2) := by decide +kernel
theorem qX2_copyFrom_12 : decode (mB mX2_copyFrom) 12 = .ok (.invokestatic 28, 3) := by decide +kernel
theorem qX2_copyFrom_15 : decode (mB mX2_copyFrom) 15 = .ok (.aload_n 1, 1) := by decide +kernel
theorem qX2_copyFrom_16 : decode (mB mX2_copyFrom) 16 = .ok (.getfield 19, 3) := by decide +kernel
theorem qX2_copyFrom_19 : decode (mB mX2_copyFrom) 19 = .ok (.iconst 0, 1) := by decide +kernel
theorem qX2_copyFrom_20 : decode (mB mX2_copyFrom) 20 = .ok (.aload_n 0, 1) := by decide +kernel
theorem qX2_copyFrom_21 : decode (mB mX2_copyFrom) 21 = .ok (.getfield 19, 3) := by decide +kernel
theorem qX2_copyFrom_24 : decode (mB mX2_copyFrom) 24 = .ok (.iconst 0, 1) := by decide +kernel
theorem qX2_copyFrom_25 : decode (mB mX2_copyFrom) 25 = .ok (.bipush 6, 2) := by decide +kernel
theorem qX2_copyFrom_27 : decode (mB mX2_copyFrom) 27 = .ok (.invokestatic 28, 3) := by decide +kernel
theorem qX2_copyFrom_30 : decode (mB mX2_copyFrom) 30 = .ok (.aload_n 0, 1) := by decide +kernel
theorem qX2_copyFrom_31 : decode (mB mX2_copyFrom) 31 = .ok (.aload_n 1, 1) := by decide +kernel
theorem qX2_copyFrom_32 : decode (mB mX2_copyFrom) 32 = .ok (.getfield 34, 3) := by decide +kernel
theorem qX2_copyFrom_35 : decode (mB mX2_copyFrom) 35 = .ok (.putfield 34, 3) := by decide +kernel
theorem qX2_copyFrom_38 : decode (mB mX2_copyFrom) 38 = .ok (.aload_n 0, 1) := by decide +kernel
theorem qX2_copyFrom_39 : decode (mB mX2_copyFrom) 39 = .ok (.aload_n 1, 1) := by decide +kernel
theorem qX2_copyFrom_40 : decode (mB mX2_copyFrom) 40 = .ok (.getfield 37, 3) := by decide +kernel
theorem qX2_copyFrom_43 : decode (mB mX2_copyFrom) 43 = .ok (.putfield 37, 3) := by decide +kernel
theorem qX2_copyFrom_46 : decode (mB mX2_copyFrom) 46 = .ok (.aload_n 0, 1) := by decide +kernel
theorem qX2_copyFrom_47 : decode (mB mX2_copyFrom) 47 = .ok (.aload_n 1, 1) := by decide +kernel
theorem qX2_copyFrom_48 : decode (mB mX2_copyFrom) 48 = .ok (.getfield 40, 3) := by decide +kernel
theorem qX2_copyFrom_51 : decode (mB mX2_copyFrom) 51 = .ok (.putfield 40, 3) := by decide +kernel
theorem qX2_copyFrom_54 : decode (mB mX2_copyFrom) 54 = .ok (.aload_n 0, 1) := by decide +kernel
theorem qX2_copyFrom_55 : decode (mB mX2_copyFrom) 55 = .ok (.aload_n 1, 1) := by decide +kernel
theorem qX2_copyFrom_56 : decode (mB mX2_copyFrom) 56 = .ok (.getfield 43, 3) := by decide +kernel
theorem qX2_copyFrom_59 : decode (mB mX2_copyFrom) 59 = .ok (.putfield 43, 3) := by decide +kernel
theorem qX2_copyFrom_62 : decode (mB mX2_copyFrom) 62 = .ok (.aload_n 0, 1) := by decide +kernel
theorem qX2_copyFrom_63 : decode (mB mX2_copyFrom) 63 = .ok (.aload_n 1, 1) := by decide +kernel
theorem qX2_copyFrom_64 : decode (mB mX2_copyFrom) 64 = .ok (.getfield 46, 3) := by decide +kernel
theorem qX2_copyFrom_67 : decode (mB mX2_copyFrom) 67 = .ok (.putfield 46, 3) := by decide +kernel
theorem qX2_copyFrom_70 : decode (mB mX2_copyFrom) 70 = .ok (.aload_n 0, 1) := by decide +kernel
theorem qX2_copyFrom_71 : decode (mB mX2_copyFrom) 71 = .ok (.aload_n 1, 1) := by decide +kernel
theorem qX2_copyFrom_72 : decode (mB mX2_copyFrom) 72 = .ok (.getfield 22, 3) := by decide +kernel
theorem qX2_copyFrom_75 : decode (mB mX2_copyFrom) 75 = .ok (.putfield 22, 3) := by decide +kernel
theorem qX2_copyFrom_78 : decode (mB mX2_copyFrom) 78 = .ok (.aload_n 0, 1) := by decide +kernel
theorem qX2_copyFrom_79 : decode (mB mX2_copyFrom) 79 = .ok (.aload_n 1, 1) := by decide +kernel
theorem qX2_copyFrom_80 : decode (mB mX2_copyFrom) 80 = .ok (.getfield 49, 3) := by decide +kernel
theorem qX2_copyFrom_83 : decode (mB mX2_copyFrom) 83 = .ok (.putfield 49, 3) := by decide +kernel
theorem qX2_copyFrom_86 : decode (mB mX2_copyFrom) 86 = .ok (.aload_n 0, 1) := by decide +kernel
theorem qX2_copyFrom_87 : decode (mB mX2_copyFrom) 87 = .ok (.aload_n 1, 1) := by decide +kernel
theorem qX2_copyFrom_88 : decode (mB mX2_copyFrom) 88 = .ok (.getfield 52, 3) := by decide +kernel
theorem qX2_copyFrom_91 : decode (mB mX2_copyFrom) 91 = .ok (.putfield 52, 3) := by decide +kernel
theorem qX2_copyFrom_94 : decode (mB mX2_copyFrom) 94 = .ok (.aload_n 0, 1) := by decide +kernel
theorem qX2_copyFrom_95 : decode (mB mX2_copyFrom) 95 = .ok (.aload_n 1, 1) := by decide +kernel
theorem qX2_copyFrom_96 : decode (mB mX2_copyFrom) 96 = .ok (.getfield 55, 3) := by decide +kernel
theorem qX2_copyFrom_99 : decode (mB mX2_copyFrom) 99 = .ok (.putfield 55, 3) := by decide +kernel
theorem qX2_copyFrom_102 : decode (mB mX2_copyFrom) 102 = .ok (.aload_n 0, 1) := by decide +kernel
theorem qX2_copyFrom_103 : decode (mB mX2_copyFrom) 103 = .ok (.aload_n 1, 1) := by decide +kernel
theorem qX2_copyFrom_104 : decode (mB mX2_copyFrom) 104 = .ok (.getfield 25, 3) := by decide +kernel
theorem qX2_copyFrom_107 : decode (mB mX2_copyFrom) 107 = .ok (.putfield 25, 3) := by decide +kernel
theorem qX2_copyFrom_110 : decode (mB mX2_copyFrom) 110 = .ok (.aload_n 0, 1) := by decide +kernel
theorem qX2_copyFrom_111 : decode (mB mX2_copyFrom) 111 = .ok (.aload_n 1, 1) := by decide +kernel
theorem qX2_copyFrom_112 : decode (mB mX2_copyFrom) 112 = .ok (.getfield 58, 3) := by decide +kernel
theorem qX2_copyFrom_115 : decode (mB mX2_copyFrom) 115 = .ok (.putfield 58, 3) := by decide +kernel
theorem qX2_copyFrom_118 : decode (mB mX2_copyFrom) 118 = .ok (.aload_n 0, 1) := by decide +kernel
theorem qX2_copyFrom_119 : decode (mB mX2_copyFrom) 119 = .ok (.aload_n 1, 1) := by decide +kernel
theorem qX2_copyFrom_120 : decode (mB mX2_copyFrom) 120 = .ok (.getfield 62, 3) := by decide +kernel
theorem qX2_copyFrom_123 : decode (mB mX2_copyFrom) 123 = .ok (.putfield 62, 3) := by decide +kernel
theorem qX2_copyFrom_126 : decode (mB mX2_copyFrom) 126 = .ok (.aload_n 0, 1) := by decide +kernel
theorem qX2_copyFrom_127 : decode (mB mX2_copyFrom) 127 = .ok (.aload_n 1, 1) := by decide +kernel
theorem qX2_copyFrom_128 : decode (mB mX2_copyFrom) 128 = .ok (.getfield 65, 3) := by decide +kernel
theorem qX2_copyFrom_131 : decode (mB mX2_copyFrom) 131 = .ok (.putfield 65, 3) := by decide +kernel
theorem qX2_copyFrom_134 : decode (mB mX2_copyFrom) 134 = .ok (.aload_n 0, 1) := by decide +kernel
theorem qX2_copyFrom_135 : decode (mB mX2_copyFrom) 135 = .ok (.aload_n 1, 1) := by decide +kernel
theorem qX2_copyFrom_136 : decode (mB mX2_copyFrom) 136 = .ok (.getfield 68, 3) := by decide +kernel
theorem qX2_copyFrom_139 : decode (mB mX2_copyFrom) 139 = .ok (.putfield 68, 3) := by decide +kernel
theorem qX2_copyFrom_142 : decode (mB mX2_copyFrom) 142 = .ok (.return_, 1) := by decide +kernel
theorem qX2_describe_0 : decode (mB mX2_describe) 0 = .ok (.aload_n 0, 1) := by decide +kernel
theorem qX2_describe_1 : decode (mB mX2_describe) 1 = .ok (.iload_n 1, 1) := by decide +kernel
theorem qX2_describe_2 : decode (mB mX2_describe) 2 = .ok (.putfield 46, 3) := by decide +kernel
theorem qX2_describe_5 : decode (mB mX2_describe) 5 = .ok (.aload_n 0, 1) := by decide +kernel
theorem qX2_describe_6 : decode (mB mX2_describe) 6 = .ok (.iload_n 2, 1) := by decide +kernel
theorem qX2_describe_7 : decode (mB mX2_describe) 7 = .ok (.putfield 22, 3) := by decide +kernel
theorem qX2_describe_10 : decode (mB mX2_describe) 10 = .ok (.aload_n 0, 1) := by decide +kernel
theorem qX2_describe_11 : decode (mB mX2_describe) 11 = .ok (.iload_n 3, 1) := by decide +kernel
theorem qX2_describe_12 : decode (mB mX2_describe) 12 = .ok (.putfield 49, 3) := by decide +kernel
theorem qX2_describe_15 : decode (mB mX2_describe) 15 = .ok (.aload_n 0, 1) := by decide +kernel
theorem qX2_describe_16 : decode (mB mX2_describe) 16 = .ok (.iload 4, 2) := by decide +kernel
theorem qX2_describe_18 : decode (mB mX2_describe) 18 = .ok (.putfield 52, 3) := by decide +kernel
theorem qX2_describe_21 : decode (mB mX2_describe) 21 = .ok (.aload_n 0, 1) := by decide +kernel
theorem qX2_describe_22 : decode (mB mX2_describe) 22 = .ok (.iload 4, 2) := by decide +kernel
theorem qX2_describe_24 : decode (mB mX2_describe) 24 = .ok (.putfield 62, 3) := by decide +kernel
theorem qX2_describe_27 : decode (mB mX2_describe) 27 = .ok (.aload_n 0, 1) := by decide +kernel
theorem qX2_describe_28 : decode (mB mX2_describe) 28 = .ok (.iload 5, 2) := by decide +kernel
theorem qX2_describe_30 : decode (mB mX2_describe) 30 = .ok (.putfield 55, 3) := by decide +kernel
theorem qX2_describe_33 : decode (mB mX2_describe) 33 = .ok (.aload_n 0, 1) := by decide +kernel
theorem qX2_describe_34 : decode (mB mX2_describe) 34 = .ok (.iconst 0, 1) := by decide +kernel
theorem qX2_describe_35 : decode (mB mX2_describe) 35 = .ok (.putfield 34, 3) := by decide +kernel
theorem qX2_describe_38 : decode (mB mX2_describe) 38 = .ok (.aload_n 0, 1) := by decide +kernel
theorem qX2_describe_39 : decode (mB mX2_describe) 39 = .ok (.iconst (-1), 1) := by decide +kernel
theorem qX2_describe_40 : decode (mB mX2_describe) 40 = .ok (.putfield 25, 3) := by decide +kernel
theorem qX2_describe_43 : decode (mB mX2_describe) 43 = .ok (.aload_n 0, 1) := by decide +kernel
theorem qX2_describe_44 : decode (mB mX2_describe) 44 = .ok (.iconst 0, 1) := by decide +kernel
theorem qX2_describe_45 : decode (mB mX2_describe) 45 = .ok (.putfield 58, 3) := by decide +kernel
theorem qX2_describe_48 : decode (mB mX2_describe) 48 = .ok (.aload_n 0, 1) := by decide +kernel
theorem qX2_describe_49 : decode (mB mX2_describe) 49 = .ok (.iconst 0, 1) := by decide +kernel
theorem qX2_describe_50 : decode (mB mX2_describe) 50 = .ok (.putfield 65, 3) := by decide +kernel
theorem qX2_describe_53 : decode (mB mX2_describe) 53 = .ok (.aload_n 0, 1) := by decide +kernel
theorem qX2_describe_54 : decode (mB mX2_describe) 54 = .ok (.iconst 0, 1) := by decide +kernel
theorem qX2_describe_55 : decode (mB mX2_describe) 55 = .ok (.putfield 68, 3) := by decide +kernel
theorem qX2_describe_58 : decode (mB mX2_describe) 58 = .ok (.return_, 1) := by decide +kernel
theorem qX2_freeHeight_0 : decode (mB mX2_freeHeight) 0 = .ok (.aload_n 0, 1) := by decide +kernel
theorem qX2_freeHeight_1 : decode (mB mX2_freeHeight) 1 = .ok (.getfield 22, 3) := by decide +kernel
theorem qX2_freeHeight_4 : decode (mB mX2_freeHeight) 4 = .ok (.sipush 1000, 3) := by decide +kernel
theorem qX2_freeHeight_7 : decode (mB mX2_freeHeight) 7 = .ok (.imul, 1) := by decide +kernel
theorem qX2_freeHeight_8 : decode (mB mX2_freeHeight) 8 = .ok (.istore_n 2, 1) := by decide +kernel
theorem qX2_freeHeight_9 : decode (mB mX2_freeHeight) 9 = .ok (.iload_n 2, 1) := by decide +kernel
theorem qX2_freeHeight_10 : decode (mB mX2_freeHeight) 10 = .ok (.ifCond .gt 8, 3) := by decide +kernel
theorem qX2_freeHeight_13 : decode (mB mX2_freeHeight) 13 = .ok (.aload_n 0, 1) := by decide +kernel
theorem qX2_freeHeight_14 : decode (mB mX2_freeHeight) 14 = .ok (.getfield 52, 3) := by decide +kernel
theorem qX2_freeHeight_17 : decode (mB mX2_freeHeight) 17 = .ok (.ireturn, 1) := by decide +kernel
theorem qX2_freeHeight_18 : decode (mB mX2_freeHeight) 18 = .ok (.aload_n 0, 1) := by decide +kernel
theorem qX2_freeHeight_19 : decode (mB mX2_freeHeight) 19 = .ok (.getfield 52, 3) := by decide +kernel
theorem qX2_freeHeight_22 : decode (mB mX2_freeHeight) 22 = .ok (.aload_n 0, 1) := by decide +kernel
theorem qX2_freeHeight_23 : decode (mB mX2_freeHeight) 23 = .ok (.getfield 46, 3) := by decide +kernel
theorem qX2_freeHeight_26 : decode (mB mX2_freeHeight) 26 = .ok (.aload_n 0, 1) := by decide +kernel
theorem qX2_freeHeight_27 : decode (mB mX2_freeHeight) 27 = .ok (.getfield 43, 3) := by decide +kernel
theorem qX2_freeHeight_30 : decode (mB mX2_freeHeight) 30 = .ok (.imul, 1) := by decide +kernel
theorem qX2_freeHeight_31 : decode (mB mX2_freeHeight) 31 = .ok (.iload_n 1, 1) := by decide +kernel
theorem qX2_freeHeight_32 : decode (mB mX2_freeHeight) 32 = .ok (.sipush 300, 3) := by decide +kernel
theorem qX2_freeHeight_35 : decode (mB mX2_freeHeight) 35 = .ok (.iadd, 1) := by decide +kernel
theorem qX2_freeHeight_36 : decode (mB mX2_freeHeight) 36 = .ok (.imul, 1) := by decide +kernel
theorem qX2_freeHeight_37 : decode (mB mX2_freeHeight) 37 = .ok (.iload_n 2, 1) := by decide +kernel
theorem qX2_freeHeight_38 : decode (mB mX2_freeHeight) 38 = .ok (.idiv, 1) := by decide +kernel
theorem qX2_freeHeight_39 : decode (mB mX2_freeHeight) 39 = .ok (.iadd, 1) := by decide +kernel
theorem qX2_freeHeight_40 : decode (mB mX2_freeHeight) 40 = .ok (.ireturn, 1) := by decide +kernel
theorem qX2_greatestMisfit_0 : decode (mB mX2_greatestMisfit) 0 = .ok (.iconst 0, 1) := by decide +kernel
theorem qX2_greatestMisfit_1 : decode (mB mX2_greatestMisfit) 1 = .ok (.istore_n 1, 1) := by decide +kernel
theorem qX2_greatestMisfit_2 : decode (mB mX2_greatestMisfit) 2 = .ok (.iconst 0, 1) := by decide +kernel
theorem qX2_greatestMisfit_3 : decode (mB mX2_greatestMisfit) 3 = .ok (.istore_n 2, 1) := by decide +kernel
theorem qX2_greatestMisfit_4 : decode (mB mX2_greatestMisfit) 4 = .ok (.iload_n 2, 1) := by decide +kernel
theorem qX2_greatestMisfit_5 : decode (mB mX2_greatestMisfit) 5 = .ok (.aload_n 0, 1) := by decide +kernel
theorem qX2_greatestMisfit_6 : decode (mB mX2_greatestMisfit) 6 = .ok (.getfield 34, 3) := by decide +kernel
theorem qX2_greatestMisfit_9 : decode (mB mX2_greatestMisfit) 9 = .ok (.if_icmp .ge 19, 3) := by decide +kernel
theorem qX2_greatestMisfit_12 : decode (mB mX2_greatestMisfit) 12 = .ok (.iload_n 1, 1) := by decide +kernel
theorem qX2_greatestMisfit_13 : decode (mB mX2_greatestMisfit) 13 = .ok (.aload_n 0, 1) := by decide +kernel
theorem qX2_greatestMisfit_14 : decode (mB mX2_greatestMisfit) 14 = .ok (.iload_n 2, 1) := by decide +kernel
theorem qX2_greatestMisfit_15 : decode (mB mX2_greatestMisfit) 15 = .ok (.invokevirtual 97, 3) := by decide +kernel
theorem qX2_greatestMisfit_18 : decode (mB mX2_greatestMisfit) 18 = .ok (.invokestatic 100, 3) := by decide +kernel
theorem qX2_greatestMisfit_21 : decode (mB mX2_greatestMisfit) 21 = .ok (.istore_n 1, 1) := by decide +kernel
theorem qX2_greatestMisfit_22 : decode (mB mX2_greatestMisfit) 22 = .ok (.iinc 2 1, 3) := by decide +kernel
theorem qX2_greatestMisfit_25 : decode (mB mX2_greatestMisfit) 25 = .ok (.goto (-21), 3) := by decide +kernel
theorem qX2_greatestMisfit_28 : decode (mB mX2_greatestMisfit) 28 = .ok (.iload_n 1, 1) := by decide +kernel
theorem qX2_greatestMisfit_29 : decode (mB mX2_greatestMisfit) 29 = .ok (.ireturn, 1) := by decide +kernel
theorem qX2_hasPointOfDegrees_0 : decode (mB mX2_hasPointOfDegrees) 0 = .ok (.iconst 0, 1) := by decide +kernel
theorem qX2_hasPointOfDegrees_1 : decode (mB mX2_hasPointOfDegrees) 1 = .ok (.istore_n 2, 1) := by decide +kernel
theorem qX2_hasPointOfDegrees_2 : decode (mB mX2_hasPointOfDegrees) 2 = .ok (.iload_n 2, 1) := by decide +kernel
theorem qX2_hasPointOfDegrees_3 : decode (mB mX2_hasPointOfDegrees) 3 = .ok (.aload_n 0, 1) := by decide +kernel
theorem qX2_hasPointOfDegrees_4 : decode (mB mX2_hasPointOfDegrees) 4 = .ok (.getfield 34, 3) := by decide +kernel
theorem qX2_hasPointOfDegrees_7 : decode (mB mX2_hasPointOfDegrees) 7 = .ok (.if_icmp .ge 21, 3) := by decide +kernel
theorem qX2_hasPointOfDegrees_10 : decode (mB mX2_hasPointOfDegrees) 10 = .ok (.aload_n 0, 1) := by decide +kernel
theorem qX2_hasPointOfDegrees_11 : decode (mB mX2_hasPointOfDegrees) 11 = .ok (.getfield 15, 3) := by decide +kernel
theorem qX2_hasPointOfDegrees_14 : decode (mB mX2_hasPointOfDegrees) 14 = .ok (.iload_n 2, 1) := by decide +kernel
theorem qX2_hasPointOfDegrees_15 : decode (mB mX2_hasPointOfDegrees) 15 = .ok (.iaload, 1) := by decide +kernel
theorem qX2_hasPointOfDegrees_16 : decode (mB mX2_hasPointOfDegrees) 16 = .ok (.iload_n 1, 1) := by decide +kernel
theorem qX2_hasPointOfDegrees_17 : decode (mB mX2_hasPointOfDegrees) 17 = .ok (.if_icmp .ne 5, 3) := by decide +kernel
theorem qX2_hasPointOfDegrees_20 : decode (mB mX2_hasPointOfDegrees) 20 = .ok (.iconst 1, 1) := by decide +kernel
theorem qX2_hasPointOfDegrees_21 : decode (mB mX2_hasPointOfDegrees) 21 = .ok (.ireturn, 1) := by decide +kernel
theorem qX2_hasPointOfDegrees_22 : decode (mB mX2_hasPointOfDegrees) 22 = .ok (.iinc 2 1, 3) := by decide +kernel
theorem qX2_hasPointOfDegrees_25 : decode (mB mX2_hasPointOfDegrees) 25 = .ok (.goto (-23), 3) := by decide +kernel
theorem qX2_hasPointOfDegrees_28 : decode (mB mX2_hasPointOfDegrees) 28 = .ok (.iconst 0, 1) := by decide +kernel
theorem qX2_hasPointOfDegrees_29 : decode (mB mX2_hasPointOfDegrees) 29 = .ok (.ireturn, 1) := by decide +kernel
theorem qX2_hasPointOfHeight_0 : decode (mB mX2_hasPointOfHeight) 0 = .ok (.iconst 0, 1) := by decide +kernel
theorem qX2_hasPointOfHeight_1 : decode (mB mX2_hasPointOfHeight) 1 = .ok (.istore_n 2, 1) := by decide +kernel
theorem qX2_hasPointOfHeight_2 : decode (mB mX2_hasPointOfHeight) 2 = .ok (.iload_n 2, 1) := by decide +kernel
theorem qX2_hasPointOfHeight_3 : decode (mB mX2_hasPointOfHeight) 3 = .ok (.aload_n 0, 1) := by decide +kernel
theorem qX2_hasPointOfHeight_4 : decode (mB mX2_hasPointOfHeight) 4 = .ok (.getfield 34, 3) := by decide +kernel
theorem qX2_hasPointOfHeight_7 : decode (mB mX2_hasPointOfHeight) 7 = .ok (.if_icmp .ge 21, 3) := by decide +kernel
theorem qX2_hasPointOfHeight_10 : decode (mB mX2_hasPointOfHeight) 10 = .ok (.aload_n 0, 1) := by decide +kernel
theorem qX2_hasPointOfHeight_11 : decode (mB mX2_hasPointOfHeight) 11 = .ok (.getfield 19, 3) := by decide +kernel
theorem qX2_hasPointOfHeight_14 : decode (mB mX2_hasPointOfHeight) 14 = .ok (.iload_n 2, 1) := by decide +kernel
theorem qX2_hasPointOfHeight_15 : decode (mB mX2_hasPointOfHeight) 15 = .ok (.iaload, 1) := by decide +kernel
theorem qX2_hasPointOfHeight_16 : decode (mB mX2_hasPointOfHeight) 16 = .ok (.iload_n 1, 1) := by decide +kernel
theorem qX2_hasPointOfHeight_17 : decode (mB mX2_hasPointOfHeight) 17 = .ok (.if_icmp .ne 5, 3) := by decide +kernel
theorem qX2_hasPointOfHeight_20 : decode (mB mX2_hasPointOfHeight) 20 = .ok (.iconst 1, 1) := by decide +kernel
theorem qX2_hasPointOfHeight_21 : decode (mB mX2_hasPointOfHeight) 21 = .ok (.ireturn, 1) := by decide +kernel
theorem qX2_hasPointOfHeight_22 : decode (mB mX2_hasPointOfHeight) 22 = .ok (.iinc 2 1, 3) := by decide +kernel
theorem qX2_hasPointOfHeight_25 : decode (mB mX2_hasPointOfHeight) 25 = .ok (.goto (-23), 3) := by decide +kernel
theorem qX2_hasPointOfHeight_28 : decode (mB mX2_hasPointOfHeight) 28 = .ok (.iconst 0, 1) := by decide +kernel
theorem qX2_hasPointOfHeight_29 : decode (mB mX2_hasPointOfHeight) 29 = .ok (.ireturn, 1) := by decide +kernel
theorem qX2_holdSpirit_0 : decode (mB mX2_holdSpirit) 0 = .ok (.aload_n 0, 1) := by decide +kernel
theorem qX2_holdSpirit_1 : decode (mB mX2_holdSpirit) 1 = .ok (.iload_n 1, 1) := by decide +kernel
theorem qX2_holdSpirit_2 : decode (mB mX2_holdSpirit) 2 = .ok (.putfield 37, 3) := by decide +kernel
theorem qX2_holdSpirit_5 : decode (mB mX2_holdSpirit) 5 = .ok (.aload_n 0, 1) := by decide +kernel
theorem qX2_holdSpirit_6 : decode (mB mX2_holdSpirit) 6 = .ok (.iload_n 2, 1) := by decide +kernel
theorem qX2_holdSpirit_7 : decode (mB mX2_holdSpirit) 7 = .ok (.putfield 40, 3) := by decide +kernel
theorem qX2_holdSpirit_10 : decode (mB mX2_holdSpirit) 10 = .ok (.aload_n 0, 1) := by decide +kernel
theorem qX2_holdSpirit_11 : decode (mB mX2_holdSpirit) 11 = .ok (.iload_n 3, 1) := by decide +kernel
theorem qX2_holdSpirit_12 : decode (mB mX2_holdSpirit) 12 = .ok (.putfield 43, 3) := by decide +kernel
theorem qX2_holdSpirit_15 : decode (mB mX2_holdSpirit) 15 = .ok (.return_, 1) := by decide +kernel
theorem qX2_init_0 : decode (mB mX2_init) 0 = .ok (.aload_n 0, 1) := by decide +kernel
theorem qX2_init_1 : decode (mB mX2_init) 1 = .ok (.invokespecial 3, 3) := by decide +kernel
theorem qX2_init_4 : decode (mB mX2_init) 4 = .ok (.aload_n 0, 1) := by decide +kernel
theorem qX2_init_5 : decode (mB mX2_init) 5 = .ok (.iload_n 1, 1) := by decide +kernel
theorem qX2_init_6 : decode (mB mX2_init) 6 = .ok (.putfield 9, 3) := by decide +kernel
theorem qX2_init_9 : decode (mB mX2_init) 9 = .ok (.aload_n 0, 1) := by decide +kernel
theorem qX2_init_10 : decode (mB mX2_init) 10 = .ok (.bipush 6, 2) := by decide +kernel
theorem qX2_init_12 : decode (mB mX2_init) 12 = .ok (.newarray .int, 2) := by decide +kernel
theorem qX2_init_14 : decode (mB mX2_init) 14 = .ok (.putfield 15, 3) := by decide +kernel
theorem qX2_init_17 : decode (mB mX2_init) 17 = .ok (.aload_n 0, 1) := by decide +kernel
theorem qX2_init_18 : decode (mB mX2_init) 18 = .ok (.bipush 6, 2) := by decide +kernel
theorem qX2_init_20 : decode (mB mX2_init) 20 = .ok (.newarray .int, 2) := by decide +kernel
theorem qX2_init_22 : decode (mB mX2_init) 22 = .ok (.putfield 19, 3) := by decide +kernel
theorem qX2_init_25 : decode (mB mX2_init) 25 = .ok (.aload_n 0, 1) := by decide +kernel
theorem qX2_init_26 : decode (mB mX2_init) 26 = .ok (.iconst 1, 1) := by decide +kernel
theorem qX2_init_27 : decode (mB mX2_init) 27 = .ok (.putfield 22, 3) := by decide +kernel
theorem qX2_init_30 : decode (mB mX2_init) 30 = .ok (.aload_n 0, 1) := by decide +kernel
theorem qX2_init_31 : decode (mB mX2_init) 31 = .ok (.iconst (-1), 1) := by decide +kernel
theorem qX2_init_32 : decode (mB mX2_init) 32 = .ok (.putfield 25, 3) := by decide +kernel
theorem qX2_init_35 : decode (mB mX2_init) 35 = .ok (.return_, 1) := by decide +kernel
theorem qX2_level_0 : decode (mB mX2_level) 0 = .ok (.aload_n 0, 1) := by decide +kernel
theorem qX2_level_1 : decode (mB mX2_level) 1 = .ok (.aload_n 0, 1) := by decide +kernel
theorem qX2_level_2 : decode (mB mX2_level) 2 = .ok (.getfield 55, 3) := by decide +kernel
theorem qX2_level_5 : decode (mB mX2_level) 5 = .ok (.invokevirtual 71, 3) := by decide +kernel
theorem qX2_level_8 : decode (mB mX2_level) 8 = .ok (.aload_n 0, 1) := by decide +kernel
theorem qX2_level_9 : decode (mB mX2_level) 9 = .ok (.getfield 49, 3) := by decide +kernel
theorem qX2_level_12 : decode (mB mX2_level) 12 = .ok (.invokestatic 75, 3) := by decide +kernel
theorem qX2_level_15 : decode (mB mX2_level) 15 = .ok (.ireturn, 1) := by decide +kernel
theorem qX2_lowerPoint_0 : decode (mB mX2_lowerPoint) 0 = .ok (.iconst 0, 1) := by decide +kernel
theorem qX2_lowerPoint_1 : decode (mB mX2_lowerPoint) 1 = .ok (.istore_n 1, 1) := by decide +kernel
theorem qX2_lowerPoint_2 : decode (mB mX2_lowerPoint) 2 = .ok (.iconst 1, 1) := by decide +kernel
theorem qX2_lowerPoint_3 : decode (mB mX2_lowerPoint) 3 = .ok (.istore_n 2, 1) := by decide +kernel
theorem qX2_lowerPoint_4 : decode (mB mX2_lowerPoint) 4 = .ok (.iload_n 2, 1) := by decide +kernel
theorem qX2_lowerPoint_5 : decode (mB mX2_lowerPoint) 5 = .ok (.aload_n 0, 1) := by decide +kernel
theorem qX2_lowerPoint_6 : decode (mB mX2_lowerPoint) 6 = .ok (.getfield 34, 3) := by decide +kernel
theorem qX2_lowerPoint_9 : decode (mB mX2_lowerPoint) 9 = .ok (.if_icmp .ge 26, 3) := by decide +kernel
theorem qX2_lowerPoint_12 : decode (mB mX2_lowerPoint) 12 = .ok (.aload_n 0, 1) := by decide +kernel
theorem qX2_lowerPoint_13 : decode (mB mX2_lowerPoint) 13 = .ok (.getfield 15, 3) := by decide +kernel
theorem qX2_lowerPoint_16 : decode (mB mX2_lowerPoint) 16 = .ok (.iload_n 2, 1) := by decide +kernel
theorem qX2_lowerPoint_17 : decode (mB mX2_lowerPoint) 17 = .ok (.iaload, 1) := by decide +kernel
theorem qX2_lowerPoint_18 : decode (mB mX2_lowerPoint) 18 = .ok (.aload_n 0, 1) := by decide +kernel
theorem qX2_lowerPoint_19 : decode (mB mX2_lowerPoint) 19 = .ok (.getfield 15, 3) := by decide +kernel
theorem qX2_lowerPoint_22 : decode (mB mX2_lowerPoint) 22 = .ok (.iload_n 1, 1) := by decide +kernel
theorem qX2_lowerPoint_23 : decode (mB mX2_lowerPoint) 23 = .ok (.iaload, 1) := by decide +kernel
theorem qX2_lowerPoint_24 : decode (mB mX2_lowerPoint) 24 = .ok (.if_icmp .ge 5, 3) := by decide +kernel
theorem qX2_lowerPoint_27 : decode (mB mX2_lowerPoint) 27 = .ok (.iload_n 2, 1) := by decide +kernel
theorem qX2_lowerPoint_28 : decode (mB mX2_lowerPoint) 28 = .ok (.istore_n 1, 1) := by decide +kernel
theorem qX2_lowerPoint_29 : decode (mB mX2_lowerPoint) 29 = .ok (.iinc 2 1, 3) := by decide +kernel
theorem qX2_lowerPoint_32 : decode (mB mX2_lowerPoint) 32 = .ok (.goto (-28), 3) := by decide +kernel
theorem qX2_lowerPoint_35 : decode (mB mX2_lowerPoint) 35 = .ok (.iload_n 1, 1) := by decide +kernel
theorem qX2_lowerPoint_36 : decode (mB mX2_lowerPoint) 36 = .ok (.ireturn, 1) := by decide +kernel
theorem qX2_misfit_0 : decode (mB mX2_misfit) 0 = .ok (.bipush 10, 2) := by decide +kernel
theorem qX2_misfit_2 : decode (mB mX2_misfit) 2 = .ok (.aload_n 0, 1) := by decide +kernel
theorem qX2_misfit_3 : decode (mB mX2_misfit) 3 = .ok (.getfield 15, 3) := by decide +kernel
theorem qX2_misfit_6 : decode (mB mX2_misfit) 6 = .ok (.iload_n 1, 1) := by decide +kernel
theorem qX2_misfit_7 : decode (mB mX2_misfit) 7 = .ok (.iaload, 1) := by decide +kernel
theorem qX2_misfit_8 : decode (mB mX2_misfit) 8 = .ok (.imul, 1) := by decide +kernel
theorem qX2_misfit_9 : decode (mB mX2_misfit) 9 = .ok (.aload_n 0, 1) := by decide +kernel
theorem qX2_misfit_10 : decode (mB mX2_misfit) 10 = .ok (.aload_n 0, 1) := by decide +kernel
theorem qX2_misfit_11 : decode (mB mX2_misfit) 11 = .ok (.getfield 19, 3) := by decide +kernel
theorem qX2_misfit_14 : decode (mB mX2_misfit) 14 = .ok (.iload_n 1, 1) := by decide +kernel
theorem qX2_misfit_15 : decode (mB mX2_misfit) 15 = .ok (.iaload, 1) := by decide +kernel
theorem qX2_misfit_16 : decode (mB mX2_misfit) 16 = .ok (.invokevirtual 94, 3) := by decide +kernel
theorem qX2_misfit_19 : decode (mB mX2_misfit) 19 = .ok (.isub, 1) := by decide +kernel
theorem qX2_misfit_20 : decode (mB mX2_misfit) 20 = .ok (.invokestatic 81, 3) := by decide +kernel
theorem qX2_misfit_23 : decode (mB mX2_misfit) 23 = .ok (.ireturn, 1) := by decide +kernel
theorem qX2_misses_0 : decode (mB mX2_misses) 0 = .ok (.aload_n 0, 1) := by decide +kernel
theorem qX2_misses_1 : decode (mB mX2_misses) 1 = .ok (.iload_n 1, 1) := by decide +kernel
theorem qX2_misses_2 : decode (mB mX2_misses) 2 = .ok (.invokevirtual 97, 3) := by decide +kernel
theorem qX2_misses_5 : decode (mB mX2_misses) 5 = .ok (.ifCond .eq 7, 3) := by decide +kernel
theorem qX2_misses_8 : decode (mB mX2_misses) 8 = .ok (.iconst 1, 1) := by decide +kernel
theorem qX2_misses_9 : decode (mB mX2_misses) 9 = .ok (.goto 4, 3) := by decide +kernel
theorem qX2_misses_12 : decode (mB mX2_misses) 12 = .ok (.iconst 0, 1) := by decide +kernel
theorem qX2_misses_13 : decode (mB mX2_misses) 13 = .ok (.ireturn, 1) := by decide +kernel
theorem qX2_passMinute_0 : decode (mB mX2_passMinute) 0 = .ok (.iload_n 2, 1) := by decide +kernel
theorem qX2_passMinute_1 : decode (mB mX2_passMinute) 1 = .ok (.aload_n 0, 1) := by decide +kernel
theorem qX2_passMinute_2 : decode (mB mX2_passMinute) 2 = .ok (.getfield 55, 3) := by decide +kernel
theorem qX2_passMinute_5 : decode (mB mX2_passMinute) 5 = .ok (.isub, 1) := by decide +kernel
theorem qX2_passMinute_6 : decode (mB mX2_passMinute) 6 = .ok (.istore 4, 2) := by decide +kernel
theorem qX2_passMinute_8 : decode (mB mX2_passMinute) 8 = .ok (.iload_n 3, 1) := by decide +kernel
theorem qX2_passMinute_9 : decode (mB mX2_passMinute) 9 = .ok (.ifCond .le 12, 3) := by decide +kernel
theorem qX2_passMinute_12 : decode (mB mX2_passMinute) 12 = .ok (.iload 4, 2) := by decide +kernel
theorem qX2_passMinute_14 : decode (mB mX2_passMinute) 14 = .ok (.invokestatic 81, 3) := by decide +kernel
theorem qX2_passMinute_17 : decode (mB mX2_passMinute) 17 = .ok (.iload_n 3, 1) := by decide +kernel
theorem qX2_passMinute_18 : decode (mB mX2_passMinute) 18 = .ok (.if_icmp .ge 11, 3) := by decide +kernel
theorem qX2_passMinute_21 : decode (mB mX2_passMinute) 21 = .ok (.aload_n 0, 1) := by decide +kernel
theorem qX2_passMinute_22 : decode (mB mX2_passMinute) 22 = .ok (.iload_n 2, 1) := by decide +kernel
theorem qX2_passMinute_23 : decode (mB mX2_passMinute) 23 = .ok (.putfield 55, 3) := by decide +kernel
theorem qX2_passMinute_26 : decode (mB mX2_passMinute) 26 = .ok (.goto 16, 3) := by decide +kernel
theorem qX2_passMinute_29 : decode (mB mX2_passMinute) 29 = .ok (.aload_n 0, 1) := by decide +kernel
theorem qX2_passMinute_30 : decode (mB mX2_passMinute) 30 = .ok (.dup, 1) := by decide +kernel
theorem qX2_passMinute_31 : decode (mB mX2_passMinute) 31 = .ok (.getfield 55, 3) := by decide +kernel
theorem qX2_passMinute_34 : decode (mB mX2_passMinute) 34 = .ok (.iload 4, 2) := by decide +kernel
theorem qX2_passMinute_36 : decode (mB mX2_passMinute) 36 = .ok (.iload_n 3, 1) := by decide +kernel
theorem qX2_passMinute_37 : decode (mB mX2_passMinute) 37 = .ok (.idiv, 1) := by decide +kernel
theorem qX2_passMinute_38 : decode (mB mX2_passMinute) 38 = .ok (.iadd, 1) := by decide +kernel
theorem qX2_passMinute_39 : decode (mB mX2_passMinute) 39 = .ok (.putfield 55, 3) := by decide +kernel
theorem qX2_passMinute_42 : decode (mB mX2_passMinute) 42 = .ok (.aload_n 0, 1) := by decide +kernel
theorem qX2_passMinute_43 : decode (mB mX2_passMinute) 43 = .ok (.getfield 58, 3) := by decide +kernel
theorem qX2_passMinute_46 : decode (mB mX2_passMinute) 46 = .ok (.ifCond .eq 21, 3) := by decide +kernel
theorem qX2_passMinute_49 : decode (mB mX2_passMinute) 49 = .ok (.aload_n 0, 1) := by decide +kernel
theorem qX2_passMinute_50 : decode (mB mX2_passMinute) 50 = .ok (.getfield 52, 3) := by decide +kernel
theorem qX2_passMinute_53 : decode (mB mX2_passMinute) 53 = .ok (.ifCond .le 14, 3) := by decide +kernel
theorem qX2_passMinute_56 : decode (mB mX2_passMinute) 56 = .ok (.iload_n 1, 1) := by decide +kernel
theorem qX2_passMinute_57 : decode (mB mX2_passMinute) 57 = .ok (.bipush 10, 2) := by decide +kernel
theorem qX2_passMinute_59 : decode (mB mX2_passMinute) 59 = .ok (.irem, 1) := by decide +kernel
theorem qX2_passMinute_60 : decode (mB mX2_passMinute) 60 = .ok (.ifCond .ne 7, 3) := by decide +kernel
theorem qX2_passMinute_63 : decode (mB mX2_passMinute) 63 = .ok (.iconst 1, 1) := by decide +kernel
theorem qX2_passMinute_64 : decode (mB mX2_passMinute) 64 = .ok (.goto 4, 3) := by decide +kernel
theorem qX2_passMinute_67 : decode (mB mX2_passMinute) 67 = .ok (.iconst 0, 1) := by decide +kernel
theorem qX2_passMinute_68 : decode (mB mX2_passMinute) 68 = .ok (.istore 5, 2) := by decide +kernel
theorem qX2_passMinute_70 : decode (mB mX2_passMinute) 70 = .ok (.aload_n 0, 1) := by decide +kernel
theorem qX2_passMinute_71 : decode (mB mX2_passMinute) 71 = .ok (.dup, 1) := by decide +kernel
theorem qX2_passMinute_72 : decode (mB mX2_passMinute) 72 = .ok (.getfield 52, 3) := by decide +kernel
theorem qX2_passMinute_75 : decode (mB mX2_passMinute) 75 = .ok (.iload 5, 2) := by decide +kernel
theorem qX2_passMinute_77 : decode (mB mX2_passMinute) 77 = .ok (.isub, 1) := by decide +kernel
theorem qX2_passMinute_78 : decode (mB mX2_passMinute) 78 = .ok (.putfield 52, 3) := by decide +kernel
theorem qX2_passMinute_81 : decode (mB mX2_passMinute) 81 = .ok (.aload_n 0, 1) := by decide +kernel
theorem qX2_passMinute_82 : decode (mB mX2_passMinute) 82 = .ok (.aload_n 0, 1) := by decide +kernel
theorem qX2_passMinute_83 : decode (mB mX2_passMinute) 83 = .ok (.getfield 55, 3) := by decide +kernel
theorem qX2_passMinute_86 : decode (mB mX2_passMinute) 86 = .ok (.invokevirtual 71, 3) := by decide +kernel
theorem qX2_passMinute_89 : decode (mB mX2_passMinute) 89 = .ok (.aload_n 0, 1) := by decide +kernel
theorem qX2_passMinute_90 : decode (mB mX2_passMinute) 90 = .ok (.getfield 49, 3) := by decide +kernel
theorem qX2_passMinute_93 : decode (mB mX2_passMinute) 93 = .ok (.isub, 1) := by decide +kernel
theorem qX2_passMinute_94 : decode (mB mX2_passMinute) 94 = .ok (.istore 6, 2) := by decide +kernel
theorem qX2_passMinute_96 : decode (mB mX2_passMinute) 96 = .ok (.aload_n 0, 1) := by decide +kernel
theorem qX2_passMinute_97 : decode (mB mX2_passMinute) 97 = .ok (.iload 6, 2) := by decide +kernel
theorem qX2_passMinute_99 : decode (mB mX2_passMinute) 99 = .ok (.ifCond .le 15, 3) := by decide +kernel
theorem qX2_passMinute_102 : decode (mB mX2_passMinute) 102 = .ok (.iload 6, 2) := by decide +kernel
theorem qX2_passMinute_104 : decode (mB mX2_passMinute) 104 = .ok (.aload_n 0, 1) := by decide +kernel
theorem qX2_passMinute_105 : decode (mB mX2_passMinute) 105 = .ok (.getfield 52, 3) := by decide +kernel
theorem qX2_passMinute_108 : decode (mB mX2_passMinute) 108 = .ok (.invokestatic 75, 3) := by decide +kernel
theorem qX2_passMinute_111 : decode (mB mX2_passMinute) 111 = .ok (.goto 4, 3) := by decide +kernel
theorem qX2_passMinute_114 : decode (mB mX2_passMinute) 114 = .ok (.iconst 0, 1) := by decide +kernel
theorem qX2_passMinute_115 : decode (mB mX2_passMinute) 115 = .ok (.putfield 68, 3) := by decide +kernel
theorem qX2_passMinute_118 : decode (mB mX2_passMinute) 118 = .ok (.aload_n 0, 1) := by decide +kernel
theorem qX2_passMinute_119 : decode (mB mX2_passMinute) 119 = .ok (.dup, 1) := by decide +kernel
theorem qX2_passMinute_120 : decode (mB mX2_passMinute) 120 = .ok (.getfield 52, 3) := by decide +kernel
theorem qX2_passMinute_123 : decode (mB mX2_passMinute) 123 = .ok (.aload_n 0, 1) := by decide +kernel
theorem qX2_passMinute_124 : decode (mB mX2_passMinute) 124 = .ok (.getfield 68, 3) := by decide +kernel
theorem qX2_passMinute_127 : decode (mB mX2_passMinute) 127 = .ok (.isub, 1) := by decide +kernel
theorem qX2_passMinute_128 : decode (mB mX2_passMinute) 128 = .ok (.putfield 52, 3) := by decide +kernel
theorem qX2_passMinute_131 : decode (mB mX2_passMinute) 131 = .ok (.aload_n 0, 1) := by decide +kernel
theorem qX2_passMinute_132 : decode (mB mX2_passMinute) 132 = .ok (.dup, 1) := by decide +kernel
theorem qX2_passMinute_133 : decode (mB mX2_passMinute) 133 = .ok (.getfield 65, 3) := by decide +kernel
theorem qX2_passMinute_136 : decode (mB mX2_passMinute) 136 = .ok (.iload 5, 2) := by decide +kernel
theorem qX2_passMinute_138 : decode (mB mX2_passMinute) 138 = .ok (.aload_n 0, 1) := by decide +kernel
theorem qX2_passMinute_139 : decode (mB mX2_passMinute) 139 = .ok (.getfield 68, 3) := by decide +kernel
theorem qX2_passMinute_142 : decode (mB mX2_passMinute) 142 = .ok (.iadd, 1) := by decide +kernel
theorem qX2_passMinute_143 : decode (mB mX2_passMinute) 143 = .ok (.iadd, 1) := by decide +kernel
theorem qX2_passMinute_144 : decode (mB mX2_passMinute) 144 = .ok (.putfield 65, 3) := by decide +kernel
theorem qX2_passMinute_147 : decode (mB mX2_passMinute) 147 = .ok (.iload 5, 2) := by decide +kernel
theorem qX2_passMinute_149 : decode (mB mX2_passMinute) 149 = .ok (.aload_n 0, 1) := by decide +kernel
theorem qX2_passMinute_150 : decode (mB mX2_passMinute) 150 = .ok (.getfield 68, 3) := by decide +kernel
theorem qX2_passMinute_153 : decode (mB mX2_passMinute) 153 = .ok (.iadd, 1) := by decide +kernel
theorem qX2_passMinute_154 : decode (mB mX2_passMinute) 154 = .ok (.ireturn, 1) := by decide +kernel
theorem qX2_removePoint_0 : decode (mB mX2_removePoint) 0 = .ok (.iload_n 1, 1) := by decide +kernel
theorem qX2_removePoint_1 : decode (mB mX2_removePoint) 1 = .ok (.ifCond .lt 11, 3) := by decide +kernel
theorem qX2_removePoint_4 : decode (mB mX2_removePoint) 4 = .ok (.iload_n 1, 1) := by decide +kernel
theorem qX2_removePoint_5 : decode (mB mX2_removePoint) 5 = .ok (.aload_n 0, 1) := by decide +kernel
theorem qX2_removePoint_6 : decode (mB mX2_removePoint) 6 = .ok (.getfield 34, 3) := by decide +kernel
theorem qX2_removePoint_9 : decode (mB mX2_removePoint) 9 = .ok (.if_icmp .lt 4, 3) := by decide +kernel
theorem qX2_removePoint_12 : decode (mB mX2_removePoint) 12 = .ok (.return_, 1) := by decide +kernel
theorem qX2_removePoint_13 : decode (mB mX2_removePoint) 13 = .ok (.aload_n 0, 1) := by decide +kernel
theorem qX2_removePoint_14 : decode (mB mX2_removePoint) 14 = .ok (.dup, 1) := by decide +kernel
theorem qX2_removePoint_15 : decode (mB mX2_removePoint) 15 = .ok (.getfield 34, 3) := by decide +kernel
theorem qX2_removePoint_18 : decode (mB mX2_removePoint) 18 = .ok (.iconst 1, 1) := by decide +kernel
theorem qX2_removePoint_19 : decode (mB mX2_removePoint) 19 = .ok (.isub, 1) := by decide +kernel
theorem qX2_removePoint_20 : decode (mB mX2_removePoint) 20 = .ok (.putfield 34, 3) := by decide +kernel
theorem qX2_removePoint_23 : decode (mB mX2_removePoint) 23 = .ok (.iload_n 1, 1) := by decide +kernel
theorem qX2_removePoint_24 : decode (mB mX2_removePoint) 24 = .ok (.istore_n 2, 1) := by decide +kernel
theorem qX2_removePoint_25 : decode (mB mX2_removePoint) 25 = .ok (.iload_n 2, 1) := by decide +kernel
theorem qX2_removePoint_26 : decode (mB mX2_removePoint) 26 = .ok (.aload_n 0, 1) := by decide +kernel
theorem qX2_removePoint_27 : decode (mB mX2_removePoint) 27 = .ok (.getfield 34, 3) := by decide +kernel
theorem qX2_removePoint_30 : decode (mB mX2_removePoint) 30 = .ok (.if_icmp .ge 37, 3) := by decide +kernel
theorem qX2_removePoint_33 : decode (mB mX2_removePoint) 33 = .ok (.aload_n 0, 1) := by decide +kernel
theorem qX2_removePoint_34 : decode (mB mX2_removePoint) 34 = .ok (.getfield 15, 3) := by decide +kernel
theorem qX2_removePoint_37 : decode (mB mX2_removePoint) 37 = .ok (.iload_n 2, 1) := by decide +kernel
theorem qX2_removePoint_38 : decode (mB mX2_removePoint) 38 = .ok (.aload_n 0, 1) := by decide +kernel
theorem qX2_removePoint_39 : decode (mB mX2_removePoint) 39 = .ok (.getfield 15, 3) := by decide +kernel
theorem qX2_removePoint_42 : decode (mB mX2_removePoint) 42 = .ok (.iload_n 2, 1) := by decide +kernel
theorem qX2_removePoint_43 : decode (mB mX2_removePoint) 43 = .ok (.iconst 1, 1) := by decide +kernel
theorem qX2_removePoint_44 : decode (mB mX2_removePoint) 44 = .ok (.iadd, 1) := by decide +kernel
theorem qX2_removePoint_45 : decode (mB mX2_removePoint) 45 = .ok (.iaload, 1) := by decide +kernel
theorem qX2_removePoint_46 : decode (mB mX2_removePoint) 46 = .ok (.iastore, 1) := by decide +kernel
theorem qX2_removePoint_47 : decode (mB mX2_removePoint) 47 = .ok (.aload_n 0, 1) := by decide +kernel
theorem qX2_removePoint_48 : decode (mB mX2_removePoint) 48 = .ok (.getfield 19, 3) := by decide +kernel
theorem qX2_removePoint_51 : decode (mB mX2_removePoint) 51 = .ok (.iload_n 2, 1) := by decide +kernel
theorem qX2_removePoint_52 : decode (mB mX2_removePoint) 52 = .ok (.aload_n 0, 1) := by decide +kernel
theorem qX2_removePoint_53 : decode (mB mX2_removePoint) 53 = .ok (.getfield 19, 3) := by decide +kernel
theorem qX2_removePoint_56 : decode (mB mX2_removePoint) 56 = .ok (.iload_n 2, 1) := by decide +kernel
theorem qX2_removePoint_57 : decode (mB mX2_removePoint) 57 = .ok (.iconst 1, 1) := by decide +kernel
theorem qX2_removePoint_58 : decode (mB mX2_removePoint) 58 = .ok (.iadd, 1) := by decide +kernel
theorem qX2_removePoint_59 : decode (mB mX2_removePoint) 59 = .ok (.iaload, 1) := by decide +kernel
theorem qX2_removePoint_60 : decode (mB mX2_removePoint) 60 = .ok (.iastore, 1) := by decide +kernel
theorem qX2_removePoint_61 : decode (mB mX2_removePoint) 61 = .ok (.iinc 2 1, 3) := by decide +kernel
theorem qX2_removePoint_64 : decode (mB mX2_removePoint) 64 = .ok (.goto (-39), 3) := by decide +kernel
theorem qX2_removePoint_67 : decode (mB mX2_removePoint) 67 = .ok (.return_, 1) := by decide +kernel
theorem qX2_scaled_0 : decode (mB mX2_scaled) 0 = .ok (.aload_n 0, 1) := by decide +kernel
theorem qX2_scaled_1 : decode (mB mX2_scaled) 1 = .ok (.getfield 34, 3) := by decide +kernel
theorem qX2_scaled_4 : decode (mB mX2_scaled) 4 = .ok (.iconst 2, 1) := by decide +kernel
theorem qX2_scaled_5 : decode (mB mX2_scaled) 5 = .ok (.if_icmp .lt 7, 3) := by decide +kernel
theorem qX2_scaled_8 : decode (mB mX2_scaled) 8 = .ok (.iconst 1, 1) := by decide +kernel
theorem qX2_scaled_9 : decode (mB mX2_scaled) 9 = .ok (.goto 4, 3) := by decide +kernel
theorem qX2_scaled_12 : decode (mB mX2_scaled) 12 = .ok (.iconst 0, 1) := by decide +kernel
theorem qX2_scaled_13 : decode (mB mX2_scaled) 13 = .ok (.ireturn, 1) := by decide +kernel
theorem qX2_tenthsRead_0 : decode (mB mX2_tenthsRead) 0 = .ok (.aload_n 0, 1) := by decide +kernel
theorem qX2_tenthsRead_1 : decode (mB mX2_tenthsRead) 1 = .ok (.aload_n 0, 1) := by decide +kernel
theorem qX2_tenthsRead_2 : decode (mB mX2_tenthsRead) 2 = .ok (.invokevirtual 91, 3) := by decide +kernel
theorem qX2_tenthsRead_5 : decode (mB mX2_tenthsRead) 5 = .ok (.invokevirtual 94, 3) := by decide +kernel
theorem qX2_tenthsRead_8 : decode (mB mX2_tenthsRead) 8 = .ok (.ireturn, 1) := by decide +kernel
theorem qX2_tenthsToldFor_0 : decode (mB mX2_tenthsToldFor) 0 = .ok (.aload_n 0, 1) := by decide +kernel
theorem qX2_tenthsToldFor_1 : decode (mB mX2_tenthsToldFor) 1 = .ok (.invokevirtual 84, 3) := by decide +kernel
theorem qX2_tenthsToldFor_4 : decode (mB mX2_tenthsToldFor) 4 = .ok (.istore_n 2, 1) := by decide +kernel
theorem qX2_tenthsToldFor_5 : decode (mB mX2_tenthsToldFor) 5 = .ok (.aload_n 0, 1) := by decide +kernel
theorem qX2_tenthsToldFor_6 : decode (mB mX2_tenthsToldFor) 6 = .ok (.invokevirtual 88, 3) := by decide +kernel
theorem qX2_tenthsToldFor_9 : decode (mB mX2_tenthsToldFor) 9 = .ok (.istore_n 3, 1) := by decide +kernel
theorem qX2_tenthsToldFor_10 : decode (mB mX2_tenthsToldFor) 10 = .ok (.aload_n 0, 1) := by decide +kernel
theorem qX2_tenthsToldFor_11 : decode (mB mX2_tenthsToldFor) 11 = .ok (.getfield 15, 3) := by decide +kernel
theorem qX2_tenthsToldFor_14 : decode (mB mX2_tenthsToldFor) 14 = .ok (.iload_n 3, 1) := by decide +kernel
theorem qX2_tenthsToldFor_15 : decode (mB mX2_tenthsToldFor) 15 = .ok (.iaload, 1) := by decide +kernel
theorem qX2_tenthsToldFor_16 : decode (mB mX2_tenthsToldFor) 16 = .ok (.aload_n 0, 1) := by decide +kernel
theorem qX2_tenthsToldFor_17 : decode (mB mX2_tenthsToldFor) 17 = .ok (.getfield 15, 3) := by decide +kernel
theorem qX2_tenthsToldFor_20 : decode (mB mX2_tenthsToldFor) 20 = .ok (.iload_n 2, 1) := by decide +kernel
theorem qX2_tenthsToldFor_21 : decode (mB mX2_tenthsToldFor) 21 = .ok (.iaload, 1) := by decide +kernel
theorem qX2_tenthsToldFor_22 : decode (mB mX2_tenthsToldFor) 22 = .ok (.isub, 1) := by decide +kernel
theorem qX2_tenthsToldFor_23 : decode (mB mX2_tenthsToldFor) 23 = .ok (.istore 4, 2) := by decide +kernel
theorem qX2_tenthsToldFor_25 : decode (mB mX2_tenthsToldFor) 25 = .ok (.aload_n 0, 1) := by decide +kernel
theorem qX2_tenthsToldFor_26 : decode (mB mX2_tenthsToldFor) 26 = .ok (.getfield 19, 3) := by decide +kernel
theorem qX2_tenthsToldFor_29 : decode (mB mX2_tenthsToldFor) 29 = .ok (.iload_n 3, 1) := by decide +kernel
theorem qX2_tenthsToldFor_30 : decode (mB mX2_tenthsToldFor) 30 = .ok (.iaload, 1) := by decide +kernel
theorem qX2_tenthsToldFor_31 : decode (mB mX2_tenthsToldFor) 31 = .ok (.aload_n 0, 1) := by decide +kernel
theorem qX2_tenthsToldFor_32 : decode (mB mX2_tenthsToldFor) 32 = .ok (.getfield 19, 3) := by decide +kernel
theorem qX2_tenthsToldFor_35 : decode (mB mX2_tenthsToldFor) 35 = .ok (.iload_n 2, 1) := by decide +kernel
theorem qX2_tenthsToldFor_36 : decode (mB mX2_tenthsToldFor) 36 = .ok (.iaload, 1) := by decide +kernel
theorem qX2_tenthsToldFor_37 : decode (mB mX2_tenthsToldFor) 37 = .ok (.isub, 1) := by decide +kernel
theorem qX2_tenthsToldFor_38 : decode (mB mX2_tenthsToldFor) 38 = .ok (.istore 5, 2) := by decide +kernel
theorem qX2_tenthsToldFor_40 : decode (mB mX2_tenthsToldFor) 40 = .ok (.bipush 10, 2) := by decide +kernel
theorem qX2_tenthsToldFor_42 : decode (mB mX2_tenthsToldFor) 42 = .ok (.aload_n 0, 1) := by decide +kernel
theorem qX2_tenthsToldFor_43 : decode (mB mX2_tenthsToldFor) 43 = .ok (.getfield 15, 3) := by decide +kernel
theorem qX2_tenthsToldFor_46 : decode (mB mX2_tenthsToldFor) 46 = .ok (.iload_n 2, 1) := by decide +kernel
theorem qX2_tenthsToldFor_47 : decode (mB mX2_tenthsToldFor) 47 = .ok (.iaload, 1) := by decide +kernel
theorem qX2_tenthsToldFor_48 : decode (mB mX2_tenthsToldFor) 48 = .ok (.imul, 1) := by decide +kernel
theorem qX2_tenthsToldFor_49 : decode (mB mX2_tenthsToldFor) 49 = .ok (.istore 6, 2) := by decide +kernel
theorem qX2_tenthsToldFor_51 : decode (mB mX2_tenthsToldFor) 51 = .ok (.iload 5, 2) := by decide +kernel
theorem qX2_tenthsToldFor_53 : decode (mB mX2_tenthsToldFor) 53 = .ok (.ifCond .ne 6, 3) := by decide +kernel
theorem qX2_tenthsToldFor_56 : decode (mB mX2_tenthsToldFor) 56 = .ok (.iload 6, 2) := by decide +kernel
theorem qX2_tenthsToldFor_58 : decode (mB mX2_tenthsToldFor) 58 = .ok (.ireturn, 1) := by decide +kernel
theorem qX2_tenthsToldFor_59 : decode (mB mX2_tenthsToldFor) 59 = .ok (.iload 6, 2) := by decide +kernel
theorem qX2_tenthsToldFor_61 : decode (mB mX2_tenthsToldFor) 61 = .ok (.bipush 10, 2) := by decide +kernel
theorem qX2_tenthsToldFor_63 : decode (mB mX2_tenthsToldFor) 63 = .ok (.iload 4, 2) := by decide +kernel
theorem qX2_tenthsToldFor_65 : decode (mB mX2_tenthsToldFor) 65 = .ok (.imul, 1) := by decide +kernel
theorem qX2_tenthsToldFor_66 : decode (mB mX2_tenthsToldFor) 66 = .ok (.iload_n 1, 1) := by decide +kernel
theorem qX2_tenthsToldFor_67 : decode (mB mX2_tenthsToldFor) 67 = .ok (.aload_n 0, 1) := by decide +kernel
theorem qX2_tenthsToldFor_68 : decode (mB mX2_tenthsToldFor) 68 = .ok (.getfield 19, 3) := by decide +kernel
theorem qX2_tenthsToldFor_71 : decode (mB mX2_tenthsToldFor) 71 = .ok (.iload_n 2, 1) := by decide +kernel
theorem qX2_tenthsToldFor_72 : decode (mB mX2_tenthsToldFor) 72 = .ok (.iaload, 1) := by decide +kernel
theorem qX2_tenthsToldFor_73 : decode (mB mX2_tenthsToldFor) 73 = .ok (.isub, 1) := by decide +kernel
theorem qX2_tenthsToldFor_74 : decode (mB mX2_tenthsToldFor) 74 = .ok (.imul, 1) := by decide +kernel
theorem qX2_tenthsToldFor_75 : decode (mB mX2_tenthsToldFor) 75 = .ok (.iload 5, 2) := by decide +kernel
theorem qX2_tenthsToldFor_77 : decode (mB mX2_tenthsToldFor) 77 = .ok (.idiv, 1) := by decide +kernel
theorem qX2_tenthsToldFor_78 : decode (mB mX2_tenthsToldFor) 78 = .ok (.iadd, 1) := by decide +kernel
theorem qX2_tenthsToldFor_79 : decode (mB mX2_tenthsToldFor) 79 = .ok (.ireturn, 1) := by decide +kernel
theorem qX2_upperPoint_0 : decode (mB mX2_upperPoint) 0 = .ok (.iconst 0, 1) := by decide +kernel
theorem qX2_upperPoint_1 : decode (mB mX2_upperPoint) 1 = .ok (.istore_n 1, 1) := by decide +kernel
theorem qX2_upperPoint_2 : decode (mB mX2_upperPoint) 2 = .ok (.iconst 1, 1) := by decide +kernel
theorem qX2_upperPoint_3 : decode (mB mX2_upperPoint) 3 = .ok (.istore_n 2, 1) := by decide +kernel
theorem qX2_upperPoint_4 : decode (mB mX2_upperPoint) 4 = .ok (.iload_n 2, 1) := by decide +kernel
theorem qX2_upperPoint_5 : decode (mB mX2_upperPoint) 5 = .ok (.aload_n 0, 1) := by decide +kernel
theorem qX2_upperPoint_6 : decode (mB mX2_upperPoint) 6 = .ok (.getfield 34, 3) := by decide +kernel
theorem qX2_upperPoint_9 : decode (mB mX2_upperPoint) 9 = .ok (.if_icmp .ge 26, 3) := by decide +kernel
theorem qX2_upperPoint_12 : decode (mB mX2_upperPoint) 12 = .ok (.aload_n 0, 1) := by decide +kernel
theorem qX2_upperPoint_13 : decode (mB mX2_upperPoint) 13 = .ok (.getfield 15, 3) := by decide +kernel
theorem qX2_upperPoint_16 : decode (mB mX2_upperPoint) 16 = .ok (.iload_n 2, 1) := by decide +kernel
theorem qX2_upperPoint_17 : decode (mB mX2_upperPoint) 17 = .ok (.iaload, 1) := by decide +kernel
theorem qX2_upperPoint_18 : decode (mB mX2_upperPoint) 18 = .ok (.aload_n 0, 1) := by decide +kernel
theorem qX2_upperPoint_19 : decode (mB mX2_upperPoint) 19 = .ok (.getfield 15, 3) := by decide +kernel
theorem qX2_upperPoint_22 : decode (mB mX2_upperPoint) 22 = .ok (.iload_n 1, 1) := by decide +kernel
theorem qX2_upperPoint_23 : decode (mB mX2_upperPoint) 23 = .ok (.iaload, 1) := by decide +kernel
theorem qX2_upperPoint_24 : decode (mB mX2_upperPoint) 24 = .ok (.if_icmp .le 5, 3) := by decide +kernel
theorem qX2_upperPoint_27 : decode (mB mX2_upperPoint) 27 = .ok (.iload_n 2, 1) := by decide +kernel
theorem qX2_upperPoint_28 : decode (mB mX2_upperPoint) 28 = .ok (.istore_n 1, 1) := by decide +kernel
theorem qX2_upperPoint_29 : decode (mB mX2_upperPoint) 29 = .ok (.iinc 2 1, 3) := by decide +kernel
theorem qX2_upperPoint_32 : decode (mB mX2_upperPoint) 32 = .ok (.goto (-28), 3) := by decide +kernel
theorem qX2_upperPoint_35 : decode (mB mX2_upperPoint) 35 = .ok (.iload_n 1, 1) := by decide +kernel
theorem qX2_upperPoint_36 : decode (mB mX2_upperPoint) 36 = .ok (.ireturn, 1) := by decide +kernel
theorem qX3_append_0 : decode (mB mX3_append) 0 = .ok (.aload_n 0, 1) := by decide +kernel
theorem qX3_append_1 : decode (mB mX3_append) 1 = .ok (.getfield 36, 3) := by decide +kernel
theorem qX3_append_4 : decode (mB mX3_append) 4 = .ok (.getfield 32, 3) := by decide +kernel
theorem qX3_append_7 : decode (mB mX3_append) 7 = .ok (.bipush 20, 2) := by decide +kernel
theorem qX3_append_9 : decode (mB mX3_append) 9 = .ok (.iadd, 1) := by decide +kernel
theorem qX3_append_10 : decode (mB mX3_append) 10 = .ok (.sipush 600, 3) := by decide +kernel
theorem qX3_append_13 : decode (mB mX3_append) 13 = .ok (.if_icmp .le 13, 3) := by decide +kernel
theorem qX3_append_16 : decode (mB mX3_append) 16 = .ok (.new 80, 3) := by decide +kernel
theorem qX3_append_19 : decode (mB mX3_append) 19 = .ok (.dup, 1) := by decide +kernel
theorem qX3_append_20 : decode (mB mX3_append) 20 = .ok (.ldc 82, 2) := by decide +kernel
theorem qX3_append_22 : decode (mB mX3_append) 22 = .ok (.invokespecial 84, 3) := by decide +kernel
theorem qX3_append_25 : decode (mB mX3_append) 25 = .ok (.athrow, 1) := by decide +kernel
theorem qX3_append_26 : decode (mB mX3_append) 26 = .ok (.aload_n 0, 1) := by decide +kernel
theorem qX3_append_27 : decode (mB mX3_append) 27 = .ok (.getfield 36, 3) := by decide +kernel
theorem qX3_append_30 : decode (mB mX3_append) 30 = .ok (.iload_n 1, 1) := by decide +kernel
theorem qX3_append_31 : decode (mB mX3_append) 31 = .ok (.invokevirtual 86, 3) := by decide +kernel
theorem qX3_append_34 : decode (mB mX3_append) 34 = .ok (.aload_n 0, 1) := by decide +kernel
theorem qX3_append_35 : decode (mB mX3_append) 35 = .ok (.getfield 36, 3) := by decide +kernel
theorem qX3_append_38 : decode (mB mX3_append) 38 = .ok (.iload_n 2, 1) := by decide +kernel
theorem qX3_append_39 : decode (mB mX3_append) 39 = .ok (.invokevirtual 86, 3) := by decide +kernel
theorem qX3_append_42 : decode (mB mX3_append) 42 = .ok (.aload_n 0, 1) := by decide +kernel
theorem qX3_append_43 : decode (mB mX3_append) 43 = .ok (.getfield 36, 3) := by decide +kernel
theorem qX3_append_46 : decode (mB mX3_append) 46 = .ok (.iload_n 3, 1) := by decide +kernel
theorem qX3_append_47 : decode (mB mX3_append) 47 = .ok (.invokevirtual 86, 3) := by decide +kernel
theorem qX3_append_50 : decode (mB mX3_append) 50 = .ok (.aload_n 0, 1) := by decide +kernel
theorem qX3_append_51 : decode (mB mX3_append) 51 = .ok (.getfield 36, 3) := by decide +kernel
theorem qX3_append_54 : decode (mB mX3_append) 54 = .ok (.iload 4, 2) := by decide +kernel
theorem qX3_append_56 : decode (mB mX3_append) 56 = .ok (.invokevirtual 86, 3) := by decide +kernel
theorem qX3_append_59 : decode (mB mX3_append) 59 = .ok (.aload_n 0, 1) := by decide +kernel
theorem qX3_append_60 : decode (mB mX3_append) 60 = .ok (.getfield 36, 3) := by decide +kernel
theorem qX3_append_63 : decode (mB mX3_append) 63 = .ok (.iload 5, 2) := by decide +kernel
theorem qX3_append_65 : decode (mB mX3_append) 65 = .ok (.invokevirtual 86, 3) := by decide +kernel
theorem qX3_append_68 : decode (mB mX3_append) 68 = .ok (.aload_n 0, 1) := by decide +kernel
theorem qX3_append_69 : decode (mB mX3_append) 69 = .ok (.getfield 36, 3) := by decide +kernel
theorem qX3_append_72 : decode (mB mX3_append) 72 = .ok (.getfield 32, 3) := by decide +kernel
theorem qX3_append_75 : decode (mB mX3_append) 75 = .ok (.ireturn, 1) := by decide +kernel
theorem qX3_bathDegrees_0 : decode (mB mX3_bathDegrees) 0 = .ok (.aload_n 0, 1) := by decide +kernel
theorem qX3_bathDegrees_1 : decode (mB mX3_bathDegrees) 1 = .ok (.iload_n 1, 1) := by decide +kernel
theorem qX3_bathDegrees_2 : decode (mB mX3_bathDegrees) 2 = .ok (.invokevirtual 113, 3) := by decide +kernel
theorem qX3_bathDegrees_5 : decode (mB mX3_bathDegrees) 5 = .ok (.aload_n 0, 1) := by decide +kernel
theorem qX3_bathDegrees_6 : decode (mB mX3_bathDegrees) 6 = .ok (.getfield 40, 3) := by decide +kernel
theorem qX3_bathDegrees_9 : decode (mB mX3_bathDegrees) 9 = .ok (.getfield 116, 3) := by decide +kernel
theorem qX3_bathDegrees_12 : decode (mB mX3_bathDegrees) 12 = .ok (.iload_n 1, 1) := by decide +kernel
theorem qX3_bathDegrees_13 : decode (mB mX3_bathDegrees) 13 = .ok (.iaload, 1) := by decide +kernel
theorem qX3_bathDegrees_14 : decode (mB mX3_bathDegrees) 14 = .ok (.ireturn, 1) := by decide +kernel
theorem qX3_bathOf_0 : decode (mB mX3_bathOf) 0 = .ok (.aload_n 0, 1) := by decide +kernel
theorem qX3_bathOf_1 : decode (mB mX3_bathOf) 1 = .ok (.iload_n 1, 1) := by decide +kernel
theorem qX3_bathOf_2 : decode (mB mX3_bathOf) 2 = .ok (.invokevirtual 141, 3) := by decide +kernel
theorem qX3_bathOf_5 : decode (mB mX3_bathOf) 5 = .ok (.getfield 124, 3) := by decide +kernel
theorem qX3_bathOf_8 : decode (mB mX3_bathOf) 8 = .ok (.ireturn, 1) := by decide +kernel
theorem qX3_bathsToMark_0 : decode (mB mX3_bathsToMark) 0 = .ok (.aload_n 0, 1) := by decide +kernel
theorem qX3_bathsToMark_1 : decode (mB mX3_bathsToMark) 1 = .ok (.iload_n 1, 1) := by decide +kernel
theorem qX3_bathsToMark_2 : decode (mB mX3_bathsToMark) 2 = .ok (.invokevirtual 141, 3) := by decide +kernel
theorem qX3_bathsToMark_5 : decode (mB mX3_bathsToMark) 5 = .ok (.astore_n 2, 1) := by decide +kernel
theorem qX3_bathsToMark_6 : decode (mB mX3_bathsToMark) 6 = .ok (.iconst 0, 1) := by decide +kernel
theorem qX3_bathsToMark_7 : decode (mB mX3_bathsToMark) 7 = .ok (.istore_n 3, 1) := by decide +kernel
theorem qX3_bathsToMark_8 : decode (mB mX3_bathsToMark) 8 = .ok (.iconst 0, 1) := by decide +kernel
theorem qX3_bathsToMark_9 : decode (mB mX3_bathsToMark) 9 = .ok (.istore 4, 2) := by decide +kernel
theorem qX3_bathsToMark_11 : decode (mB mX3_bathsToMark) 11 = .ok (.iload 4, 2) := by decide +kernel
theorem qX3_bathsToMark_13 : decode (mB mX3_bathsToMark) 13 = .ok (.aload_n 0, 1) := by decide +kernel
theorem qX3_bathsToMark_14 : decode (mB mX3_bathsToMark) 14 = .ok (.getfield 40, 3) := by decide +kernel
theorem qX3_bathsToMark_17 : decode (mB mX3_bathsToMark) 17 = .ok (.getfield 228, 3) := by decide +kernel
theorem qX3_bathsToMark_20 : decode (mB mX3_bathsToMark) 20 = .ok (.if_icmp .ge 29, 3) := by decide +kernel
theorem qX3_bathsToMark_23 : decode (mB mX3_bathsToMark) 23 = .ok (.aload_n 2, 1) := by decide +kernel
theorem qX3_bathsToMark_24 : decode (mB mX3_bathsToMark) 24 = .ok (.aload_n 0, 1) := by decide +kernel
theorem qX3_bathsToMark_25 : decode (mB mX3_bathsToMark) 25 = .ok (.getfield 40, 3) := by decide +kernel
theorem qX3_bathsToMark_28 : decode (mB mX3_bathsToMark) 28 = .ok (.getfield 116, 3) := by decide +kernel
theorem qX3_bathsToMark_31 : decode (mB mX3_bathsToMark) 31 = .ok (.iload 4, 2) := by decide +kernel
theorem qX3_bathsToMark_33 : decode (mB mX3_bathsToMark) 33 = .ok (.iaload, 1) := by decide +kernel
theorem qX3_bathsToMark_34 : decode (mB mX3_bathsToMark) 34 = .ok (.invokevirtual 231, 3) := by decide +kernel
theorem qX3_bathsToMark_37 : decode (mB mX3_bathsToMark) 37 = .ok (.ifCond .ne 6, 3) := by decide +kernel
theorem qX3_bathsToMark_40 : decode (mB mX3_bathsToMark) 40 = .ok (.iinc 3 1, 3) := by decide +kernel
theorem qX3_bathsToMark_43 : decode (mB mX3_bathsToMark) 43 = .ok (.iinc 4 1, 3) := by decide +kernel
theorem qX3_bathsToMark_46 : decode (mB mX3_bathsToMark) 46 = .ok (.goto (-35), 3) := by decide +kernel
theorem qX3_bathsToMark_49 : decode (mB mX3_bathsToMark) 49 = .ok (.iload_n 3, 1) := by decide +kernel
theorem qX3_bathsToMark_50 : decode (mB mX3_bathsToMark) 50 = .ok (.ireturn, 1) := by decide +kernel
theorem qX3_bestTube_0 : decode (mB mX3_bestTube) 0 = .ok (.iconst (-1), 1) := by decide +kernel
theorem qX3_bestTube_1 : decode (mB mX3_bestTube) 1 = .ok (.istore_n 1, 1) := by decide +kernel
theorem qX3_bestTube_2 : decode (mB mX3_bestTube) 2 = .ok (.iconst 0, 1) := by decide +kernel
theorem qX3_bestTube_3 : decode (mB mX3_bestTube) 3 = .ok (.istore_n 2, 1) := by decide +kernel
theorem qX3_bestTube_4 : decode (mB mX3_bestTube) 4 = .ok (.iconst 0, 1) := by decide +kernel
theorem qX3_bestTube_5 : decode (mB mX3_bestTube) 5 = .ok (.istore_n 3, 1) := by decide +kernel
theorem qX3_bestTube_6 : decode (mB mX3_bestTube) 6 = .ok (.iload_n 3, 1) := by decide +kernel
theorem qX3_bestTube_7 : decode (mB mX3_bestTube) 7 = .ok (.aload_n 0, 1) := by decide +kernel
theorem qX3_bestTube_8 : decode (mB mX3_bestTube) 8 = .ok (.getfield 40, 3) := by decide +kernel
theorem qX3_bestTube_11 : decode (mB mX3_bestTube) 11 = .ok (.getfield 104, 3) := by decide +kernel
theorem qX3_bestTube_14 : decode (mB mX3_bestTube) 14 = .ok (.if_icmp .ge 60, 3) := by decide +kernel
theorem qX3_bestTube_17 : decode (mB mX3_bestTube) 17 = .ok (.aload_n 0, 1) := by decide +kernel
theorem qX3_bestTube_18 : decode (mB mX3_bestTube) 18 = .ok (.getfield 40, 3) := by decide +kernel
theorem qX3_bestTube_21 : decode (mB mX3_bestTube) 21 = .ok (.getfield 120, 3) := by decide +kernel
theorem qX3_bestTube_24 : decode (mB mX3_bestTube) 24 = .ok (.iload_n 3, 1) := by decide +kernel
theorem qX3_bestTube_25 : decode (mB mX3_bestTube) 25 = .ok (.aaload, 1) := by decide +kernel
theorem qX3_bestTube_26 : decode (mB mX3_bestTube) 26 = .ok (.astore 4, 2) := by decide +kernel
theorem qX3_bestTube_28 : decode (mB mX3_bestTube) 28 = .ok (.aload 4, 2) := by decide +kernel
theorem qX3_bestTube_30 : decode (mB mX3_bestTube) 30 = .ok (.invokevirtual 192, 3) := by decide +kernel
theorem qX3_bestTube_33 : decode (mB mX3_bestTube) 33 = .ok (.ifCond .eq 35, 3) := by decide +kernel
theorem qX3_bestTube_36 : decode (mB mX3_bestTube) 36 = .ok (.aload 4, 2) := by decide +kernel
theorem qX3_bestTube_38 : decode (mB mX3_bestTube) 38 = .ok (.invokevirtual 200, 3) := by decide +kernel
theorem qX3_bestTube_41 : decode (mB mX3_bestTube) 41 = .ok (.aload 4, 2) := by decide +kernel
theorem qX3_bestTube_43 : decode (mB mX3_bestTube) 43 = .ok (.getfield 145, 3) := by decide +kernel
theorem qX3_bestTube_46 : decode (mB mX3_bestTube) 46 = .ok (.isub, 1) := by decide +kernel
theorem qX3_bestTube_47 : decode (mB mX3_bestTube) 47 = .ok (.invokestatic 216, 3) := by decide +kernel
theorem qX3_bestTube_50 : decode (mB mX3_bestTube) 50 = .ok (.istore 5, 2) := by decide +kernel
theorem qX3_bestTube_52 : decode (mB mX3_bestTube) 52 = .ok (.iload_n 1, 1) := by decide +kernel
theorem qX3_bestTube_53 : decode (mB mX3_bestTube) 53 = .ok (.iconst (-1), 1) := by decide +kernel
theorem qX3_bestTube_54 : decode (mB mX3_bestTube) 54 = .ok (.if_icmp .eq 9, 3) := by decide +kernel
theorem qX3_bestTube_57 : decode (mB mX3_bestTube) 57 = .ok (.iload 5, 2) := by decide +kernel
theorem qX3_bestTube_59 : decode (mB mX3_bestTube) 59 = .ok (.iload_n 2, 1) := by decide +kernel
theorem qX3_bestTube_60 : decode (mB mX3_bestTube) 60 = .ok (.if_icmp .ge 8, 3) := by decide +kernel
theorem qX3_bestTube_63 : decode (mB mX3_bestTube) 63 = .ok (.iload_n 3, 1) := by decide +kernel
theorem qX3_bestTube_64 : decode (mB mX3_bestTube) 64 = .ok (.istore_n 1, 1) := by decide +kernel
theorem qX3_bestTube_65 : decode (mB mX3_bestTube) 65 = .ok (.iload 5, 2) := by decide +kernel
theorem qX3_bestTube_67 : decode (mB mX3_bestTube) 67 = .ok (.istore_n 2, 1) := by decide +kernel
theorem qX3_bestTube_68 : decode (mB mX3_bestTube) 68 = .ok (.iinc 3 1, 3) := by decide +kernel
theorem qX3_bestTube_71 : decode (mB mX3_bestTube) 71 = .ok (.goto (-65), 3) := by decide +kernel
theorem qX3_bestTube_74 : decode (mB mX3_bestTube) 74 = .ok (.iload_n 1, 1) := by decide +kernel
theorem qX3_bestTube_75 : decode (mB mX3_bestTube) 75 = .ok (.ireturn, 1) := by decide +kernel
theorem qX3_checkBath_0 : decode (mB mX3_checkBath) 0 = .ok (.iload_n 1, 1) := by decide +kernel
theorem qX3_checkBath_1 : decode (mB mX3_checkBath) 1 = .ok (.ifCond .lt 14, 3) := by decide +kernel
theorem qX3_checkBath_4 : decode (mB mX3_checkBath) 4 = .ok (.iload_n 1, 1) := by decide +kernel
theorem qX3_checkBath_5 : decode (mB mX3_checkBath) 5 = .ok (.aload_n 0, 1) := by decide +kernel
theorem qX3_checkBath_6 : decode (mB mX3_checkBath) 6 = .ok (.getfield 40, 3) := by decide +kernel
theorem qX3_checkBath_9 : decode (mB mX3_checkBath) 9 = .ok (.getfield 228, 3) := by decide +kernel
theorem qX3_checkBath_12 : decode (mB mX3_checkBath) 12 = .ok (.if_icmp .lt 14, 3) := by decide +kernel
theorem qX3_checkBath_15 : decode (mB mX3_checkBath) 15 = .ok (.new 304, 3) := by decide +kernel
theorem qX3_checkBath_18 : decode (mB mX3_checkBath) 18 = .ok (.dup, 1) := by decide +kernel
theorem qX3_checkBath_19 : decode (mB mX3_checkBath) 19 = .ok (.ldc_w 309, 3) := by decide +kernel
theorem qX3_checkBath_22 : decode (mB mX3_checkBath) 22 = .ok (.invokespecial 308, 3) := by decide +kernel
theorem qX3_checkBath_25 : decode (mB mX3_checkBath) 25 = .ok (.athrow, 1) := by decide +kernel
theorem qX3_checkBath_26 : decode (mB mX3_checkBath) 26 = .ok (.return_, 1) := by decide +kernel
theorem qX3_checkPoint_0 : decode (mB mX3_checkPoint) 0 = .ok (.iload_n 1, 1) := by decide +kernel
theorem qX3_checkPoint_1 : decode (mB mX3_checkPoint) 1 = .ok (.ifCond .lt 11, 3) := by decide +kernel
theorem qX3_checkPoint_4 : decode (mB mX3_checkPoint) 4 = .ok (.iload_n 1, 1) := by decide +kernel
theorem qX3_checkPoint_5 : decode (mB mX3_checkPoint) 5 = .ok (.aload_n 0, 1) := by decide +kernel
theorem qX3_checkPoint_6 : decode (mB mX3_checkPoint) 6 = .ok (.getfield 179, 3) := by decide +kernel
theorem qX3_checkPoint_9 : decode (mB mX3_checkPoint) 9 = .ok (.if_icmp .lt 14, 3) := by decide +kernel
theorem qX3_checkPoint_12 : decode (mB mX3_checkPoint) 12 = .ok (.new 295, 3) := by decide +kernel
theorem qX3_checkPoint_15 : decode (mB mX3_checkPoint) 15 = .ok (.dup, 1) := by decide +kernel
theorem qX3_checkPoint_16 : decode (mB mX3_checkPoint) 16 = .ok (.ldc_w 320, 3) := by decide +kernel
theorem qX3_checkPoint_19 : decode (mB mX3_checkPoint) 19 = .ok (.invokespecial 299, 3) := by decide +kernel
theorem qX3_checkPoint_22 : decode (mB mX3_checkPoint) 22 = .ok (.athrow, 1) := by decide +kernel
theorem qX3_checkPoint_23 : decode (mB mX3_checkPoint) 23 = .ok (.return_, 1) := by decide +kernel
theorem qX3_checkRange_0 : decode (mB mX3_checkRange) 0 = .ok (.iload_n 0, 1) := by decide +kernel
theorem qX3_checkRange_1 : decode (mB mX3_checkRange) 1 = .ok (.iload_n 1, 1) := by decide +kernel
theorem qX3_checkRange_2 : decode (mB mX3_checkRange) 2 = .ok (.if_icmp .lt 8, 3) := by decide +kernel
theorem qX3_checkRange_5 : decode (mB mX3_checkRange) 5 = .ok (.iload_n 0, 1) := by decide +kernel
theorem qX3_checkRange_6 : decode (mB mX3_checkRange) 6 = .ok (.iload_n 2, 1) := by decide +kernel
theorem qX3_checkRange_7 : decode (mB mX3_checkRange) 7 = .ok (.if_icmp .le 14, 3) := by decide +kernel
theorem qX3_checkRange_10 : decode (mB mX3_checkRange) 10 = .ok (.new 90, 3) := by decide +kernel
theorem qX3_checkRange_13 : decode (mB mX3_checkRange) 13 = .ok (.dup, 1) := by decide +kernel
theorem qX3_checkRange_14 : decode (mB mX3_checkRange) 14 = .ok (.ldc_w 318, 3) := by decide +kernel
theorem qX3_checkRange_17 : decode (mB mX3_checkRange) 17 = .ok (.invokespecial 94, 3) := by decide +kernel
theorem qX3_checkRange_20 : decode (mB mX3_checkRange) 20 = .ok (.athrow, 1) := by decide +kernel
theorem qX3_checkRange_21 : decode (mB mX3_checkRange) 21 = .ok (.return_, 1) := by decide +kernel
theorem qX3_checkScale_0 : decode (mB mX3_checkScale) 0 = .ok (.aload_n 0, 1) := by decide +kernel
theorem qX3_checkScale_1 : decode (mB mX3_checkScale) 1 = .ok (.invokevirtual 192, 3) := by decide +kernel
theorem qX3_checkScale_4 : decode (mB mX3_checkScale) 4 = .ok (.ifCond .ne 14, 3) := by decide +kernel
theorem qX3_checkScale_7 : decode (mB mX3_checkScale) 7 = .ok (.new 295, 3) := by decide +kernel
theorem qX3_checkScale_10 : decode (mB mX3_checkScale) 10 = .ok (.dup, 1) := by decide +kernel
theorem qX3_checkScale_11 : decode (mB mX3_checkScale) 11 = .ok (.ldc_w 322, 3) := by decide +kernel
theorem qX3_checkScale_14 : decode (mB mX3_checkScale) 14 = .ok (.invokespecial 299, 3) := by decide +kernel
theorem qX3_checkScale_17 : decode (mB mX3_checkScale) 17 = .ok (.athrow, 1) := by decide +kernel
theorem qX3_checkScale_18 : decode (mB mX3_checkScale) 18 = .ok (.return_, 1) := by decide +kernel
theorem qX3_checkSpirit_0 : decode (mB mX3_checkSpirit) 0 = .ok (.iload_n 1, 1) := by decide +kernel
theorem qX3_checkSpirit_1 : decode (mB mX3_checkSpirit) 1 = .ok (.ifCond .lt 14, 3) := by decide +kernel
theorem qX3_checkSpirit_4 : decode (mB mX3_checkSpirit) 4 = .ok (.iload_n 1, 1) := by decide +kernel
theorem qX3_checkSpirit_5 : decode (mB mX3_checkSpirit) 5 = .ok (.aload_n 0, 1) := by decide +kernel
theorem qX3_checkSpirit_6 : decode (mB mX3_checkSpirit) 6 = .ok (.getfield 40, 3) := by decide +kernel
theorem qX3_checkSpirit_9 : decode (mB mX3_checkSpirit) 9 = .ok (.getfield 311, 3) := by decide +kernel
theorem qX3_checkSpirit_12 : decode (mB mX3_checkSpirit) 12 = .ok (.if_icmp .lt 14, 3) := by decide +kernel
theorem qX3_checkSpirit_15 : decode (mB mX3_checkSpirit) 15 = .ok (.new 304, 3) := by decide +kernel
theorem qX3_checkSpirit_18 : decode (mB mX3_checkSpirit) 18 = .ok (.dup, 1) := by decide +kernel
theorem qX3_checkSpirit_19 : decode (mB mX3_checkSpirit) 19 = .ok (.ldc_w 314, 3) := by decide +kernel
theorem qX3_checkSpirit_22 : decode (mB mX3_checkSpirit) 22 = .ok (.invokespecial 308, 3) := by decide +kernel
theorem qX3_checkSpirit_25 : decode (mB mX3_checkSpirit) 25 = .ok (.athrow, 1) := by decide +kernel
theorem qX3_checkSpirit_26 : decode (mB mX3_checkSpirit) 26 = .ok (.return_, 1) := by decide +kernel
theorem qX3_checkedTube_0 : decode (mB mX3_checkedTube) 0 = .ok (.iload_n 1, 1) := by decide +kernel
theorem qX3_checkedTube_1 : decode (mB mX3_checkedTube) 1 = .ok (.ifCond .lt 14, 3) := by decide +kernel
theorem qX3_checkedTube_4 : decode (mB mX3_checkedTube) 4 = .ok (.iload_n 1, 1) := by decide +kernel
theorem qX3_checkedTube_5 : decode (mB mX3_checkedTube) 5 = .ok (.aload_n 0, 1) := by decide +kernel
theorem qX3_checkedTube_6 : decode (mB mX3_checkedTube) 6 = .ok (.getfield 40, 3) := by decide +kernel
theorem qX3_checkedTube_9 : decode (mB mX3_checkedTube) 9 = .ok (.getfield 104, 3) := by decide +kernel
theorem qX3_checkedTube_12 : decode (mB mX3_checkedTube) 12 = .ok (.if_icmp .lt 14, 3) := by decide +kernel
theorem qX3_checkedTube_15 : decode (mB mX3_checkedTube) 15 = .ok (.new 304, 3) := by decide +kernel
theorem qX3_checkedTube_18 : decode (mB mX3_checkedTube) 18 = .ok (.dup, 1) := by decide +kernel
theorem qX3_checkedTube_19 : decode (mB mX3_checkedTube) 19 = .ok (.ldc_w 306, 3) := by decide +kernel
theorem qX3_checkedTube_22 : decode (mB mX3_checkedTube) 22 = .ok (.invokespecial 308, 3) := by decide +kernel
theorem qX3_checkedTube_25 : decode (mB mX3_checkedTube) 25 = .ok (.athrow, 1) := by decide +kernel
theorem qX3_checkedTube_26 : decode (mB mX3_checkedTube) 26 = .ok (.aload_n 0, 1) := by decide +kernel
theorem qX3_checkedTube_27 : decode (mB mX3_checkedTube) 27 = .ok (.getfield 40, 3) := by decide +kernel
theorem qX3_checkedTube_30 : decode (mB mX3_checkedTube) 30 = .ok (.getfield 120, 3) := by decide +kernel
theorem qX3_checkedTube_33 : decode (mB mX3_checkedTube) 33 = .ok (.iload_n 1, 1) := by decide +kernel
theorem qX3_checkedTube_34 : decode (mB mX3_checkedTube) 34 = .ok (.aaload, 1) := by decide +kernel
theorem qX3_checkedTube_35 : decode (mB mX3_checkedTube) 35 = .ok (.areturn, 1) := by decide +kernel
theorem qX3_dip_0 : decode (mB mX3_dip) 0 = .ok (.aload_n 0, 1) := by decide +kernel
theorem qX3_dip_1 : decode (mB mX3_dip) 1 = .ok (.iload_n 1, 1) := by decide +kernel
theorem qX3_dip_2 : decode (mB mX3_dip) 2 = .ok (.invokevirtual 141, 3) := by decide +kernel
theorem qX3_dip_5 : decode (mB mX3_dip) 5 = .ok (.astore_n 3, 1) := by decide +kernel
theorem qX3_dip_6 : decode (mB mX3_dip) 6 = .ok (.aload_n 0, 1) := by decide +kernel
theorem qX3_dip_7 : decode (mB mX3_dip) 7 = .ok (.iload_n 2, 1) := by decide +kernel
theorem qX3_dip_8 : decode (mB mX3_dip) 8 = .ok (.invokevirtual 113, 3) := by decide +kernel
theorem qX3_dip_11 : decode (mB mX3_dip) 11 = .ok (.aload_n 0, 1) := by decide +kernel
theorem qX3_dip_12 : decode (mB mX3_dip) 12 = .ok (.getfield 40, 3) := by decide +kernel
theorem qX3_dip_15 : decode (mB mX3_dip) 15 = .ok (.aload_n 3, 1) := by decide +kernel
theorem qX3_dip_16 : decode (mB mX3_dip) 16 = .ok (.iload_n 2, 1) := by decide +kernel
theorem qX3_dip_17 : decode (mB mX3_dip) 17 = .ok (.invokevirtual 209, 3) := by decide +kernel
theorem qX3_dip_20 : decode (mB mX3_dip) 20 = .ok (.ifCond .eq 13, 3) := by decide +kernel
theorem qX3_dip_23 : decode (mB mX3_dip) 23 = .ok (.new 80, 3) := by decide +kernel
theorem qX3_dip_26 : decode (mB mX3_dip) 26 = .ok (.dup, 1) := by decide +kernel
theorem qX3_dip_27 : decode (mB mX3_dip) 27 = .ok (.ldc 253, 2) := by decide +kernel
theorem qX3_dip_29 : decode (mB mX3_dip) 29 = .ok (.invokespecial 84, 3) := by decide +kernel
theorem qX3_dip_32 : decode (mB mX3_dip) 32 = .ok (.athrow, 1) := by decide +kernel
theorem qX3_dip_33 : decode (mB mX3_dip) 33 = .ok (.aload_n 0, 1) := by decide +kernel
theorem qX3_dip_34 : decode (mB mX3_dip) 34 = .ok (.invokevirtual 101, 3) := by decide +kernel
theorem qX3_dip_37 : decode (mB mX3_dip) 37 = .ok (.aload_n 3, 1) := by decide +kernel
theorem qX3_dip_38 : decode (mB mX3_dip) 38 = .ok (.iload_n 2, 1) := by decide +kernel
theorem qX3_dip_39 : decode (mB mX3_dip) 39 = .ok (.putfield 124, 3) := by decide +kernel
theorem qX3_dip_42 : decode (mB mX3_dip) 42 = .ok (.aload_n 0, 1) := by decide +kernel
theorem qX3_dip_43 : decode (mB mX3_dip) 43 = .ok (.getfield 40, 3) := by decide +kernel
theorem qX3_dip_46 : decode (mB mX3_dip) 46 = .ok (.aload_n 3, 1) := by decide +kernel
theorem qX3_dip_47 : decode (mB mX3_dip) 47 = .ok (.invokevirtual 148, 3) := by decide +kernel
theorem qX3_dip_50 : decode (mB mX3_dip) 50 = .ok (.ireturn, 1) := by decide +kernel
theorem qX3_dipRefusal_0 : decode (mB mX3_dipRefusal) 0 = .ok (.aload_n 0, 1) := by decide +kernel
theorem qX3_dipRefusal_1 : decode (mB mX3_dipRefusal) 1 = .ok (.iload_n 1, 1) := by decide +kernel
theorem qX3_dipRefusal_2 : decode (mB mX3_dipRefusal) 2 = .ok (.invokevirtual 141, 3) := by decide +kernel
theorem qX3_dipRefusal_5 : decode (mB mX3_dipRefusal) 5 = .ok (.astore_n 3, 1) := by decide +kernel
theorem qX3_dipRefusal_6 : decode (mB mX3_dipRefusal) 6 = .ok (.aload_n 0, 1) := by decide +kernel
theorem qX3_dipRefusal_7 : decode (mB mX3_dipRefusal) 7 = .ok (.iload_n 2, 1) := by decide +kernel
theorem qX3_dipRefusal_8 : decode (mB mX3_dipRefusal) 8 = .ok (.invokevirtual 113, 3) := by decide +kernel
theorem qX3_dipRefusal_11 : decode (mB mX3_dipRefusal) 11 = .ok (.aload_n 0, 1) := by decide +kernel
theorem qX3_dipRefusal_12 : decode (mB mX3_dipRefusal) 12 = .ok (.getfield 40, 3) := by decide +kernel
theorem qX3_dipRefusal_15 : decode (mB mX3_dipRefusal) 15 = .ok (.aload_n 3, 1) := by decide +kernel
theorem qX3_dipRefusal_16 : decode (mB mX3_dipRefusal) 16 = .ok (.iload_n 2, 1) := by decide +kernel
theorem qX3_dipRefusal_17 : decode (mB mX3_dipRefusal) 17 = .ok (.invokevirtual 209, 3) := by decide +kernel
theorem qX3_dipRefusal_20 : decode (mB mX3_dipRefusal) 20 = .ok (.ireturn, 1) := by decide +kernel
theorem qX3_disagreement_0 : decode (mB mX3_disagreement) 0 = .ok (.aload_n 0, 1) := by decide +kernel
theorem qX3_disagreement_1 : decode (mB mX3_disagreement) 1 = .ok (.iload_n 1, 1) := by decide +kernel
theorem qX3_disagreement_2 : decode (mB mX3_disagreement) 2 = .ok (.invokevirtual 141, 3) := by decide +kernel
theorem qX3_disagreement_5 : decode (mB mX3_disagreement) 5 = .ok (.astore_n 3, 1) := by decide +kernel
theorem qX3_disagreement_6 : decode (mB mX3_disagreement) 6 = .ok (.aload_n 0, 1) := by decide +kernel
theorem qX3_disagreement_7 : decode (mB mX3_disagreement) 7 = .ok (.iload_n 2, 1) := by decide +kernel
theorem qX3_disagreement_8 : decode (mB mX3_disagreement) 8 = .ok (.invokevirtual 141, 3) := by decide +kernel
theorem qX3_disagreement_11 : decode (mB mX3_disagreement) 11 = .ok (.astore 4, 2) := by decide +kernel
theorem qX3_disagreement_13 : decode (mB mX3_disagreement) 13 = .ok (.aload_n 3, 1) := by decide +kernel
theorem qX3_disagreement_14 : decode (mB mX3_disagreement) 14 = .ok (.invokestatic 196, 3) := by decide +kernel
theorem qX3_disagreement_17 : decode (mB mX3_disagreement) 17 = .ok (.aload 4, 2) := by decide +kernel
theorem qX3_disagreement_19 : decode (mB mX3_disagreement) 19 = .ok (.invokestatic 196, 3) := by decide +kernel
theorem qX3_disagreement_22 : decode (mB mX3_disagreement) 22 = .ok (.aload_n 3, 1) := by decide +kernel
theorem qX3_disagreement_23 : decode (mB mX3_disagreement) 23 = .ok (.invokevirtual 200, 3) := by decide +kernel
theorem qX3_disagreement_26 : decode (mB mX3_disagreement) 26 = .ok (.aload 4, 2) := by decide +kernel
theorem qX3_disagreement_28 : decode (mB mX3_disagreement) 28 = .ok (.invokevirtual 200, 3) := by decide +kernel
theorem qX3_disagreement_31 : decode (mB mX3_disagreement) 31 = .ok (.isub, 1) := by decide +kernel
theorem qX3_disagreement_32 : decode (mB mX3_disagreement) 32 = .ok (.invokestatic 216, 3) := by decide +kernel
theorem qX3_disagreement_35 : decode (mB mX3_disagreement) 35 = .ok (.ireturn, 1) := by decide +kernel
theorem qX3_emptyGalleries_0 : decode (mB mX3_emptyGalleries) 0 = .ok (.iload_n 0, 1) := by decide +kernel
theorem qX3_emptyGalleries_1 : decode (mB mX3_emptyGalleries) 1 = .ok (.anewarray 10, 3) := by decide +kernel
theorem qX3_emptyGalleries_4 : decode (mB mX3_emptyGalleries) 4 = .ok (.astore_n 1, 1) := by decide +kernel
theorem qX3_emptyGalleries_5 : decode (mB mX3_emptyGalleries) 5 = .ok (.iconst 0, 1) := by decide +kernel
theorem qX3_emptyGalleries_6 : decode (mB mX3_emptyGalleries) 6 = .ok (.istore_n 2, 1) := by decide +kernel
theorem qX3_emptyGalleries_7 : decode (mB mX3_emptyGalleries) 7 = .ok (.iload_n 2, 1) := by decide +kernel
theorem qX3_emptyGalleries_8 : decode (mB mX3_emptyGalleries) 8 = .ok (.iload_n 0, 1) := by decide +kernel
theorem qX3_emptyGalleries_9 : decode (mB mX3_emptyGalleries) 9 = .ok (.if_icmp .ge 19, 3) := by decide +kernel
theorem qX3_emptyGalleries_12 : decode (mB mX3_emptyGalleries) 12 = .ok (.aload_n 1, 1) := by decide +kernel
theorem qX3_emptyGalleries_13 : decode (mB mX3_emptyGalleries) 13 = .ok (.iload_n 2, 1) := by decide +kernel
theorem qX3_emptyGalleries_14 : decode (mB mX3_emptyGalleries) 14 = .ok (.new 10, 3) := by decide +kernel
theorem qX3_emptyGalleries_17 : decode (mB mX3_emptyGalleries) 17 = .ok (.dup, 1) := by decide +kernel
theorem qX3_emptyGalleries_18 : decode (mB mX3_emptyGalleries) 18 = .ok (.invokespecial 12, 3) := by decide +kernel
theorem qX3_emptyGalleries_21 : decode (mB mX3_emptyGalleries) 21 = .ok (.aastore, 1) := by decide +kernel
theorem qX3_emptyGalleries_22 : decode (mB mX3_emptyGalleries) 22 = .ok (.iinc 2 1, 3) := by decide +kernel
theorem qX3_emptyGalleries_25 : decode (mB mX3_emptyGalleries) 25 = .ok (.goto (-18), 3) := by decide +kernel
theorem qX3_emptyGalleries_28 : decode (mB mX3_emptyGalleries) 28 = .ok (.aload_n 1, 1) := by decide +kernel
theorem qX3_emptyGalleries_29 : decode (mB mX3_emptyGalleries) 29 = .ok (.areturn, 1) := by decide +kernel
theorem qX3_erasePoint_0 : decode (mB mX3_erasePoint) 0 = .ok (.aload_n 0, 1) := by decide +kernel
theorem qX3_erasePoint_1 : decode (mB mX3_erasePoint) 1 = .ok (.iload_n 1, 1) := by decide +kernel
theorem qX3_erasePoint_2 : decode (mB mX3_erasePoint) 2 = .ok (.invokevirtual 141, 3) := by decide +kernel
theorem qX3_erasePoint_5 : decode (mB mX3_erasePoint) 5 = .ok (.astore_n 3, 1) := by decide +kernel
theorem qX3_erasePoint_6 : decode (mB mX3_erasePoint) 6 = .ok (.aload_n 3, 1) := by decide +kernel
theorem qX3_erasePoint_7 : decode (mB mX3_erasePoint) 7 = .ok (.iload_n 2, 1) := by decide +kernel
theorem qX3_erasePoint_8 : decode (mB mX3_erasePoint) 8 = .ok (.invokestatic 182, 3) := by decide +kernel
theorem qX3_erasePoint_11 : decode (mB mX3_erasePoint) 11 = .ok (.aload_n 0, 1) := by decide +kernel
theorem qX3_erasePoint_12 : decode (mB mX3_erasePoint) 12 = .ok (.invokevirtual 101, 3) := by decide +kernel
theorem qX3_erasePoint_15 : decode (mB mX3_erasePoint) 15 = .ok (.aload_n 3, 1) := by decide +kernel
theorem qX3_erasePoint_16 : decode (mB mX3_erasePoint) 16 = .ok (.getfield 189, 3) := by decide +kernel
theorem qX3_erasePoint_19 : decode (mB mX3_erasePoint) 19 = .ok (.iload_n 2, 1) := by decide +kernel
theorem qX3_erasePoint_20 : decode (mB mX3_erasePoint) 20 = .ok (.iaload, 1) := by decide +kernel
theorem qX3_erasePoint_21 : decode (mB mX3_erasePoint) 21 = .ok (.istore 4, 2) := by decide +kernel
theorem qX3_erasePoint_23 : decode (mB mX3_erasePoint) 23 = .ok (.aload_n 3, 1) := by decide +kernel
theorem qX3_erasePoint_24 : decode (mB mX3_erasePoint) 24 = .ok (.iload_n 2, 1) := by decide +kernel
theorem qX3_erasePoint_25 : decode (mB mX3_erasePoint) 25 = .ok (.invokevirtual 262, 3) := by decide +kernel
theorem qX3_erasePoint_28 : decode (mB mX3_erasePoint) 28 = .ok (.iload 4, 2) := by decide +kernel
theorem qX3_erasePoint_30 : decode (mB mX3_erasePoint) 30 = .ok (.ireturn, 1) := by decide +kernel
theorem qX3_errorCode_0 : decode (mB mX3_errorCode) 0 = .ok (.aload_n 0, 1) := by decide +kernel
theorem qX3_errorCode_1 : decode (mB mX3_errorCode) 1 = .ok (.getfield 74, 3) := by decide +kernel
theorem qX3_errorCode_4 : decode (mB mX3_errorCode) 4 = .ok (.ireturn, 1) := by decide +kernel
theorem qX3_errorOffset_0 : decode (mB mX3_errorOffset) 0 = .ok (.aload_n 0, 1) := by decide +kernel
theorem qX3_errorOffset_1 : decode (mB mX3_errorOffset) 1 = .ok (.getfield 77, 3) := by decide +kernel
theorem qX3_errorOffset_4 : decode (mB mX3_errorOffset) 4 = .ok (.ireturn, 1) := by decide +kernel
theorem qX3_fillOf_0 : decode (mB mX3_fillOf) 0 = .ok (.aload_n 0, 1) := by decide +kernel
theorem qX3_fillOf_1 : decode (mB mX3_fillOf) 1 = .ok (.iload_n 1, 1) := by decide +kernel
theorem qX3_fillOf_2 : decode (mB mX3_fillOf) 2 = .ok (.invokevirtual 141, 3) := by decide +kernel
theorem qX3_fillOf_5 : decode (mB mX3_fillOf) 5 = .ok (.getfield 135, 3) := by decide +kernel
theorem qX3_fillOf_8 : decode (mB mX3_fillOf) 8 = .ok (.ireturn, 1) := by decide +kernel
theorem qX3_fitError_0 : decode (mB mX3_fitError) 0 = .ok (.aload_n 0, 1) := by decide +kernel
theorem qX3_fitError_1 : decode (mB mX3_fitError) 1 = .ok (.iload_n 1, 1) := by decide +kernel
theorem qX3_fitError_2 : decode (mB mX3_fitError) 2 = .ok (.invokevirtual 141, 3) := by decide +kernel
theorem qX3_fitError_5 : decode (mB mX3_fitError) 5 = .ok (.astore_n 2, 1) := by decide +kernel
theorem qX3_fitError_6 : decode (mB mX3_fitError) 6 = .ok (.aload_n 2, 1) := by decide +kernel
theorem qX3_fitError_7 : decode (mB mX3_fitError) 7 = .ok (.invokestatic 196, 3) := by decide +kernel
theorem qX3_fitError_10 : decode (mB mX3_fitError) 10 = .ok (.aload_n 2, 1) := by decide +kernel
theorem qX3_fitError_11 : decode (mB mX3_fitError) 11 = .ok (.invokevirtual 206, 3) := by decide +kernel
theorem qX3_fitError_14 : decode (mB mX3_fitError) 14 = .ok (.ireturn, 1) := by decide +kernel
theorem qX3_freeHeightAt_0 : decode (mB mX3_freeHeightAt) 0 = .ok (.aload_n 0, 1) := by decide +kernel
theorem qX3_freeHeightAt_1 : decode (mB mX3_freeHeightAt) 1 = .ok (.iload_n 1, 1) := by decide +kernel
theorem qX3_freeHeightAt_2 : decode (mB mX3_freeHeightAt) 2 = .ok (.invokevirtual 141, 3) := by decide +kernel
theorem qX3_freeHeightAt_5 : decode (mB mX3_freeHeightAt) 5 = .ok (.astore_n 3, 1) := by decide +kernel
theorem qX3_freeHeightAt_6 : decode (mB mX3_freeHeightAt) 6 = .ok (.iload_n 2, 1) := by decide +kernel
theorem qX3_freeHeightAt_7 : decode (mB mX3_freeHeightAt) 7 = .ok (.sipush (-200), 3) := by decide +kernel
theorem qX3_freeHeightAt_10 : decode (mB mX3_freeHeightAt) 10 = .ok (.sipush 1500, 3) := by decide +kernel
theorem qX3_freeHeightAt_13 : decode (mB mX3_freeHeightAt) 13 = .ok (.invokestatic 164, 3) := by decide +kernel
theorem qX3_freeHeightAt_16 : decode (mB mX3_freeHeightAt) 16 = .ok (.aload_n 3, 1) := by decide +kernel
theorem qX3_freeHeightAt_17 : decode (mB mX3_freeHeightAt) 17 = .ok (.iload_n 2, 1) := by decide +kernel
theorem qX3_freeHeightAt_18 : decode (mB mX3_freeHeightAt) 18 = .ok (.invokevirtual 168, 3) := by decide +kernel
theorem qX3_freeHeightAt_21 : decode (mB mX3_freeHeightAt) 21 = .ok (.ireturn, 1) := by decide +kernel
theorem qX3_greatestTemperature_0 : decode (mB mX3_greatestTemperature) 0 = .ok (.aload_n 0, 1) := by decide +kernel
theorem qX3_greatestTemperature_1 : decode (mB mX3_greatestTemperature) 1 = .ok (.iload_n 1, 1) := by decide +kernel
theorem qX3_greatestTemperature_2 : decode (mB mX3_greatestTemperature) 2 = .ok (.invokevirtual 141, 3) := by decide +kernel
theorem qX3_greatestTemperature_5 : decode (mB mX3_greatestTemperature) 5 = .ok (.astore_n 2, 1) := by decide +kernel
theorem qX3_greatestTemperature_6 : decode (mB mX3_greatestTemperature) 6 = .ok (.sipush 1500, 3) := by decide +kernel
theorem qX3_greatestTemperature_9 : decode (mB mX3_greatestTemperature) 9 = .ok (.istore_n 3, 1) := by decide +kernel
theorem qX3_greatestTemperature_10 : decode (mB mX3_greatestTemperature) 10 = .ok (.iload_n 3, 1) := by decide +kernel
theorem qX3_greatestTemperature_11 : decode (mB mX3_greatestTemperature) 11 = .ok (.sipush (-200), 3) := by decide +kernel
theorem qX3_greatestTemperature_14 : decode (mB mX3_greatestTemperature) 14 = .ok (.if_icmp .lt 23, 3) := by decide +kernel
theorem qX3_greatestTemperature_17 : decode (mB mX3_greatestTemperature) 17 = .ok (.aload_n 2, 1) := by decide +kernel
theorem qX3_greatestTemperature_18 : decode (mB mX3_greatestTemperature) 18 = .ok (.iload_n 3, 1) := by decide +kernel
theorem qX3_greatestTemperature_19 : decode (mB mX3_greatestTemperature) 19 = .ok (.invokevirtual 168, 3) := by decide +kernel
theorem qX3_greatestTemperature_22 : decode (mB mX3_greatestTemperature) 22 = .ok (.aload_n 2, 1) := by decide +kernel
theorem qX3_greatestTemperature_23 : decode (mB mX3_greatestTemperature) 23 = .ok (.getfield 172, 3) := by decide +kernel
theorem qX3_greatestTemperature_26 : decode (mB mX3_greatestTemperature) 26 = .ok (.if_icmp .gt 5, 3) := by decide +kernel
theorem qX3_greatestTemperature_29 : decode (mB mX3_greatestTemperature) 29 = .ok (.iload_n 3, 1) := by decide +kernel
theorem qX3_greatestTemperature_30 : decode (mB mX3_greatestTemperature) 30 = .ok (.ireturn, 1) := by decide +kernel
theorem qX3_greatestTemperature_31 : decode (mB mX3_greatestTemperature) 31 = .ok (.iinc 3 (-1), 3) := by decide +kernel
theorem qX3_greatestTemperature_34 : decode (mB mX3_greatestTemperature) 34 = .ok (.goto (-24), 3) := by decide +kernel
theorem qX3_greatestTemperature_37 : decode (mB mX3_greatestTemperature) 37 = .ok (.sipush (-1000), 3) := by decide +kernel
theorem qX3_greatestTemperature_40 : decode (mB mX3_greatestTemperature) 40 = .ok (.ireturn, 1) := by decide +kernel
theorem qX3_hasScale_0 : decode (mB mX3_hasScale) 0 = .ok (.aload_n 0, 1) := by decide +kernel
theorem qX3_hasScale_1 : decode (mB mX3_hasScale) 1 = .ok (.iload_n 1, 1) := by decide +kernel
theorem qX3_hasScale_2 : decode (mB mX3_hasScale) 2 = .ok (.invokevirtual 141, 3) := by decide +kernel
theorem qX3_hasScale_5 : decode (mB mX3_hasScale) 5 = .ok (.invokevirtual 192, 3) := by decide +kernel
theorem qX3_hasScale_8 : decode (mB mX3_hasScale) 8 = .ok (.ireturn, 1) := by decide +kernel
theorem qX3_height_0 : decode (mB mX3_height) 0 = .ok (.aload_n 0, 1) := by decide +kernel
theorem qX3_height_1 : decode (mB mX3_height) 1 = .ok (.iload_n 1, 1) := by decide +kernel
theorem qX3_height_2 : decode (mB mX3_height) 2 = .ok (.invokevirtual 141, 3) := by decide +kernel
theorem qX3_height_5 : decode (mB mX3_height) 5 = .ok (.invokevirtual 160, 3) := by decide +kernel
theorem qX3_height_8 : decode (mB mX3_height) 8 = .ok (.ireturn, 1) := by decide +kernel
theorem qX3_init_0 : decode (mB mX3_init) 0 = .ok (.aload_n 0, 1) := by decide +kernel
theorem qX3_init_1 : decode (mB mX3_init) 1 = .ok (.invokespecial 1, 3) := by decide +kernel
theorem qX3_init_4 : decode (mB mX3_init) 4 = .ok (.new 7, 3) := by decide +kernel
theorem qX3_init_7 : decode (mB mX3_init) 7 = .ok (.dup, 1) := by decide +kernel
theorem qX3_init_8 : decode (mB mX3_init) 8 = .ok (.invokespecial 9, 3) := by decide +kernel
theorem qX3_init_11 : decode (mB mX3_init) 11 = .ok (.astore_n 1, 1) := by decide +kernel
theorem qX3_init_12 : decode (mB mX3_init) 12 = .ok (.new 10, 3) := by decide +kernel
theorem qX3_init_15 : decode (mB mX3_init) 15 = .ok (.dup, 1) := by decide +kernel
theorem qX3_init_16 : decode (mB mX3_init) 16 = .ok (.invokespecial 12, 3) := by decide +kernel
theorem qX3_init_19 : decode (mB mX3_init) 19 = .ok (.astore_n 2, 1) := by decide +kernel
theorem qX3_init_20 : decode (mB mX3_init) 20 = .ok (.aload_n 1, 1) := by decide +kernel
theorem qX3_init_21 : decode (mB mX3_init) 21 = .ok (.ldc 15, 2) := by decide +kernel
theorem qX3_init_23 : decode (mB mX3_init) 23 = .ok (.invokevirtual 17, 3) := by decide +kernel
theorem qX3_init_26 : decode (mB mX3_init) 26 = .ok (.aload_n 1, 1) := by decide +kernel
theorem qX3_init_27 : decode (mB mX3_init) 27 = .ok (.invokevirtual 21, 3) := by decide +kernel
theorem qX3_init_30 : decode (mB mX3_init) 30 = .ok (.aload_n 2, 1) := by decide +kernel
theorem qX3_init_31 : decode (mB mX3_init) 31 = .ok (.aload_n 1, 1) := by decide +kernel
theorem qX3_init_32 : decode (mB mX3_init) 32 = .ok (.getfield 24, 3) := by decide +kernel
theorem qX3_init_35 : decode (mB mX3_init) 35 = .ok (.invokevirtual 28, 3) := by decide +kernel
theorem qX3_init_38 : decode (mB mX3_init) 38 = .ok (.aload_n 1, 1) := by decide +kernel
theorem qX3_init_39 : decode (mB mX3_init) 39 = .ok (.iconst 0, 1) := by decide +kernel
theorem qX3_init_40 : decode (mB mX3_init) 40 = .ok (.putfield 32, 3) := by decide +kernel
theorem qX3_init_43 : decode (mB mX3_init) 43 = .ok (.aload_n 0, 1) := by decide +kernel
theorem qX3_init_44 : decode (mB mX3_init) 44 = .ok (.aload_n 1, 1) := by decide +kernel
theorem qX3_init_45 : decode (mB mX3_init) 45 = .ok (.putfield 36, 3) := by decide +kernel
theorem qX3_init_48 : decode (mB mX3_init) 48 = .ok (.aload_n 0, 1) := by decide +kernel
theorem qX3_init_49 : decode (mB mX3_init) 49 = .ok (.aload_n 2, 1) := by decide +kernel
theorem qX3_init_50 : decode (mB mX3_init) 50 = .ok (.putfield 40, 3) := by decide +kernel
theorem qX3_init_53 : decode (mB mX3_init) 53 = .ok (.aload_n 0, 1) := by decide +kernel
theorem qX3_init_54 : decode (mB mX3_init) 54 = .ok (.new 10, 3) := by decide +kernel
theorem qX3_init_57 : decode (mB mX3_init) 57 = .ok (.dup, 1) := by decide +kernel
theorem qX3_init_58 : decode (mB mX3_init) 58 = .ok (.invokespecial 12, 3) := by decide +kernel
theorem qX3_init_61 : decode (mB mX3_init) 61 = .ok (.putfield 43, 3) := by decide +kernel
theorem qX3_init_64 : decode (mB mX3_init) 64 = .ok (.aload_n 0, 1) := by decide +kernel
theorem qX3_init_65 : decode (mB mX3_init) 65 = .ok (.bipush 6, 2) := by decide +kernel
theorem qX3_init_67 : decode (mB mX3_init) 67 = .ok (.invokestatic 46, 3) := by decide +kernel
theorem qX3_init_70 : decode (mB mX3_init) 70 = .ok (.putfield 50, 3) := by decide +kernel
theorem qX3_init_73 : decode (mB mX3_init) 73 = .ok (.aload_n 0, 1) := by decide +kernel
theorem qX3_init_74 : decode (mB mX3_init) 74 = .ok (.iconst 2, 1) := by decide +kernel
theorem qX3_init_75 : decode (mB mX3_init) 75 = .ok (.invokestatic 46, 3) := by decide +kernel
theorem qX3_init_78 : decode (mB mX3_init) 78 = .ok (.putfield 54, 3) := by decide +kernel
theorem qX3_init_81 : decode (mB mX3_init) 81 = .ok (.aload_n 0, 1) := by decide +kernel
theorem qX3_init_82 : decode (mB mX3_init) 82 = .ok (.iconst 2, 1) := by decide +kernel
theorem qX3_init_83 : decode (mB mX3_init) 83 = .ok (.newarray .boolean, 2) := by decide +kernel
theorem qX3_init_85 : decode (mB mX3_init) 85 = .ok (.putfield 57, 3) := by decide +kernel
theorem qX3_init_88 : decode (mB mX3_init) 88 = .ok (.aload_n 0, 1) := by decide +kernel
theorem qX3_init_89 : decode (mB mX3_init) 89 = .ok (.new 61, 3) := by decide +kernel
theorem qX3_init_92 : decode (mB mX3_init) 92 = .ok (.dup, 1) := by decide +kernel
theorem qX3_init_93 : decode (mB mX3_init) 93 = .ok (.invokespecial 63, 3) := by decide +kernel
theorem qX3_init_96 : decode (mB mX3_init) 96 = .ok (.putfield 64, 3) := by decide +kernel
theorem qX3_init_99 : decode (mB mX3_init) 99 = .ok (.aload_n 0, 1) := by decide +kernel
theorem qX3_init_100 : decode (mB mX3_init) 100 = .ok (.iconst 0, 1) := by decide +kernel
theorem qX3_init_101 : decode (mB mX3_init) 101 = .ok (.putfield 68, 3) := by decide +kernel
theorem qX3_init_104 : decode (mB mX3_init) 104 = .ok (.aload_n 0, 1) := by decide +kernel
theorem qX3_init_105 : decode (mB mX3_init) 105 = .ok (.iconst 0, 1) := by decide +kernel
theorem qX3_init_106 : decode (mB mX3_init) 106 = .ok (.putfield 71, 3) := by decide +kernel
theorem qX3_init_109 : decode (mB mX3_init) 109 = .ok (.aload_n 0, 1) := by decide +kernel
theorem qX3_init_110 : decode (mB mX3_init) 110 = .ok (.iconst 0, 1) := by decide +kernel
theorem qX3_init_111 : decode (mB mX3_init) 111 = .ok (.putfield 74, 3) := by decide +kernel
theorem qX3_init_114 : decode (mB mX3_init) 114 = .ok (.aload_n 0, 1) := by decide +kernel
theorem qX3_init_115 : decode (mB mX3_init) 115 = .ok (.iconst (-1), 1) := by decide +kernel
theorem qX3_init_116 : decode (mB mX3_init) 116 = .ok (.putfield 77, 3) := by decide +kernel
theorem qX3_init_119 : decode (mB mX3_init) 119 = .ok (.return_, 1) := by decide +kernel
theorem qX3_isLeaky_0 : decode (mB mX3_isLeaky) 0 = .ok (.aload_n 0, 1) := by decide +kernel
theorem qX3_isLeaky_1 : decode (mB mX3_isLeaky) 1 = .ok (.iload_n 1, 1) := by decide +kernel
theorem qX3_isLeaky_2 : decode (mB mX3_isLeaky) 2 = .ok (.invokevirtual 141, 3) := by decide +kernel
theorem qX3_isLeaky_5 : decode (mB mX3_isLeaky) 5 = .ok (.getfield 156, 3) := by decide +kernel
theorem qX3_isLeaky_8 : decode (mB mX3_isLeaky) 8 = .ok (.ireturn, 1) := by decide +kernel
theorem qX3_isSettled_0 : decode (mB mX3_isSettled) 0 = .ok (.aload_n 0, 1) := by decide +kernel
theorem qX3_isSettled_1 : decode (mB mX3_isSettled) 1 = .ok (.getfield 40, 3) := by decide +kernel
theorem qX3_isSettled_4 : decode (mB mX3_isSettled) 4 = .ok (.aload_n 0, 1) := by decide +kernel
theorem qX3_isSettled_5 : decode (mB mX3_isSettled) 5 = .ok (.iload_n 1, 1) := by decide +kernel
theorem qX3_isSettled_6 : decode (mB mX3_isSettled) 6 = .ok (.invokevirtual 141, 3) := by decide +kernel
theorem qX3_isSettled_9 : decode (mB mX3_isSettled) 9 = .ok (.invokevirtual 152, 3) := by decide +kernel
theorem qX3_isSettled_12 : decode (mB mX3_isSettled) 12 = .ok (.ireturn, 1) := by decide +kernel
theorem qX3_layThumb_0 : decode (mB mX3_layThumb) 0 = .ok (.aload_n 0, 1) := by decide +kernel
theorem qX3_layThumb_1 : decode (mB mX3_layThumb) 1 = .ok (.iload_n 1, 1) := by decide +kernel
theorem qX3_layThumb_2 : decode (mB mX3_layThumb) 2 = .ok (.invokevirtual 141, 3) := by decide +kernel
theorem qX3_layThumb_5 : decode (mB mX3_layThumb) 5 = .ok (.pop, 1) := by decide +kernel
theorem qX3_layThumb_6 : decode (mB mX3_layThumb) 6 = .ok (.iload_n 2, 1) := by decide +kernel
theorem qX3_layThumb_7 : decode (mB mX3_layThumb) 7 = .ok (.iconst 1, 1) := by decide +kernel
theorem qX3_layThumb_8 : decode (mB mX3_layThumb) 8 = .ok (.bipush 60, 2) := by decide +kernel
theorem qX3_layThumb_10 : decode (mB mX3_layThumb) 10 = .ok (.invokestatic 164, 3) := by decide +kernel
theorem qX3_layThumb_13 : decode (mB mX3_layThumb) 13 = .ok (.aload_n 0, 1) := by decide +kernel
theorem qX3_layThumb_14 : decode (mB mX3_layThumb) 14 = .ok (.invokevirtual 101, 3) := by decide +kernel
theorem qX3_layThumb_17 : decode (mB mX3_layThumb) 17 = .ok (.aload_n 0, 1) := by decide +kernel
theorem qX3_layThumb_18 : decode (mB mX3_layThumb) 18 = .ok (.getfield 40, 3) := by decide +kernel
theorem qX3_layThumb_21 : decode (mB mX3_layThumb) 21 = .ok (.getfield 173, 3) := by decide +kernel
theorem qX3_layThumb_24 : decode (mB mX3_layThumb) 24 = .ok (.istore_n 3, 1) := by decide +kernel
theorem qX3_layThumb_25 : decode (mB mX3_layThumb) 25 = .ok (.aload_n 0, 1) := by decide +kernel
theorem qX3_layThumb_26 : decode (mB mX3_layThumb) 26 = .ok (.getfield 40, 3) := by decide +kernel
theorem qX3_layThumb_29 : decode (mB mX3_layThumb) 29 = .ok (.iload_n 1, 1) := by decide +kernel
theorem qX3_layThumb_30 : decode (mB mX3_layThumb) 30 = .ok (.putfield 173, 3) := by decide +kernel
theorem qX3_layThumb_33 : decode (mB mX3_layThumb) 33 = .ok (.aload_n 0, 1) := by decide +kernel
theorem qX3_layThumb_34 : decode (mB mX3_layThumb) 34 = .ok (.getfield 40, 3) := by decide +kernel
theorem qX3_layThumb_37 : decode (mB mX3_layThumb) 37 = .ok (.iload_n 2, 1) := by decide +kernel
theorem qX3_layThumb_38 : decode (mB mX3_layThumb) 38 = .ok (.putfield 176, 3) := by decide +kernel
theorem qX3_layThumb_41 : decode (mB mX3_layThumb) 41 = .ok (.iload_n 3, 1) := by decide +kernel
theorem qX3_layThumb_42 : decode (mB mX3_layThumb) 42 = .ok (.ireturn, 1) := by decide +kernel
theorem qX3_lift_0 : decode (mB mX3_lift) 0 = .ok (.aload_n 0, 1) := by decide +kernel
theorem qX3_lift_1 : decode (mB mX3_lift) 1 = .ok (.iload_n 1, 1) := by decide +kernel
theorem qX3_lift_2 : decode (mB mX3_lift) 2 = .ok (.invokevirtual 141, 3) := by decide +kernel
theorem qX3_lift_5 : decode (mB mX3_lift) 5 = .ok (.astore_n 2, 1) := by decide +kernel
theorem qX3_lift_6 : decode (mB mX3_lift) 6 = .ok (.aload_n 2, 1) := by decide +kernel
theorem qX3_lift_7 : decode (mB mX3_lift) 7 = .ok (.getfield 124, 3) := by decide +kernel
theorem qX3_lift_10 : decode (mB mX3_lift) 10 = .ok (.istore_n 3, 1) := by decide +kernel
theorem qX3_lift_11 : decode (mB mX3_lift) 11 = .ok (.iload_n 3, 1) := by decide +kernel
theorem qX3_lift_12 : decode (mB mX3_lift) 12 = .ok (.iconst (-1), 1) := by decide +kernel
theorem qX3_lift_13 : decode (mB mX3_lift) 13 = .ok (.if_icmp .ne 13, 3) := by decide +kernel
theorem qX3_lift_16 : decode (mB mX3_lift) 16 = .ok (.new 80, 3) := by decide +kernel
theorem qX3_lift_19 : decode (mB mX3_lift) 19 = .ok (.dup, 1) := by decide +kernel
theorem qX3_lift_20 : decode (mB mX3_lift) 20 = .ok (.ldc 255, 2) := by decide +kernel
theorem qX3_lift_22 : decode (mB mX3_lift) 22 = .ok (.invokespecial 84, 3) := by decide +kernel
theorem qX3_lift_25 : decode (mB mX3_lift) 25 = .ok (.athrow, 1) := by decide +kernel
theorem qX3_lift_26 : decode (mB mX3_lift) 26 = .ok (.aload_n 0, 1) := by decide +kernel
theorem qX3_lift_27 : decode (mB mX3_lift) 27 = .ok (.invokevirtual 101, 3) := by decide +kernel
theorem qX3_lift_30 : decode (mB mX3_lift) 30 = .ok (.aload_n 2, 1) := by decide +kernel
theorem qX3_lift_31 : decode (mB mX3_lift) 31 = .ok (.iconst (-1), 1) := by decide +kernel
theorem qX3_lift_32 : decode (mB mX3_lift) 32 = .ok (.putfield 124, 3) := by decide +kernel
theorem qX3_lift_35 : decode (mB mX3_lift) 35 = .ok (.iload_n 3, 1) := by decide +kernel
theorem qX3_lift_36 : decode (mB mX3_lift) 36 = .ok (.ireturn, 1) := by decide +kernel
theorem qX3_load_0 : decode (mB mX3_load) 0 = .ok (.aload_n 0, 1) := by decide +kernel
theorem qX3_load_1 : decode (mB mX3_load) 1 = .ok (.getfield 36, 3) := by decide +kernel
theorem qX3_load_4 : decode (mB mX3_load) 4 = .ok (.invokevirtual 21, 3) := by decide +kernel
theorem qX3_load_7 : decode (mB mX3_load) 7 = .ok (.aload_n 0, 1) := by decide +kernel
theorem qX3_load_8 : decode (mB mX3_load) 8 = .ok (.getfield 36, 3) := by decide +kernel
theorem qX3_load_11 : decode (mB mX3_load) 11 = .ok (.iconst 0, 1) := by decide +kernel
theorem qX3_load_12 : decode (mB mX3_load) 12 = .ok (.putfield 32, 3) := by decide +kernel
theorem qX3_load_15 : decode (mB mX3_load) 15 = .ok (.aload_n 0, 1) := by decide +kernel
theorem qX3_load_16 : decode (mB mX3_load) 16 = .ok (.aload_n 0, 1) := by decide +kernel
theorem qX3_load_17 : decode (mB mX3_load) 17 = .ok (.getfield 36, 3) := by decide +kernel
theorem qX3_load_20 : decode (mB mX3_load) 20 = .ok (.getfield 95, 3) := by decide +kernel
theorem qX3_load_23 : decode (mB mX3_load) 23 = .ok (.putfield 74, 3) := by decide +kernel
theorem qX3_load_26 : decode (mB mX3_load) 26 = .ok (.aload_n 0, 1) := by decide +kernel
theorem qX3_load_27 : decode (mB mX3_load) 27 = .ok (.aload_n 0, 1) := by decide +kernel
theorem qX3_load_28 : decode (mB mX3_load) 28 = .ok (.getfield 36, 3) := by decide +kernel
theorem qX3_load_31 : decode (mB mX3_load) 31 = .ok (.getfield 98, 3) := by decide +kernel
theorem qX3_load_34 : decode (mB mX3_load) 34 = .ok (.putfield 77, 3) := by decide +kernel
theorem qX3_load_37 : decode (mB mX3_load) 37 = .ok (.aload_n 0, 1) := by decide +kernel
theorem qX3_load_38 : decode (mB mX3_load) 38 = .ok (.getfield 74, 3) := by decide +kernel
theorem qX3_load_41 : decode (mB mX3_load) 41 = .ok (.ifCond .eq 6, 3) := by decide +kernel
theorem qX3_load_44 : decode (mB mX3_load) 44 = .ok (.bipush (-7), 2) := by decide +kernel
theorem qX3_load_46 : decode (mB mX3_load) 46 = .ok (.ireturn, 1) := by decide +kernel
theorem qX3_load_47 : decode (mB mX3_load) 47 = .ok (.aload_n 0, 1) := by decide +kernel
theorem qX3_load_48 : decode (mB mX3_load) 48 = .ok (.invokevirtual 101, 3) := by decide +kernel
theorem qX3_load_51 : decode (mB mX3_load) 51 = .ok (.aload_n 0, 1) := by decide +kernel
theorem qX3_load_52 : decode (mB mX3_load) 52 = .ok (.getfield 40, 3) := by decide +kernel
theorem qX3_load_55 : decode (mB mX3_load) 55 = .ok (.aload_n 0, 1) := by decide +kernel
theorem qX3_load_56 : decode (mB mX3_load) 56 = .ok (.getfield 36, 3) := by decide +kernel
theorem qX3_load_59 : decode (mB mX3_load) 59 = .ok (.getfield 24, 3) := by decide +kernel
theorem qX3_load_62 : decode (mB mX3_load) 62 = .ok (.invokevirtual 28, 3) := by decide +kernel
theorem qX3_load_65 : decode (mB mX3_load) 65 = .ok (.aload_n 0, 1) := by decide +kernel
theorem qX3_load_66 : decode (mB mX3_load) 66 = .ok (.getfield 40, 3) := by decide +kernel
theorem qX3_load_69 : decode (mB mX3_load) 69 = .ok (.getfield 104, 3) := by decide +kernel
theorem qX3_load_72 : decode (mB mX3_load) 72 = .ok (.ireturn, 1) := by decide +kernel
theorem qX3_mark_0 : decode (mB mX3_mark) 0 = .ok (.aload_n 0, 1) := by decide +kernel
theorem qX3_mark_1 : decode (mB mX3_mark) 1 = .ok (.iload_n 1, 1) := by decide +kernel
theorem qX3_mark_2 : decode (mB mX3_mark) 2 = .ok (.invokevirtual 141, 3) := by decide +kernel
theorem qX3_mark_5 : decode (mB mX3_mark) 5 = .ok (.astore_n 2, 1) := by decide +kernel
theorem qX3_mark_6 : decode (mB mX3_mark) 6 = .ok (.aload_n 0, 1) := by decide +kernel
theorem qX3_mark_7 : decode (mB mX3_mark) 7 = .ok (.getfield 40, 3) := by decide +kernel
theorem qX3_mark_10 : decode (mB mX3_mark) 10 = .ok (.aload_n 2, 1) := by decide +kernel
theorem qX3_mark_11 : decode (mB mX3_mark) 11 = .ok (.invokevirtual 213, 3) := by decide +kernel
theorem qX3_mark_14 : decode (mB mX3_mark) 14 = .ok (.ifCond .eq 14, 3) := by decide +kernel
theorem qX3_mark_17 : decode (mB mX3_mark) 17 = .ok (.new 80, 3) := by decide +kernel
theorem qX3_mark_20 : decode (mB mX3_mark) 20 = .ok (.dup, 1) := by decide +kernel
theorem qX3_mark_21 : decode (mB mX3_mark) 21 = .ok (.ldc_w 257, 3) := by decide +kernel
theorem qX3_mark_24 : decode (mB mX3_mark) 24 = .ok (.invokespecial 84, 3) := by decide +kernel
theorem qX3_mark_27 : decode (mB mX3_mark) 27 = .ok (.athrow, 1) := by decide +kernel
theorem qX3_mark_28 : decode (mB mX3_mark) 28 = .ok (.aload_n 0, 1) := by decide +kernel
theorem qX3_mark_29 : decode (mB mX3_mark) 29 = .ok (.invokevirtual 101, 3) := by decide +kernel
theorem qX3_mark_32 : decode (mB mX3_mark) 32 = .ok (.aload_n 0, 1) := by decide +kernel
theorem qX3_mark_33 : decode (mB mX3_mark) 33 = .ok (.getfield 40, 3) := by decide +kernel
theorem qX3_mark_36 : decode (mB mX3_mark) 36 = .ok (.aload_n 2, 1) := by decide +kernel
theorem qX3_mark_37 : decode (mB mX3_mark) 37 = .ok (.invokevirtual 259, 3) := by decide +kernel
theorem qX3_mark_40 : decode (mB mX3_mark) 40 = .ok (.aload_n 2, 1) := by decide +kernel
theorem qX3_mark_41 : decode (mB mX3_mark) 41 = .ok (.getfield 179, 3) := by decide +kernel
theorem qX3_mark_44 : decode (mB mX3_mark) 44 = .ok (.ireturn, 1) := by decide +kernel
theorem qX3_markRefusal_0 : decode (mB mX3_markRefusal) 0 = .ok (.aload_n 0, 1) := by decide +kernel
theorem qX3_markRefusal_1 : decode (mB mX3_markRefusal) 1 = .ok (.getfield 40, 3) := by decide +kernel
theorem qX3_markRefusal_4 : decode (mB mX3_markRefusal) 4 = .ok (.aload_n 0, 1) := by decide +kernel
theorem qX3_markRefusal_5 : decode (mB mX3_markRefusal) 5 = .ok (.iload_n 1, 1) := by decide +kernel
theorem qX3_markRefusal_6 : decode (mB mX3_markRefusal) 6 = .ok (.invokevirtual 141, 3) := by decide +kernel
theorem qX3_markRefusal_9 : decode (mB mX3_markRefusal) 9 = .ok (.invokevirtual 213, 3) := by decide +kernel
theorem qX3_markRefusal_12 : decode (mB mX3_markRefusal) 12 = .ok (.ireturn, 1) := by decide +kernel
theorem qX3_meanHeight_0 : decode (mB mX3_meanHeight) 0 = .ok (.aload_n 0, 1) := by decide +kernel
theorem qX3_meanHeight_1 : decode (mB mX3_meanHeight) 1 = .ok (.getfield 40, 3) := by decide +kernel
theorem qX3_meanHeight_4 : decode (mB mX3_meanHeight) 4 = .ok (.getfield 104, 3) := by decide +kernel
theorem qX3_meanHeight_7 : decode (mB mX3_meanHeight) 7 = .ok (.ifCond .ne 5, 3) := by decide +kernel
theorem qX3_meanHeight_10 : decode (mB mX3_meanHeight) 10 = .ok (.dconst 0, 1) := by decide +kernel
theorem qX3_meanHeight_11 : decode (mB mX3_meanHeight) 11 = .ok (.dreturn, 1) := by decide +kernel
theorem qX3_meanHeight_12 : decode (mB mX3_meanHeight) 12 = .ok (.iconst 0, 1) := by decide +kernel
theorem qX3_meanHeight_13 : decode (mB mX3_meanHeight) 13 = .ok (.istore_n 1, 1) := by decide +kernel
theorem qX3_meanHeight_14 : decode (mB mX3_meanHeight) 14 = .ok (.iconst 0, 1) := by decide +kernel
theorem qX3_meanHeight_15 : decode (mB mX3_meanHeight) 15 = .ok (.istore_n 2, 1) := by decide +kernel
theorem qX3_meanHeight_16 : decode (mB mX3_meanHeight) 16 = .ok (.iload_n 2, 1) := by decide +kernel
theorem qX3_meanHeight_17 : decode (mB mX3_meanHeight) 17 = .ok (.aload_n 0, 1) := by decide +kernel
theorem qX3_meanHeight_18 : decode (mB mX3_meanHeight) 18 = .ok (.getfield 40, 3) := by decide +kernel
theorem qX3_meanHeight_21 : decode (mB mX3_meanHeight) 21 = .ok (.getfield 104, 3) := by decide +kernel
theorem qX3_meanHeight_24 : decode (mB mX3_meanHeight) 24 = .ok (.if_icmp .ge 24, 3) := by decide +kernel
theorem qX3_meanHeight_27 : decode (mB mX3_meanHeight) 27 = .ok (.iload_n 1, 1) := by decide +kernel
theorem qX3_meanHeight_28 : decode (mB mX3_meanHeight) 28 = .ok (.aload_n 0, 1) := by decide +kernel
theorem qX3_meanHeight_29 : decode (mB mX3_meanHeight) 29 = .ok (.getfield 40, 3) := by decide +kernel
theorem qX3_meanHeight_32 : decode (mB mX3_meanHeight) 32 = .ok (.getfield 120, 3) := by decide +kernel
theorem qX3_meanHeight_35 : decode (mB mX3_meanHeight) 35 = .ok (.iload_n 2, 1) := by decide +kernel
theorem qX3_meanHeight_36 : decode (mB mX3_meanHeight) 36 = .ok (.aaload, 1) := by decide +kernel
theorem qX3_meanHeight_37 : decode (mB mX3_meanHeight) 37 = .ok (.invokevirtual 160, 3) := by decide +kernel
theorem qX3_meanHeight_40 : decode (mB mX3_meanHeight) 40 = .ok (.iadd, 1) := by decide +kernel
theorem qX3_meanHeight_41 : decode (mB mX3_meanHeight) 41 = .ok (.istore_n 1, 1) := by decide +kernel
theorem qX3_meanHeight_42 : decode (mB mX3_meanHeight) 42 = .ok (.iinc 2 1, 3) := by decide +kernel
theorem qX3_meanHeight_45 : decode (mB mX3_meanHeight) 45 = .ok (.goto (-29), 3) := by decide +kernel
theorem qX3_meanHeight_48 : decode (mB mX3_meanHeight) 48 = .ok (.iload_n 1, 1) := by decide +kernel
theorem qX3_meanHeight_49 : decode (mB mX3_meanHeight) 49 = .ok (.i2d, 1) := by decide +kernel
theorem qX3_meanHeight_50 : decode (mB mX3_meanHeight) 50 = .ok (.aload_n 0, 1) := by decide +kernel
theorem qX3_meanHeight_51 : decode (mB mX3_meanHeight) 51 = .ok (.getfield 40, 3) := by decide +kernel
theorem qX3_meanHeight_54 : decode (mB mX3_meanHeight) 54 = .ok (.getfield 104, 3) := by decide +kernel
theorem qX3_meanHeight_57 : decode (mB mX3_meanHeight) 57 = .ok (.i2d, 1) := by decide +kernel
theorem qX3_meanHeight_58 : decode (mB mX3_meanHeight) 58 = .ok (.ddiv, 1) := by decide +kernel
theorem qX3_meanHeight_59 : decode (mB mX3_meanHeight) 59 = .ok (.dreturn, 1) := by decide +kernel
theorem qX3_minute_0 : decode (mB mX3_minute) 0 = .ok (.aload_n 0, 1) := by decide +kernel
theorem qX3_minute_1 : decode (mB mX3_minute) 1 = .ok (.getfield 40, 3) := by decide +kernel
theorem qX3_minute_4 : decode (mB mX3_minute) 4 = .ok (.getfield 107, 3) := by decide +kernel
theorem qX3_minute_7 : decode (mB mX3_minute) 7 = .ok (.ireturn, 1) := by decide +kernel
theorem qX3_missedPoints_0 : decode (mB mX3_missedPoints) 0 = .ok (.iconst 0, 1) := by decide +kernel
theorem qX3_missedPoints_1 : decode (mB mX3_missedPoints) 1 = .ok (.istore_n 1, 1) := by decide +kernel
theorem qX3_missedPoints_2 : decode (mB mX3_missedPoints) 2 = .ok (.iconst 0, 1) := by decide +kernel
theorem qX3_missedPoints_3 : decode (mB mX3_missedPoints) 3 = .ok (.istore_n 2, 1) := by decide +kernel
theorem qX3_missedPoints_4 : decode (mB mX3_missedPoints) 4 = .ok (.iload_n 2, 1) := by decide +kernel
theorem qX3_missedPoints_5 : decode (mB mX3_missedPoints) 5 = .ok (.aload_n 0, 1) := by decide +kernel
theorem qX3_missedPoints_6 : decode (mB mX3_missedPoints) 6 = .ok (.getfield 40, 3) := by decide +kernel
theorem qX3_missedPoints_9 : decode (mB mX3_missedPoints) 9 = .ok (.getfield 104, 3) := by decide +kernel
theorem qX3_missedPoints_12 : decode (mB mX3_missedPoints) 12 = .ok (.if_icmp .ge 64, 3) := by decide +kernel
theorem qX3_missedPoints_15 : decode (mB mX3_missedPoints) 15 = .ok (.aload_n 0, 1) := by decide +kernel
theorem qX3_missedPoints_16 : decode (mB mX3_missedPoints) 16 = .ok (.getfield 40, 3) := by decide +kernel
theorem qX3_missedPoints_19 : decode (mB mX3_missedPoints) 19 = .ok (.getfield 120, 3) := by decide +kernel
theorem qX3_missedPoints_22 : decode (mB mX3_missedPoints) 22 = .ok (.iload_n 2, 1) := by decide +kernel
theorem qX3_missedPoints_23 : decode (mB mX3_missedPoints) 23 = .ok (.aaload, 1) := by decide +kernel
theorem qX3_missedPoints_24 : decode (mB mX3_missedPoints) 24 = .ok (.astore_n 3, 1) := by decide +kernel
theorem qX3_missedPoints_25 : decode (mB mX3_missedPoints) 25 = .ok (.aload_n 3, 1) := by decide +kernel
theorem qX3_missedPoints_26 : decode (mB mX3_missedPoints) 26 = .ok (.invokevirtual 192, 3) := by decide +kernel
theorem qX3_missedPoints_29 : decode (mB mX3_missedPoints) 29 = .ok (.ifCond .eq 41, 3) := by decide +kernel
theorem qX3_missedPoints_32 : decode (mB mX3_missedPoints) 32 = .ok (.iload_n 1, 1) := by decide +kernel
theorem qX3_missedPoints_33 : decode (mB mX3_missedPoints) 33 = .ok (.aload_n 3, 1) := by decide +kernel
theorem qX3_missedPoints_34 : decode (mB mX3_missedPoints) 34 = .ok (.aload_n 3, 1) := by decide +kernel
theorem qX3_missedPoints_35 : decode (mB mX3_missedPoints) 35 = .ok (.invokevirtual 235, 3) := by decide +kernel
theorem qX3_missedPoints_38 : decode (mB mX3_missedPoints) 38 = .ok (.invokevirtual 238, 3) := by decide +kernel
theorem qX3_missedPoints_41 : decode (mB mX3_missedPoints) 41 = .ok (.ifCond .eq 7, 3) := by decide +kernel
theorem qX3_missedPoints_44 : decode (mB mX3_missedPoints) 44 = .ok (.iconst 1, 1) := by decide +kernel
theorem qX3_missedPoints_45 : decode (mB mX3_missedPoints) 45 = .ok (.goto 4, 3) := by decide +kernel
theorem qX3_missedPoints_48 : decode (mB mX3_missedPoints) 48 = .ok (.iconst 0, 1) := by decide +kernel
theorem qX3_missedPoints_49 : decode (mB mX3_missedPoints) 49 = .ok (.iadd, 1) := by decide +kernel
theorem qX3_missedPoints_50 : decode (mB mX3_missedPoints) 50 = .ok (.istore_n 1, 1) := by decide +kernel
theorem qX3_missedPoints_51 : decode (mB mX3_missedPoints) 51 = .ok (.iload_n 1, 1) := by decide +kernel
theorem qX3_missedPoints_52 : decode (mB mX3_missedPoints) 52 = .ok (.aload_n 3, 1) := by decide +kernel
theorem qX3_missedPoints_53 : decode (mB mX3_missedPoints) 53 = .ok (.aload_n 3, 1) := by decide +kernel
theorem qX3_missedPoints_54 : decode (mB mX3_missedPoints) 54 = .ok (.invokevirtual 241, 3) := by decide +kernel
theorem qX3_missedPoints_57 : decode (mB mX3_missedPoints) 57 = .ok (.invokevirtual 238, 3) := by decide +kernel
theorem qX3_missedPoints_60 : decode (mB mX3_missedPoints) 60 = .ok (.ifCond .eq 7, 3) := by decide +kernel
theorem qX3_missedPoints_63 : decode (mB mX3_missedPoints) 63 = .ok (.iconst 1, 1) := by decide +kernel
theorem qX3_missedPoints_64 : decode (mB mX3_missedPoints) 64 = .ok (.goto 4, 3) := by decide +kernel
theorem qX3_missedPoints_67 : decode (mB mX3_missedPoints) 67 = .ok (.iconst 0, 1) := by decide +kernel
theorem qX3_missedPoints_68 : decode (mB mX3_missedPoints) 68 = .ok (.iadd, 1) := by decide +kernel
theorem qX3_missedPoints_69 : decode (mB mX3_missedPoints) 69 = .ok (.istore_n 1, 1) := by decide +kernel
theorem qX3_missedPoints_70 : decode (mB mX3_missedPoints) 70 = .ok (.iinc 2 1, 3) := by decide +kernel
theorem qX3_missedPoints_73 : decode (mB mX3_missedPoints) 73 = .ok (.goto (-69), 3) := by decide +kernel
theorem qX3_missedPoints_76 : decode (mB mX3_missedPoints) 76 = .ok (.iload_n 1, 1) := by decide +kernel
theorem qX3_missedPoints_77 : decode (mB mX3_missedPoints) 77 = .ok (.ireturn, 1) := by decide +kernel
theorem qX3_pass_0 : decode (mB mX3_pass) 0 = .ok (.iload_n 1, 1) := by decide +kernel
theorem qX3_pass_1 : decode (mB mX3_pass) 1 = .ok (.iconst 1, 1) := by decide +kernel
theorem qX3_pass_2 : decode (mB mX3_pass) 2 = .ok (.sipush 300, 3) := by decide +kernel
theorem qX3_pass_5 : decode (mB mX3_pass) 5 = .ok (.invokestatic 164, 3) := by decide +kernel
theorem qX3_pass_8 : decode (mB mX3_pass) 8 = .ok (.aload_n 0, 1) := by decide +kernel
theorem qX3_pass_9 : decode (mB mX3_pass) 9 = .ok (.invokevirtual 101, 3) := by decide +kernel
theorem qX3_pass_12 : decode (mB mX3_pass) 12 = .ok (.aload_n 0, 1) := by decide +kernel
theorem qX3_pass_13 : decode (mB mX3_pass) 13 = .ok (.getfield 40, 3) := by decide +kernel
theorem qX3_pass_16 : decode (mB mX3_pass) 16 = .ok (.iload_n 1, 1) := by decide +kernel
theorem qX3_pass_17 : decode (mB mX3_pass) 17 = .ok (.invokevirtual 247, 3) := by decide +kernel
theorem qX3_pass_20 : decode (mB mX3_pass) 20 = .ok (.ireturn, 1) := by decide +kernel
theorem qX3_pointCount_0 : decode (mB mX3_pointCount) 0 = .ok (.aload_n 0, 1) := by decide +kernel
theorem qX3_pointCount_1 : decode (mB mX3_pointCount) 1 = .ok (.iload_n 1, 1) := by decide +kernel
theorem qX3_pointCount_2 : decode (mB mX3_pointCount) 2 = .ok (.invokevirtual 141, 3) := by decide +kernel
theorem qX3_pointCount_5 : decode (mB mX3_pointCount) 5 = .ok (.getfield 179, 3) := by decide +kernel
theorem qX3_pointCount_8 : decode (mB mX3_pointCount) 8 = .ok (.ireturn, 1) := by decide +kernel
theorem qX3_pointDegrees_0 : decode (mB mX3_pointDegrees) 0 = .ok (.aload_n 0, 1) := by decide +kernel
theorem qX3_pointDegrees_1 : decode (mB mX3_pointDegrees) 1 = .ok (.iload_n 1, 1) := by decide +kernel
theorem qX3_pointDegrees_2 : decode (mB mX3_pointDegrees) 2 = .ok (.invokevirtual 141, 3) := by decide +kernel
theorem qX3_pointDegrees_5 : decode (mB mX3_pointDegrees) 5 = .ok (.astore_n 3, 1) := by decide +kernel
theorem qX3_pointDegrees_6 : decode (mB mX3_pointDegrees) 6 = .ok (.aload_n 3, 1) := by decide +kernel
theorem qX3_pointDegrees_7 : decode (mB mX3_pointDegrees) 7 = .ok (.iload_n 2, 1) := by decide +kernel
theorem qX3_pointDegrees_8 : decode (mB mX3_pointDegrees) 8 = .ok (.invokestatic 182, 3) := by decide +kernel
theorem qX3_pointDegrees_11 : decode (mB mX3_pointDegrees) 11 = .ok (.aload_n 3, 1) := by decide +kernel
theorem qX3_pointDegrees_12 : decode (mB mX3_pointDegrees) 12 = .ok (.getfield 186, 3) := by decide +kernel
theorem qX3_pointDegrees_15 : decode (mB mX3_pointDegrees) 15 = .ok (.iload_n 2, 1) := by decide +kernel
theorem qX3_pointDegrees_16 : decode (mB mX3_pointDegrees) 16 = .ok (.iaload, 1) := by decide +kernel
theorem qX3_pointDegrees_17 : decode (mB mX3_pointDegrees) 17 = .ok (.ireturn, 1) := by decide +kernel
theorem qX3_pointHeight_0 : decode (mB mX3_pointHeight) 0 = .ok (.aload_n 0, 1) := by decide +kernel
theorem qX3_pointHeight_1 : decode (mB mX3_pointHeight) 1 = .ok (.iload_n 1, 1) := by decide +kernel
theorem qX3_pointHeight_2 : decode (mB mX3_pointHeight) 2 = .ok (.invokevirtual 141, 3) := by decide +kernel
theorem qX3_pointHeight_5 : decode (mB mX3_pointHeight) 5 = .ok (.astore_n 3, 1) := by decide +kernel
theorem qX3_pointHeight_6 : decode (mB mX3_pointHeight) 6 = .ok (.aload_n 3, 1) := by decide +kernel
theorem qX3_pointHeight_7 : decode (mB mX3_pointHeight) 7 = .ok (.iload_n 2, 1) := by decide +kernel
theorem qX3_pointHeight_8 : decode (mB mX3_pointHeight) 8 = .ok (.invokestatic 182, 3) := by decide +kernel
theorem qX3_pointHeight_11 : decode (mB mX3_pointHeight) 11 = .ok (.aload_n 3, 1) := by decide +kernel
theorem qX3_pointHeight_12 : decode (mB mX3_pointHeight) 12 = .ok (.getfield 189, 3) := by decide +kernel
theorem qX3_pointHeight_15 : decode (mB mX3_pointHeight) 15 = .ok (.iload_n 2, 1) := by decide +kernel
theorem qX3_pointHeight_16 : decode (mB mX3_pointHeight) 16 = .ok (.iaload, 1) := by decide +kernel
theorem qX3_pointHeight_17 : decode (mB mX3_pointHeight) 17 = .ok (.ireturn, 1) := by decide +kernel
theorem qX3_reading_0 : decode (mB mX3_reading) 0 = .ok (.aload_n 0, 1) := by decide +kernel
theorem qX3_reading_1 : decode (mB mX3_reading) 1 = .ok (.iload_n 1, 1) := by decide +kernel
theorem qX3_reading_2 : decode (mB mX3_reading) 2 = .ok (.invokevirtual 141, 3) := by decide +kernel
theorem qX3_reading_5 : decode (mB mX3_reading) 5 = .ok (.astore_n 2, 1) := by decide +kernel
theorem qX3_reading_6 : decode (mB mX3_reading) 6 = .ok (.aload_n 2, 1) := by decide +kernel
theorem qX3_reading_7 : decode (mB mX3_reading) 7 = .ok (.invokestatic 196, 3) := by decide +kernel
theorem qX3_reading_10 : decode (mB mX3_reading) 10 = .ok (.aload_n 2, 1) := by decide +kernel
theorem qX3_reading_11 : decode (mB mX3_reading) 11 = .ok (.invokevirtual 200, 3) := by decide +kernel
theorem qX3_reading_14 : decode (mB mX3_reading) 14 = .ok (.ireturn, 1) := by decide +kernel
theorem qX3_readingError_0 : decode (mB mX3_readingError) 0 = .ok (.aload_n 0, 1) := by decide +kernel
theorem qX3_readingError_1 : decode (mB mX3_readingError) 1 = .ok (.iload_n 1, 1) := by decide +kernel
theorem qX3_readingError_2 : decode (mB mX3_readingError) 2 = .ok (.invokevirtual 141, 3) := by decide +kernel
theorem qX3_readingError_5 : decode (mB mX3_readingError) 5 = .ok (.astore_n 2, 1) := by decide +kernel
theorem qX3_readingError_6 : decode (mB mX3_readingError) 6 = .ok (.aload_n 2, 1) := by decide +kernel
theorem qX3_readingError_7 : decode (mB mX3_readingError) 7 = .ok (.invokestatic 196, 3) := by decide +kernel
theorem qX3_readingError_10 : decode (mB mX3_readingError) 10 = .ok (.aload_n 2, 1) := by decide +kernel
theorem qX3_readingError_11 : decode (mB mX3_readingError) 11 = .ok (.invokevirtual 200, 3) := by decide +kernel
theorem qX3_readingError_14 : decode (mB mX3_readingError) 14 = .ok (.aload_n 2, 1) := by decide +kernel
theorem qX3_readingError_15 : decode (mB mX3_readingError) 15 = .ok (.getfield 145, 3) := by decide +kernel
theorem qX3_readingError_18 : decode (mB mX3_readingError) 18 = .ok (.isub, 1) := by decide +kernel
theorem qX3_readingError_19 : decode (mB mX3_readingError) 19 = .ok (.ireturn, 1) := by decide +kernel
theorem qX3_rememberCurrent_0 : decode (mB mX3_rememberCurrent) 0 = .ok (.aload_n 0, 1) := by decide +kernel
theorem qX3_rememberCurrent_1 : decode (mB mX3_rememberCurrent) 1 = .ok (.getfield 50, 3) := by decide +kernel
theorem qX3_rememberCurrent_4 : decode (mB mX3_rememberCurrent) 4 = .ok (.aload_n 0, 1) := by decide +kernel
theorem qX3_rememberCurrent_5 : decode (mB mX3_rememberCurrent) 5 = .ok (.getfield 68, 3) := by decide +kernel
theorem qX3_rememberCurrent_8 : decode (mB mX3_rememberCurrent) 8 = .ok (.aaload, 1) := by decide +kernel
theorem qX3_rememberCurrent_9 : decode (mB mX3_rememberCurrent) 9 = .ok (.aload_n 0, 1) := by decide +kernel
theorem qX3_rememberCurrent_10 : decode (mB mX3_rememberCurrent) 10 = .ok (.getfield 40, 3) := by decide +kernel
theorem qX3_rememberCurrent_13 : decode (mB mX3_rememberCurrent) 13 = .ok (.invokevirtual 28, 3) := by decide +kernel
theorem qX3_rememberCurrent_16 : decode (mB mX3_rememberCurrent) 16 = .ok (.aload_n 0, 1) := by decide +kernel
theorem qX3_rememberCurrent_17 : decode (mB mX3_rememberCurrent) 17 = .ok (.aload_n 0, 1) := by decide +kernel
theorem qX3_rememberCurrent_18 : decode (mB mX3_rememberCurrent) 18 = .ok (.getfield 68, 3) := by decide +kernel
theorem qX3_rememberCurrent_21 : decode (mB mX3_rememberCurrent) 21 = .ok (.iconst 5, 1) := by decide +kernel
theorem qX3_rememberCurrent_22 : decode (mB mX3_rememberCurrent) 22 = .ok (.if_icmp .ne 7, 3) := by decide +kernel
theorem qX3_rememberCurrent_25 : decode (mB mX3_rememberCurrent) 25 = .ok (.iconst 0, 1) := by decide +kernel
theorem qX3_rememberCurrent_26 : decode (mB mX3_rememberCurrent) 26 = .ok (.goto 9, 3) := by decide +kernel
theorem qX3_rememberCurrent_29 : decode (mB mX3_rememberCurrent) 29 = .ok (.aload_n 0, 1) := by decide +kernel
theorem qX3_rememberCurrent_30 : decode (mB mX3_rememberCurrent) 30 = .ok (.getfield 68, 3) := by decide +kernel
theorem qX3_rememberCurrent_33 : decode (mB mX3_rememberCurrent) 33 = .ok (.iconst 1, 1) := by decide +kernel
theorem qX3_rememberCurrent_34 : decode (mB mX3_rememberCurrent) 34 = .ok (.iadd, 1) := by decide +kernel
theorem qX3_rememberCurrent_35 : decode (mB mX3_rememberCurrent) 35 = .ok (.putfield 68, 3) := by decide +kernel
theorem qX3_rememberCurrent_38 : decode (mB mX3_rememberCurrent) 38 = .ok (.aload_n 0, 1) := by decide +kernel
theorem qX3_rememberCurrent_39 : decode (mB mX3_rememberCurrent) 39 = .ok (.getfield 71, 3) := by decide +kernel
theorem qX3_rememberCurrent_42 : decode (mB mX3_rememberCurrent) 42 = .ok (.bipush 6, 2) := by decide +kernel
theorem qX3_rememberCurrent_44 : decode (mB mX3_rememberCurrent) 44 = .ok (.if_icmp .ge 13, 3) := by decide +kernel
theorem qX3_rememberCurrent_47 : decode (mB mX3_rememberCurrent) 47 = .ok (.aload_n 0, 1) := by decide +kernel
theorem qX3_rememberCurrent_48 : decode (mB mX3_rememberCurrent) 48 = .ok (.dup, 1) := by decide +kernel
theorem qX3_rememberCurrent_49 : decode (mB mX3_rememberCurrent) 49 = .ok (.getfield 71, 3) := by decide +kernel
theorem qX3_rememberCurrent_52 : decode (mB mX3_rememberCurrent) 52 = .ok (.iconst 1, 1) := by decide +kernel
theorem qX3_rememberCurrent_53 : decode (mB mX3_rememberCurrent) 53 = .ok (.iadd, 1) := by decide +kernel
theorem qX3_rememberCurrent_54 : decode (mB mX3_rememberCurrent) 54 = .ok (.putfield 71, 3) := by decide +kernel
theorem qX3_rememberCurrent_57 : decode (mB mX3_rememberCurrent) 57 = .ok (.return_, 1) := by decide +kernel
theorem qX3_roomDegrees_0 : decode (mB mX3_roomDegrees) 0 = .ok (.aload_n 0, 1) := by decide +kernel
theorem qX3_roomDegrees_1 : decode (mB mX3_roomDegrees) 1 = .ok (.getfield 40, 3) := by decide +kernel
theorem qX3_roomDegrees_4 : decode (mB mX3_roomDegrees) 4 = .ok (.getfield 110, 3) := by decide +kernel
theorem qX3_roomDegrees_7 : decode (mB mX3_roomDegrees) 7 = .ok (.ireturn, 1) := by decide +kernel
theorem qX3_scaleAt_0 : decode (mB mX3_scaleAt) 0 = .ok (.aload_n 0, 1) := by decide +kernel
theorem qX3_scaleAt_1 : decode (mB mX3_scaleAt) 1 = .ok (.iload_n 1, 1) := by decide +kernel
theorem qX3_scaleAt_2 : decode (mB mX3_scaleAt) 2 = .ok (.invokevirtual 141, 3) := by decide +kernel
theorem qX3_scaleAt_5 : decode (mB mX3_scaleAt) 5 = .ok (.astore_n 3, 1) := by decide +kernel
theorem qX3_scaleAt_6 : decode (mB mX3_scaleAt) 6 = .ok (.iload_n 2, 1) := by decide +kernel
theorem qX3_scaleAt_7 : decode (mB mX3_scaleAt) 7 = .ok (.iconst 0, 1) := by decide +kernel
theorem qX3_scaleAt_8 : decode (mB mX3_scaleAt) 8 = .ok (.sipush 999, 3) := by decide +kernel
theorem qX3_scaleAt_11 : decode (mB mX3_scaleAt) 11 = .ok (.invokestatic 164, 3) := by decide +kernel
theorem qX3_scaleAt_14 : decode (mB mX3_scaleAt) 14 = .ok (.aload_n 3, 1) := by decide +kernel
theorem qX3_scaleAt_15 : decode (mB mX3_scaleAt) 15 = .ok (.invokestatic 196, 3) := by decide +kernel
theorem qX3_scaleAt_18 : decode (mB mX3_scaleAt) 18 = .ok (.aload_n 3, 1) := by decide +kernel
theorem qX3_scaleAt_19 : decode (mB mX3_scaleAt) 19 = .ok (.iload_n 2, 1) := by decide +kernel
theorem qX3_scaleAt_20 : decode (mB mX3_scaleAt) 20 = .ok (.invokevirtual 203, 3) := by decide +kernel
theorem qX3_scaleAt_23 : decode (mB mX3_scaleAt) 23 = .ok (.ireturn, 1) := by decide +kernel
theorem qX3_sensitivity_0 : decode (mB mX3_sensitivity) 0 = .ok (.aload_n 0, 1) := by decide +kernel
theorem qX3_sensitivity_1 : decode (mB mX3_sensitivity) 1 = .ok (.iload_n 1, 1) := by decide +kernel
theorem qX3_sensitivity_2 : decode (mB mX3_sensitivity) 2 = .ok (.invokevirtual 141, 3) := by decide +kernel
theorem qX3_sensitivity_5 : decode (mB mX3_sensitivity) 5 = .ok (.astore_n 2, 1) := by decide +kernel
theorem qX3_sensitivity_6 : decode (mB mX3_sensitivity) 6 = .ok (.aload_n 2, 1) := by decide +kernel
theorem qX3_sensitivity_7 : decode (mB mX3_sensitivity) 7 = .ok (.aload_n 2, 1) := by decide +kernel
theorem qX3_sensitivity_8 : decode (mB mX3_sensitivity) 8 = .ok (.getfield 145, 3) := by decide +kernel
theorem qX3_sensitivity_11 : decode (mB mX3_sensitivity) 11 = .ok (.bipush 10, 2) := by decide +kernel
theorem qX3_sensitivity_13 : decode (mB mX3_sensitivity) 13 = .ok (.iadd, 1) := by decide +kernel
theorem qX3_sensitivity_14 : decode (mB mX3_sensitivity) 14 = .ok (.invokevirtual 168, 3) := by decide +kernel
theorem qX3_sensitivity_17 : decode (mB mX3_sensitivity) 17 = .ok (.aload_n 2, 1) := by decide +kernel
theorem qX3_sensitivity_18 : decode (mB mX3_sensitivity) 18 = .ok (.aload_n 2, 1) := by decide +kernel
theorem qX3_sensitivity_19 : decode (mB mX3_sensitivity) 19 = .ok (.getfield 145, 3) := by decide +kernel
theorem qX3_sensitivity_22 : decode (mB mX3_sensitivity) 22 = .ok (.invokevirtual 168, 3) := by decide +kernel
theorem qX3_sensitivity_25 : decode (mB mX3_sensitivity) 25 = .ok (.isub, 1) := by decide +kernel
theorem qX3_sensitivity_26 : decode (mB mX3_sensitivity) 26 = .ok (.ireturn, 1) := by decide +kernel
theorem qX3_setLeaky_0 : decode (mB mX3_setLeaky) 0 = .ok (.aload_n 0, 1) := by decide +kernel
theorem qX3_setLeaky_1 : decode (mB mX3_setLeaky) 1 = .ok (.iload_n 1, 1) := by decide +kernel
theorem qX3_setLeaky_2 : decode (mB mX3_setLeaky) 2 = .ok (.invokevirtual 141, 3) := by decide +kernel
theorem qX3_setLeaky_5 : decode (mB mX3_setLeaky) 5 = .ok (.astore_n 3, 1) := by decide +kernel
theorem qX3_setLeaky_6 : decode (mB mX3_setLeaky) 6 = .ok (.aload_n 0, 1) := by decide +kernel
theorem qX3_setLeaky_7 : decode (mB mX3_setLeaky) 7 = .ok (.invokevirtual 101, 3) := by decide +kernel
theorem qX3_setLeaky_10 : decode (mB mX3_setLeaky) 10 = .ok (.aload_n 3, 1) := by decide +kernel
theorem qX3_setLeaky_11 : decode (mB mX3_setLeaky) 11 = .ok (.getfield 156, 3) := by decide +kernel
theorem qX3_setLeaky_14 : decode (mB mX3_setLeaky) 14 = .ok (.istore 4, 2) := by decide +kernel
theorem qX3_setLeaky_16 : decode (mB mX3_setLeaky) 16 = .ok (.aload_n 3, 1) := by decide +kernel
theorem qX3_setLeaky_17 : decode (mB mX3_setLeaky) 17 = .ok (.iload_n 2, 1) := by decide +kernel
theorem qX3_setLeaky_18 : decode (mB mX3_setLeaky) 18 = .ok (.putfield 156, 3) := by decide +kernel
theorem qX3_setLeaky_21 : decode (mB mX3_setLeaky) 21 = .ok (.iload 4, 2) := by decide +kernel
theorem qX3_setLeaky_23 : decode (mB mX3_setLeaky) 23 = .ok (.ireturn, 1) := by decide +kernel
theorem qX3_setRoom_0 : decode (mB mX3_setRoom) 0 = .ok (.iload_n 1, 1) := by decide +kernel
theorem qX3_setRoom_1 : decode (mB mX3_setRoom) 1 = .ok (.bipush (-20), 2) := by decide +kernel
theorem qX3_setRoom_3 : decode (mB mX3_setRoom) 3 = .ok (.sipush 150, 3) := by decide +kernel
theorem qX3_setRoom_6 : decode (mB mX3_setRoom) 6 = .ok (.invokestatic 164, 3) := by decide +kernel
theorem qX3_setRoom_9 : decode (mB mX3_setRoom) 9 = .ok (.aload_n 0, 1) := by decide +kernel
theorem qX3_setRoom_10 : decode (mB mX3_setRoom) 10 = .ok (.invokevirtual 101, 3) := by decide +kernel
theorem qX3_setRoom_13 : decode (mB mX3_setRoom) 13 = .ok (.aload_n 0, 1) := by decide +kernel
theorem qX3_setRoom_14 : decode (mB mX3_setRoom) 14 = .ok (.getfield 40, 3) := by decide +kernel
theorem qX3_setRoom_17 : decode (mB mX3_setRoom) 17 = .ok (.getfield 110, 3) := by decide +kernel
theorem qX3_setRoom_20 : decode (mB mX3_setRoom) 20 = .ok (.istore_n 2, 1) := by decide +kernel
theorem qX3_setRoom_21 : decode (mB mX3_setRoom) 21 = .ok (.aload_n 0, 1) := by decide +kernel
theorem qX3_setRoom_22 : decode (mB mX3_setRoom) 22 = .ok (.getfield 40, 3) := by decide +kernel
theorem qX3_setRoom_25 : decode (mB mX3_setRoom) 25 = .ok (.iload_n 1, 1) := by decide +kernel
theorem qX3_setRoom_26 : decode (mB mX3_setRoom) 26 = .ok (.putfield 110, 3) := by decide +kernel
theorem qX3_setRoom_29 : decode (mB mX3_setRoom) 29 = .ok (.iload_n 2, 1) := by decide +kernel
theorem qX3_setRoom_30 : decode (mB mX3_setRoom) 30 = .ok (.ireturn, 1) := by decide +kernel
theorem qX3_settledShare_0 : decode (mB mX3_settledShare) 0 = .ok (.aload_n 0, 1) := by decide +kernel
theorem qX3_settledShare_1 : decode (mB mX3_settledShare) 1 = .ok (.getfield 40, 3) := by decide +kernel
theorem qX3_settledShare_4 : decode (mB mX3_settledShare) 4 = .ok (.getfield 104, 3) := by decide +kernel
theorem qX3_settledShare_7 : decode (mB mX3_settledShare) 7 = .ok (.ifCond .ne 5, 3) := by decide +kernel
theorem qX3_settledShare_10 : decode (mB mX3_settledShare) 10 = .ok (.fconst 0, 1) := by decide +kernel
theorem qX3_settledShare_11 : decode (mB mX3_settledShare) 11 = .ok (.freturn, 1) := by decide +kernel
theorem qX3_settledShare_12 : decode (mB mX3_settledShare) 12 = .ok (.iconst 0, 1) := by decide +kernel
theorem qX3_settledShare_13 : decode (mB mX3_settledShare) 13 = .ok (.istore_n 1, 1) := by decide +kernel
theorem qX3_settledShare_14 : decode (mB mX3_settledShare) 14 = .ok (.iconst 0, 1) := by decide +kernel
theorem qX3_settledShare_15 : decode (mB mX3_settledShare) 15 = .ok (.istore_n 2, 1) := by decide +kernel
theorem qX3_settledShare_16 : decode (mB mX3_settledShare) 16 = .ok (.iload_n 2, 1) := by decide +kernel
theorem qX3_settledShare_17 : decode (mB mX3_settledShare) 17 = .ok (.aload_n 0, 1) := by decide +kernel
theorem qX3_settledShare_18 : decode (mB mX3_settledShare) 18 = .ok (.getfield 40, 3) := by decide +kernel
theorem qX3_settledShare_21 : decode (mB mX3_settledShare) 21 = .ok (.getfield 104, 3) := by decide +kernel
theorem qX3_settledShare_24 : decode (mB mX3_settledShare) 24 = .ok (.if_icmp .ge 31, 3) := by decide +kernel
theorem qX3_settledShare_27 : decode (mB mX3_settledShare) 27 = .ok (.aload_n 0, 1) := by decide +kernel
theorem qX3_settledShare_28 : decode (mB mX3_settledShare) 28 = .ok (.getfield 40, 3) := by decide +kernel
theorem qX3_settledShare_31 : decode (mB mX3_settledShare) 31 = .ok (.aload_n 0, 1) := by decide +kernel
theorem qX3_settledShare_32 : decode (mB mX3_settledShare) 32 = .ok (.getfield 40, 3) := by decide +kernel
theorem qX3_settledShare_35 : decode (mB mX3_settledShare) 35 = .ok (.getfield 120, 3) := by decide +kernel
theorem qX3_settledShare_38 : decode (mB mX3_settledShare) 38 = .ok (.iload_n 2, 1) := by decide +kernel
theorem qX3_settledShare_39 : decode (mB mX3_settledShare) 39 = .ok (.aaload, 1) := by decide +kernel
theorem qX3_settledShare_40 : decode (mB mX3_settledShare) 40 = .ok (.invokevirtual 152, 3) := by decide +kernel
theorem qX3_settledShare_43 : decode (mB mX3_settledShare) 43 = .ok (.ifCond .eq 6, 3) := by decide +kernel
theorem qX3_settledShare_46 : decode (mB mX3_settledShare) 46 = .ok (.iinc 1 1, 3) := by decide +kernel
theorem qX3_settledShare_49 : decode (mB mX3_settledShare) 49 = .ok (.iinc 2 1, 3) := by decide +kernel
theorem qX3_settledShare_52 : decode (mB mX3_settledShare) 52 = .ok (.goto (-36), 3) := by decide +kernel
theorem qX3_settledShare_55 : decode (mB mX3_settledShare) 55 = .ok (.iload_n 1, 1) := by decide +kernel
theorem qX3_settledShare_56 : decode (mB mX3_settledShare) 56 = .ok (.i2f, 1) := by decide +kernel
theorem qX3_settledShare_57 : decode (mB mX3_settledShare) 57 = .ok (.aload_n 0, 1) := by decide +kernel
theorem qX3_settledShare_58 : decode (mB mX3_settledShare) 58 = .ok (.getfield 40, 3) := by decide +kernel
theorem qX3_settledShare_61 : decode (mB mX3_settledShare) 61 = .ok (.getfield 104, 3) := by decide +kernel
theorem qX3_settledShare_64 : decode (mB mX3_settledShare) 64 = .ok (.i2f, 1) := by decide +kernel
theorem qX3_settledShare_65 : decode (mB mX3_settledShare) 65 = .ok (.fdiv, 1) := by decide +kernel
theorem qX3_settledShare_66 : decode (mB mX3_settledShare) 66 = .ok (.freturn, 1) := by decide +kernel
theorem qX3_spiritDifference_0 : decode (mB mX3_spiritDifference) 0 = .ok (.iconst 0, 1) := by decide +kernel
theorem qX3_spiritDifference_1 : decode (mB mX3_spiritDifference) 1 = .ok (.istore_n 1, 1) := by decide +kernel
theorem qX3_spiritDifference_2 : decode (mB mX3_spiritDifference) 2 = .ok (.iconst 0, 1) := by decide +kernel
theorem qX3_spiritDifference_3 : decode (mB mX3_spiritDifference) 3 = .ok (.istore_n 2, 1) := by decide +kernel
theorem qX3_spiritDifference_4 : decode (mB mX3_spiritDifference) 4 = .ok (.iload_n 2, 1) := by decide +kernel
theorem qX3_spiritDifference_5 : decode (mB mX3_spiritDifference) 5 = .ok (.aload_n 0, 1) := by decide +kernel
theorem qX3_spiritDifference_6 : decode (mB mX3_spiritDifference) 6 = .ok (.getfield 40, 3) := by decide +kernel
theorem qX3_spiritDifference_9 : decode (mB mX3_spiritDifference) 9 = .ok (.getfield 104, 3) := by decide +kernel
theorem qX3_spiritDifference_12 : decode (mB mX3_spiritDifference) 12 = .ok (.if_icmp .ge 36, 3) := by decide +kernel
theorem qX3_spiritDifference_15 : decode (mB mX3_spiritDifference) 15 = .ok (.aload_n 0, 1) := by decide +kernel
theorem qX3_spiritDifference_16 : decode (mB mX3_spiritDifference) 16 = .ok (.getfield 40, 3) := by decide +kernel
theorem qX3_spiritDifference_19 : decode (mB mX3_spiritDifference) 19 = .ok (.getfield 120, 3) := by decide +kernel
theorem qX3_spiritDifference_22 : decode (mB mX3_spiritDifference) 22 = .ok (.iload_n 2, 1) := by decide +kernel
theorem qX3_spiritDifference_23 : decode (mB mX3_spiritDifference) 23 = .ok (.aaload, 1) := by decide +kernel
theorem qX3_spiritDifference_24 : decode (mB mX3_spiritDifference) 24 = .ok (.astore_n 3, 1) := by decide +kernel
theorem qX3_spiritDifference_25 : decode (mB mX3_spiritDifference) 25 = .ok (.iload_n 1, 1) := by decide +kernel
theorem qX3_spiritDifference_26 : decode (mB mX3_spiritDifference) 26 = .ok (.aload_n 3, 1) := by decide +kernel
theorem qX3_spiritDifference_27 : decode (mB mX3_spiritDifference) 27 = .ok (.getfield 244, 3) := by decide +kernel
theorem qX3_spiritDifference_30 : decode (mB mX3_spiritDifference) 30 = .ok (.aload_n 3, 1) := by decide +kernel
theorem qX3_spiritDifference_31 : decode (mB mX3_spiritDifference) 31 = .ok (.getfield 135, 3) := by decide +kernel
theorem qX3_spiritDifference_34 : decode (mB mX3_spiritDifference) 34 = .ok (.isub, 1) := by decide +kernel
theorem qX3_spiritDifference_35 : decode (mB mX3_spiritDifference) 35 = .ok (.aload_n 3, 1) := by decide +kernel
theorem qX3_spiritDifference_36 : decode (mB mX3_spiritDifference) 36 = .ok (.getfield 138, 3) := by decide +kernel
theorem qX3_spiritDifference_39 : decode (mB mX3_spiritDifference) 39 = .ok (.isub, 1) := by decide +kernel
theorem qX3_spiritDifference_40 : decode (mB mX3_spiritDifference) 40 = .ok (.iadd, 1) := by decide +kernel
theorem qX3_spiritDifference_41 : decode (mB mX3_spiritDifference) 41 = .ok (.istore_n 1, 1) := by decide +kernel
theorem qX3_spiritDifference_42 : decode (mB mX3_spiritDifference) 42 = .ok (.iinc 2 1, 3) := by decide +kernel
theorem qX3_spiritDifference_45 : decode (mB mX3_spiritDifference) 45 = .ok (.goto (-41), 3) := by decide +kernel
theorem qX3_spiritDifference_48 : decode (mB mX3_spiritDifference) 48 = .ok (.iload_n 1, 1) := by decide +kernel
theorem qX3_spiritDifference_49 : decode (mB mX3_spiritDifference) 49 = .ok (.ireturn, 1) := by decide +kernel
theorem qX3_spiritInTubes_0 : decode (mB mX3_spiritInTubes) 0 = .ok (.aload_n 0, 1) := by decide +kernel
theorem qX3_spiritInTubes_1 : decode (mB mX3_spiritInTubes) 1 = .ok (.iload_n 1, 1) := by decide +kernel
theorem qX3_spiritInTubes_2 : decode (mB mX3_spiritInTubes) 2 = .ok (.invokevirtual 129, 3) := by decide +kernel
theorem qX3_spiritInTubes_5 : decode (mB mX3_spiritInTubes) 5 = .ok (.iconst 0, 1) := by decide +kernel
theorem qX3_spiritInTubes_6 : decode (mB mX3_spiritInTubes) 6 = .ok (.istore_n 2, 1) := by decide +kernel
theorem qX3_spiritInTubes_7 : decode (mB mX3_spiritInTubes) 7 = .ok (.iconst 0, 1) := by decide +kernel
theorem qX3_spiritInTubes_8 : decode (mB mX3_spiritInTubes) 8 = .ok (.istore_n 3, 1) := by decide +kernel
theorem qX3_spiritInTubes_9 : decode (mB mX3_spiritInTubes) 9 = .ok (.iload_n 3, 1) := by decide +kernel
theorem qX3_spiritInTubes_10 : decode (mB mX3_spiritInTubes) 10 = .ok (.aload_n 0, 1) := by decide +kernel
theorem qX3_spiritInTubes_11 : decode (mB mX3_spiritInTubes) 11 = .ok (.getfield 40, 3) := by decide +kernel
theorem qX3_spiritInTubes_14 : decode (mB mX3_spiritInTubes) 14 = .ok (.getfield 104, 3) := by decide +kernel
theorem qX3_spiritInTubes_17 : decode (mB mX3_spiritInTubes) 17 = .ok (.if_icmp .ge 40, 3) := by decide +kernel
theorem qX3_spiritInTubes_20 : decode (mB mX3_spiritInTubes) 20 = .ok (.aload_n 0, 1) := by decide +kernel
theorem qX3_spiritInTubes_21 : decode (mB mX3_spiritInTubes) 21 = .ok (.getfield 40, 3) := by decide +kernel
theorem qX3_spiritInTubes_24 : decode (mB mX3_spiritInTubes) 24 = .ok (.getfield 120, 3) := by decide +kernel
theorem qX3_spiritInTubes_27 : decode (mB mX3_spiritInTubes) 27 = .ok (.iload_n 3, 1) := by decide +kernel
theorem qX3_spiritInTubes_28 : decode (mB mX3_spiritInTubes) 28 = .ok (.aaload, 1) := by decide +kernel
theorem qX3_spiritInTubes_29 : decode (mB mX3_spiritInTubes) 29 = .ok (.getfield 132, 3) := by decide +kernel
theorem qX3_spiritInTubes_32 : decode (mB mX3_spiritInTubes) 32 = .ok (.iload_n 1, 1) := by decide +kernel
theorem qX3_spiritInTubes_33 : decode (mB mX3_spiritInTubes) 33 = .ok (.if_icmp .ne 18, 3) := by decide +kernel
theorem qX3_spiritInTubes_36 : decode (mB mX3_spiritInTubes) 36 = .ok (.iload_n 2, 1) := by decide +kernel
theorem qX3_spiritInTubes_37 : decode (mB mX3_spiritInTubes) 37 = .ok (.aload_n 0, 1) := by decide +kernel
theorem qX3_spiritInTubes_38 : decode (mB mX3_spiritInTubes) 38 = .ok (.getfield 40, 3) := by decide +kernel
theorem qX3_spiritInTubes_41 : decode (mB mX3_spiritInTubes) 41 = .ok (.getfield 120, 3) := by decide +kernel
theorem qX3_spiritInTubes_44 : decode (mB mX3_spiritInTubes) 44 = .ok (.iload_n 3, 1) := by decide +kernel
theorem qX3_spiritInTubes_45 : decode (mB mX3_spiritInTubes) 45 = .ok (.aaload, 1) := by decide +kernel
theorem qX3_spiritInTubes_46 : decode (mB mX3_spiritInTubes) 46 = .ok (.getfield 135, 3) := by decide +kernel
theorem qX3_spiritInTubes_49 : decode (mB mX3_spiritInTubes) 49 = .ok (.iadd, 1) := by decide +kernel
theorem qX3_spiritInTubes_50 : decode (mB mX3_spiritInTubes) 50 = .ok (.istore_n 2, 1) := by decide +kernel
theorem qX3_spiritInTubes_51 : decode (mB mX3_spiritInTubes) 51 = .ok (.iinc 3 1, 3) := by decide +kernel
theorem qX3_spiritInTubes_54 : decode (mB mX3_spiritInTubes) 54 = .ok (.goto (-45), 3) := by decide +kernel
theorem qX3_spiritInTubes_57 : decode (mB mX3_spiritInTubes) 57 = .ok (.iload_n 2, 1) := by decide +kernel
theorem qX3_spiritInTubes_58 : decode (mB mX3_spiritInTubes) 58 = .ok (.ireturn, 1) := by decide +kernel
theorem qX3_spiritLost_0 : decode (mB mX3_spiritLost) 0 = .ok (.aload_n 0, 1) := by decide +kernel
theorem qX3_spiritLost_1 : decode (mB mX3_spiritLost) 1 = .ok (.iload_n 1, 1) := by decide +kernel
theorem qX3_spiritLost_2 : decode (mB mX3_spiritLost) 2 = .ok (.invokevirtual 129, 3) := by decide +kernel
theorem qX3_spiritLost_5 : decode (mB mX3_spiritLost) 5 = .ok (.iconst 0, 1) := by decide +kernel
theorem qX3_spiritLost_6 : decode (mB mX3_spiritLost) 6 = .ok (.istore_n 2, 1) := by decide +kernel
theorem qX3_spiritLost_7 : decode (mB mX3_spiritLost) 7 = .ok (.iconst 0, 1) := by decide +kernel
theorem qX3_spiritLost_8 : decode (mB mX3_spiritLost) 8 = .ok (.istore_n 3, 1) := by decide +kernel
theorem qX3_spiritLost_9 : decode (mB mX3_spiritLost) 9 = .ok (.iload_n 3, 1) := by decide +kernel
theorem qX3_spiritLost_10 : decode (mB mX3_spiritLost) 10 = .ok (.aload_n 0, 1) := by decide +kernel
theorem qX3_spiritLost_11 : decode (mB mX3_spiritLost) 11 = .ok (.getfield 40, 3) := by decide +kernel
theorem qX3_spiritLost_14 : decode (mB mX3_spiritLost) 14 = .ok (.getfield 104, 3) := by decide +kernel
theorem qX3_spiritLost_17 : decode (mB mX3_spiritLost) 17 = .ok (.if_icmp .ge 40, 3) := by decide +kernel
theorem qX3_spiritLost_20 : decode (mB mX3_spiritLost) 20 = .ok (.aload_n 0, 1) := by decide +kernel
theorem qX3_spiritLost_21 : decode (mB mX3_spiritLost) 21 = .ok (.getfield 40, 3) := by decide +kernel
theorem qX3_spiritLost_24 : decode (mB mX3_spiritLost) 24 = .ok (.getfield 120, 3) := by decide +kernel
theorem qX3_spiritLost_27 : decode (mB mX3_spiritLost) 27 = .ok (.iload_n 3, 1) := by decide +kernel
theorem qX3_spiritLost_28 : decode (mB mX3_spiritLost) 28 = .ok (.aaload, 1) := by decide +kernel
theorem qX3_spiritLost_29 : decode (mB mX3_spiritLost) 29 = .ok (.getfield 132, 3) := by decide +kernel
theorem qX3_spiritLost_32 : decode (mB mX3_spiritLost) 32 = .ok (.iload_n 1, 1) := by decide +kernel
theorem qX3_spiritLost_33 : decode (mB mX3_spiritLost) 33 = .ok (.if_icmp .ne 18, 3) := by decide +kernel
theorem qX3_spiritLost_36 : decode (mB mX3_spiritLost) 36 = .ok (.iload_n 2, 1) := by decide +kernel
theorem qX3_spiritLost_37 : decode (mB mX3_spiritLost) 37 = .ok (.aload_n 0, 1) := by decide +kernel
theorem qX3_spiritLost_38 : decode (mB mX3_spiritLost) 38 = .ok (.getfield 40, 3) := by decide +kernel
theorem qX3_spiritLost_41 : decode (mB mX3_spiritLost) 41 = .ok (.getfield 120, 3) := by decide +kernel
theorem qX3_spiritLost_44 : decode (mB mX3_spiritLost) 44 = .ok (.iload_n 3, 1) := by decide +kernel
theorem qX3_spiritLost_45 : decode (mB mX3_spiritLost) 45 = .ok (.aaload, 1) := by decide +kernel
theorem qX3_spiritLost_46 : decode (mB mX3_spiritLost) 46 = .ok (.getfield 138, 3) := by decide +kernel
theorem qX3_spiritLost_49 : decode (mB mX3_spiritLost) 49 = .ok (.iadd, 1) := by decide +kernel
theorem qX3_spiritLost_50 : decode (mB mX3_spiritLost) 50 = .ok (.istore_n 2, 1) := by decide +kernel
theorem qX3_spiritLost_51 : decode (mB mX3_spiritLost) 51 = .ok (.iinc 3 1, 3) := by decide +kernel
theorem qX3_spiritLost_54 : decode (mB mX3_spiritLost) 54 = .ok (.goto (-45), 3) := by decide +kernel
theorem qX3_spiritLost_57 : decode (mB mX3_spiritLost) 57 = .ok (.iload_n 2, 1) := by decide +kernel
theorem qX3_spiritLost_58 : decode (mB mX3_spiritLost) 58 = .ok (.ireturn, 1) := by decide +kernel
theorem qX3_spiritOf_0 : decode (mB mX3_spiritOf) 0 = .ok (.aload_n 0, 1) := by decide +kernel
theorem qX3_spiritOf_1 : decode (mB mX3_spiritOf) 1 = .ok (.iload_n 1, 1) := by decide +kernel
theorem qX3_spiritOf_2 : decode (mB mX3_spiritOf) 2 = .ok (.invokevirtual 141, 3) := by decide +kernel
theorem qX3_spiritOf_5 : decode (mB mX3_spiritOf) 5 = .ok (.getfield 132, 3) := by decide +kernel
theorem qX3_spiritOf_8 : decode (mB mX3_spiritOf) 8 = .ok (.ireturn, 1) := by decide +kernel
theorem qX3_spread_0 : decode (mB mX3_spread) 0 = .ok (.iconst 0, 1) := by decide +kernel
theorem qX3_spread_1 : decode (mB mX3_spread) 1 = .ok (.istore_n 1, 1) := by decide +kernel
theorem qX3_spread_2 : decode (mB mX3_spread) 2 = .ok (.iconst 0, 1) := by decide +kernel
theorem qX3_spread_3 : decode (mB mX3_spread) 3 = .ok (.istore_n 2, 1) := by decide +kernel
theorem qX3_spread_4 : decode (mB mX3_spread) 4 = .ok (.iconst 0, 1) := by decide +kernel
theorem qX3_spread_5 : decode (mB mX3_spread) 5 = .ok (.istore_n 3, 1) := by decide +kernel
theorem qX3_spread_6 : decode (mB mX3_spread) 6 = .ok (.iconst 0, 1) := by decide +kernel
theorem qX3_spread_7 : decode (mB mX3_spread) 7 = .ok (.istore 4, 2) := by decide +kernel
theorem qX3_spread_9 : decode (mB mX3_spread) 9 = .ok (.iload 4, 2) := by decide +kernel
theorem qX3_spread_11 : decode (mB mX3_spread) 11 = .ok (.aload_n 0, 1) := by decide +kernel
theorem qX3_spread_12 : decode (mB mX3_spread) 12 = .ok (.getfield 40, 3) := by decide +kernel
theorem qX3_spread_15 : decode (mB mX3_spread) 15 = .ok (.getfield 104, 3) := by decide +kernel
theorem qX3_spread_18 : decode (mB mX3_spread) 18 = .ok (.if_icmp .ge 70, 3) := by decide +kernel
theorem qX3_spread_21 : decode (mB mX3_spread) 21 = .ok (.aload_n 0, 1) := by decide +kernel
theorem qX3_spread_22 : decode (mB mX3_spread) 22 = .ok (.getfield 40, 3) := by decide +kernel
theorem qX3_spread_25 : decode (mB mX3_spread) 25 = .ok (.getfield 120, 3) := by decide +kernel
theorem qX3_spread_28 : decode (mB mX3_spread) 28 = .ok (.iload 4, 2) := by decide +kernel
theorem qX3_spread_30 : decode (mB mX3_spread) 30 = .ok (.aaload, 1) := by decide +kernel
theorem qX3_spread_31 : decode (mB mX3_spread) 31 = .ok (.astore 5, 2) := by decide +kernel
theorem qX3_spread_33 : decode (mB mX3_spread) 33 = .ok (.aload 5, 2) := by decide +kernel
theorem qX3_spread_35 : decode (mB mX3_spread) 35 = .ok (.invokevirtual 192, 3) := by decide +kernel
theorem qX3_spread_38 : decode (mB mX3_spread) 38 = .ok (.ifCond .eq 44, 3) := by decide +kernel
theorem qX3_spread_41 : decode (mB mX3_spread) 41 = .ok (.aload 5, 2) := by decide +kernel
theorem qX3_spread_43 : decode (mB mX3_spread) 43 = .ok (.invokevirtual 200, 3) := by decide +kernel
theorem qX3_spread_46 : decode (mB mX3_spread) 46 = .ok (.istore 6, 2) := by decide +kernel
theorem qX3_spread_48 : decode (mB mX3_spread) 48 = .ok (.iload_n 1, 1) := by decide +kernel
theorem qX3_spread_49 : decode (mB mX3_spread) 49 = .ok (.ifCond .eq 12, 3) := by decide +kernel
theorem qX3_spread_52 : decode (mB mX3_spread) 52 = .ok (.iload_n 2, 1) := by decide +kernel
theorem qX3_spread_53 : decode (mB mX3_spread) 53 = .ok (.iload 6, 2) := by decide +kernel
theorem qX3_spread_55 : decode (mB mX3_spread) 55 = .ok (.invokestatic 221, 3) := by decide +kernel
theorem qX3_spread_58 : decode (mB mX3_spread) 58 = .ok (.goto 5, 3) := by decide +kernel
theorem qX3_spread_61 : decode (mB mX3_spread) 61 = .ok (.iload 6, 2) := by decide +kernel
theorem qX3_spread_63 : decode (mB mX3_spread) 63 = .ok (.istore_n 2, 1) := by decide +kernel
theorem qX3_spread_64 : decode (mB mX3_spread) 64 = .ok (.iload_n 1, 1) := by decide +kernel
theorem qX3_spread_65 : decode (mB mX3_spread) 65 = .ok (.ifCond .eq 12, 3) := by decide +kernel
theorem qX3_spread_68 : decode (mB mX3_spread) 68 = .ok (.iload_n 3, 1) := by decide +kernel
theorem qX3_spread_69 : decode (mB mX3_spread) 69 = .ok (.iload 6, 2) := by decide +kernel
theorem qX3_spread_71 : decode (mB mX3_spread) 71 = .ok (.invokestatic 225, 3) := by decide +kernel
theorem qX3_spread_74 : decode (mB mX3_spread) 74 = .ok (.goto 5, 3) := by decide +kernel
theorem qX3_spread_77 : decode (mB mX3_spread) 77 = .ok (.iload 6, 2) := by decide +kernel
theorem qX3_spread_79 : decode (mB mX3_spread) 79 = .ok (.istore_n 3, 1) := by decide +kernel
theorem qX3_spread_80 : decode (mB mX3_spread) 80 = .ok (.iconst 1, 1) := by decide +kernel
theorem qX3_spread_81 : decode (mB mX3_spread) 81 = .ok (.istore_n 1, 1) := by decide +kernel
theorem qX3_spread_82 : decode (mB mX3_spread) 82 = .ok (.iinc 4 1, 3) := by decide +kernel
theorem qX3_spread_85 : decode (mB mX3_spread) 85 = .ok (.goto (-76), 3) := by decide +kernel
theorem qX3_spread_88 : decode (mB mX3_spread) 88 = .ok (.iload_n 3, 1) := by decide +kernel
theorem qX3_spread_89 : decode (mB mX3_spread) 89 = .ok (.iload_n 2, 1) := by decide +kernel
theorem qX3_spread_90 : decode (mB mX3_spread) 90 = .ok (.isub, 1) := by decide +kernel
theorem qX3_spread_91 : decode (mB mX3_spread) 91 = .ok (.ireturn, 1) := by decide +kernel
theorem qX3_surroundingsOf_0 : decode (mB mX3_surroundingsOf) 0 = .ok (.aload_n 0, 1) := by decide +kernel
theorem qX3_surroundingsOf_1 : decode (mB mX3_surroundingsOf) 1 = .ok (.getfield 40, 3) := by decide +kernel
theorem qX3_surroundingsOf_4 : decode (mB mX3_surroundingsOf) 4 = .ok (.aload_n 0, 1) := by decide +kernel
theorem qX3_surroundingsOf_5 : decode (mB mX3_surroundingsOf) 5 = .ok (.iload_n 1, 1) := by decide +kernel
theorem qX3_surroundingsOf_6 : decode (mB mX3_surroundingsOf) 6 = .ok (.invokevirtual 141, 3) := by decide +kernel
theorem qX3_surroundingsOf_9 : decode (mB mX3_surroundingsOf) 9 = .ok (.invokevirtual 148, 3) := by decide +kernel
theorem qX3_surroundingsOf_12 : decode (mB mX3_surroundingsOf) 12 = .ok (.ireturn, 1) := by decide +kernel
theorem qX3_tallestTube_0 : decode (mB mX3_tallestTube) 0 = .ok (.iconst (-1), 1) := by decide +kernel
theorem qX3_tallestTube_1 : decode (mB mX3_tallestTube) 1 = .ok (.istore_n 1, 1) := by decide +kernel
theorem qX3_tallestTube_2 : decode (mB mX3_tallestTube) 2 = .ok (.iconst 0, 1) := by decide +kernel
theorem qX3_tallestTube_3 : decode (mB mX3_tallestTube) 3 = .ok (.istore_n 2, 1) := by decide +kernel
theorem qX3_tallestTube_4 : decode (mB mX3_tallestTube) 4 = .ok (.iconst 0, 1) := by decide +kernel
theorem qX3_tallestTube_5 : decode (mB mX3_tallestTube) 5 = .ok (.istore_n 3, 1) := by decide +kernel
theorem qX3_tallestTube_6 : decode (mB mX3_tallestTube) 6 = .ok (.iload_n 3, 1) := by decide +kernel
theorem qX3_tallestTube_7 : decode (mB mX3_tallestTube) 7 = .ok (.aload_n 0, 1) := by decide +kernel
theorem qX3_tallestTube_8 : decode (mB mX3_tallestTube) 8 = .ok (.getfield 40, 3) := by decide +kernel
theorem qX3_tallestTube_11 : decode (mB mX3_tallestTube) 11 = .ok (.getfield 104, 3) := by decide +kernel
theorem qX3_tallestTube_14 : decode (mB mX3_tallestTube) 14 = .ok (.if_icmp .ge 39, 3) := by decide +kernel
theorem qX3_tallestTube_17 : decode (mB mX3_tallestTube) 17 = .ok (.aload_n 0, 1) := by decide +kernel
theorem qX3_tallestTube_18 : decode (mB mX3_tallestTube) 18 = .ok (.getfield 40, 3) := by decide +kernel
theorem qX3_tallestTube_21 : decode (mB mX3_tallestTube) 21 = .ok (.getfield 120, 3) := by decide +kernel
theorem qX3_tallestTube_24 : decode (mB mX3_tallestTube) 24 = .ok (.iload_n 3, 1) := by decide +kernel
theorem qX3_tallestTube_25 : decode (mB mX3_tallestTube) 25 = .ok (.aaload, 1) := by decide +kernel
theorem qX3_tallestTube_26 : decode (mB mX3_tallestTube) 26 = .ok (.invokevirtual 160, 3) := by decide +kernel
theorem qX3_tallestTube_29 : decode (mB mX3_tallestTube) 29 = .ok (.istore 4, 2) := by decide +kernel
theorem qX3_tallestTube_31 : decode (mB mX3_tallestTube) 31 = .ok (.iload_n 1, 1) := by decide +kernel
theorem qX3_tallestTube_32 : decode (mB mX3_tallestTube) 32 = .ok (.iconst (-1), 1) := by decide +kernel
theorem qX3_tallestTube_33 : decode (mB mX3_tallestTube) 33 = .ok (.if_icmp .eq 9, 3) := by decide +kernel
theorem qX3_tallestTube_36 : decode (mB mX3_tallestTube) 36 = .ok (.iload 4, 2) := by decide +kernel
theorem qX3_tallestTube_38 : decode (mB mX3_tallestTube) 38 = .ok (.iload_n 2, 1) := by decide +kernel
theorem qX3_tallestTube_39 : decode (mB mX3_tallestTube) 39 = .ok (.if_icmp .le 8, 3) := by decide +kernel
theorem qX3_tallestTube_42 : decode (mB mX3_tallestTube) 42 = .ok (.iload_n 3, 1) := by decide +kernel
theorem qX3_tallestTube_43 : decode (mB mX3_tallestTube) 43 = .ok (.istore_n 1, 1) := by decide +kernel
theorem qX3_tallestTube_44 : decode (mB mX3_tallestTube) 44 = .ok (.iload 4, 2) := by decide +kernel
theorem qX3_tallestTube_46 : decode (mB mX3_tallestTube) 46 = .ok (.istore_n 2, 1) := by decide +kernel
theorem qX3_tallestTube_47 : decode (mB mX3_tallestTube) 47 = .ok (.iinc 3 1, 3) := by decide +kernel
theorem qX3_tallestTube_50 : decode (mB mX3_tallestTube) 50 = .ok (.goto (-44), 3) := by decide +kernel
theorem qX3_tallestTube_53 : decode (mB mX3_tallestTube) 53 = .ok (.iload_n 1, 1) := by decide +kernel
theorem qX3_tallestTube_54 : decode (mB mX3_tallestTube) 54 = .ok (.ireturn, 1) := by decide +kernel
theorem qX3_temperatureOf_0 : decode (mB mX3_temperatureOf) 0 = .ok (.aload_n 0, 1) := by decide +kernel
theorem qX3_temperatureOf_1 : decode (mB mX3_temperatureOf) 1 = .ok (.iload_n 1, 1) := by decide +kernel
theorem qX3_temperatureOf_2 : decode (mB mX3_temperatureOf) 2 = .ok (.invokevirtual 141, 3) := by decide +kernel
theorem qX3_temperatureOf_5 : decode (mB mX3_temperatureOf) 5 = .ok (.getfield 145, 3) := by decide +kernel
theorem qX3_temperatureOf_8 : decode (mB mX3_temperatureOf) 8 = .ok (.ireturn, 1) := by decide +kernel
theorem qX3_thumbLeft_0 : decode (mB mX3_thumbLeft) 0 = .ok (.aload_n 0, 1) := by decide +kernel
theorem qX3_thumbLeft_1 : decode (mB mX3_thumbLeft) 1 = .ok (.getfield 40, 3) := by decide +kernel
theorem qX3_thumbLeft_4 : decode (mB mX3_thumbLeft) 4 = .ok (.getfield 176, 3) := by decide +kernel
theorem qX3_thumbLeft_7 : decode (mB mX3_thumbLeft) 7 = .ok (.ireturn, 1) := by decide +kernel
theorem qX3_thumbedTube_0 : decode (mB mX3_thumbedTube) 0 = .ok (.aload_n 0, 1) := by decide +kernel
theorem qX3_thumbedTube_1 : decode (mB mX3_thumbedTube) 1 = .ok (.getfield 40, 3) := by decide +kernel
theorem qX3_thumbedTube_4 : decode (mB mX3_thumbedTube) 4 = .ok (.getfield 173, 3) := by decide +kernel
theorem qX3_thumbedTube_7 : decode (mB mX3_thumbedTube) 7 = .ok (.ireturn, 1) := by decide +kernel
theorem qX3_topUp_0 : decode (mB mX3_topUp) 0 = .ok (.aload_n 0, 1) := by decide +kernel
theorem qX3_topUp_1 : decode (mB mX3_topUp) 1 = .ok (.iload_n 1, 1) := by decide +kernel
theorem qX3_topUp_2 : decode (mB mX3_topUp) 2 = .ok (.invokevirtual 141, 3) := by decide +kernel
theorem qX3_topUp_5 : decode (mB mX3_topUp) 5 = .ok (.astore_n 3, 1) := by decide +kernel
theorem qX3_topUp_6 : decode (mB mX3_topUp) 6 = .ok (.iload_n 2, 1) := by decide +kernel
theorem qX3_topUp_7 : decode (mB mX3_topUp) 7 = .ok (.iconst 1, 1) := by decide +kernel
theorem qX3_topUp_8 : decode (mB mX3_topUp) 8 = .ok (.sipush 999, 3) := by decide +kernel
theorem qX3_topUp_11 : decode (mB mX3_topUp) 11 = .ok (.invokestatic 164, 3) := by decide +kernel
theorem qX3_topUp_14 : decode (mB mX3_topUp) 14 = .ok (.aload_n 3, 1) := by decide +kernel
theorem qX3_topUp_15 : decode (mB mX3_topUp) 15 = .ok (.getfield 135, 3) := by decide +kernel
theorem qX3_topUp_18 : decode (mB mX3_topUp) 18 = .ok (.iload_n 2, 1) := by decide +kernel
theorem qX3_topUp_19 : decode (mB mX3_topUp) 19 = .ok (.iadd, 1) := by decide +kernel
theorem qX3_topUp_20 : decode (mB mX3_topUp) 20 = .ok (.sipush 999, 3) := by decide +kernel
theorem qX3_topUp_23 : decode (mB mX3_topUp) 23 = .ok (.if_icmp .le 14, 3) := by decide +kernel
theorem qX3_topUp_26 : decode (mB mX3_topUp) 26 = .ok (.new 80, 3) := by decide +kernel
theorem qX3_topUp_29 : decode (mB mX3_topUp) 29 = .ok (.dup, 1) := by decide +kernel
theorem qX3_topUp_30 : decode (mB mX3_topUp) 30 = .ok (.ldc_w 265, 3) := by decide +kernel
theorem qX3_topUp_33 : decode (mB mX3_topUp) 33 = .ok (.invokespecial 84, 3) := by decide +kernel
theorem qX3_topUp_36 : decode (mB mX3_topUp) 36 = .ok (.athrow, 1) := by decide +kernel
theorem qX3_topUp_37 : decode (mB mX3_topUp) 37 = .ok (.aload_n 0, 1) := by decide +kernel
theorem qX3_topUp_38 : decode (mB mX3_topUp) 38 = .ok (.invokevirtual 101, 3) := by decide +kernel
theorem qX3_topUp_41 : decode (mB mX3_topUp) 41 = .ok (.aload_n 3, 1) := by decide +kernel
theorem qX3_topUp_42 : decode (mB mX3_topUp) 42 = .ok (.iload_n 2, 1) := by decide +kernel
theorem qX3_topUp_43 : decode (mB mX3_topUp) 43 = .ok (.invokevirtual 267, 3) := by decide +kernel
theorem qX3_topUp_46 : decode (mB mX3_topUp) 46 = .ok (.aload_n 3, 1) := by decide +kernel
theorem qX3_topUp_47 : decode (mB mX3_topUp) 47 = .ok (.getfield 135, 3) := by decide +kernel
theorem qX3_topUp_50 : decode (mB mX3_topUp) 50 = .ok (.ireturn, 1) := by decide +kernel
theorem qX3_truncate_0 : decode (mB mX3_truncate) 0 = .ok (.iload_n 1, 1) := by decide +kernel
theorem qX3_truncate_1 : decode (mB mX3_truncate) 1 = .ok (.ifCond .lt 14, 3) := by decide +kernel
theorem qX3_truncate_4 : decode (mB mX3_truncate) 4 = .ok (.iload_n 1, 1) := by decide +kernel
theorem qX3_truncate_5 : decode (mB mX3_truncate) 5 = .ok (.aload_n 0, 1) := by decide +kernel
theorem qX3_truncate_6 : decode (mB mX3_truncate) 6 = .ok (.getfield 36, 3) := by decide +kernel
theorem qX3_truncate_9 : decode (mB mX3_truncate) 9 = .ok (.getfield 32, 3) := by decide +kernel
theorem qX3_truncate_12 : decode (mB mX3_truncate) 12 = .ok (.if_icmp .le 13, 3) := by decide +kernel
theorem qX3_truncate_15 : decode (mB mX3_truncate) 15 = .ok (.new 90, 3) := by decide +kernel
theorem qX3_truncate_18 : decode (mB mX3_truncate) 18 = .ok (.dup, 1) := by decide +kernel
theorem qX3_truncate_19 : decode (mB mX3_truncate) 19 = .ok (.ldc 92, 2) := by decide +kernel
theorem qX3_truncate_21 : decode (mB mX3_truncate) 21 = .ok (.invokespecial 94, 3) := by decide +kernel
theorem qX3_truncate_24 : decode (mB mX3_truncate) 24 = .ok (.athrow, 1) := by decide +kernel
theorem qX3_truncate_25 : decode (mB mX3_truncate) 25 = .ok (.aload_n 0, 1) := by decide +kernel
theorem qX3_truncate_26 : decode (mB mX3_truncate) 26 = .ok (.getfield 36, 3) := by decide +kernel
theorem qX3_truncate_29 : decode (mB mX3_truncate) 29 = .ok (.iload_n 1, 1) := by decide +kernel
theorem qX3_truncate_30 : decode (mB mX3_truncate) 30 = .ok (.putfield 32, 3) := by decide +kernel
theorem qX3_truncate_33 : decode (mB mX3_truncate) 33 = .ok (.iload_n 1, 1) := by decide +kernel
theorem qX3_truncate_34 : decode (mB mX3_truncate) 34 = .ok (.ireturn, 1) := by decide +kernel
theorem qX3_tubesIn_0 : decode (mB mX3_tubesIn) 0 = .ok (.aload_n 0, 1) := by decide +kernel
theorem qX3_tubesIn_1 : decode (mB mX3_tubesIn) 1 = .ok (.iload_n 1, 1) := by decide +kernel
theorem qX3_tubesIn_2 : decode (mB mX3_tubesIn) 2 = .ok (.invokevirtual 113, 3) := by decide +kernel
theorem qX3_tubesIn_5 : decode (mB mX3_tubesIn) 5 = .ok (.iconst 0, 1) := by decide +kernel
theorem qX3_tubesIn_6 : decode (mB mX3_tubesIn) 6 = .ok (.istore_n 2, 1) := by decide +kernel
theorem qX3_tubesIn_7 : decode (mB mX3_tubesIn) 7 = .ok (.iconst 0, 1) := by decide +kernel
theorem qX3_tubesIn_8 : decode (mB mX3_tubesIn) 8 = .ok (.istore_n 3, 1) := by decide +kernel
theorem qX3_tubesIn_9 : decode (mB mX3_tubesIn) 9 = .ok (.iload_n 3, 1) := by decide +kernel
theorem qX3_tubesIn_10 : decode (mB mX3_tubesIn) 10 = .ok (.aload_n 0, 1) := by decide +kernel
theorem qX3_tubesIn_11 : decode (mB mX3_tubesIn) 11 = .ok (.getfield 40, 3) := by decide +kernel
theorem qX3_tubesIn_14 : decode (mB mX3_tubesIn) 14 = .ok (.getfield 104, 3) := by decide +kernel
theorem qX3_tubesIn_17 : decode (mB mX3_tubesIn) 17 = .ok (.if_icmp .ge 28, 3) := by decide +kernel
theorem qX3_tubesIn_20 : decode (mB mX3_tubesIn) 20 = .ok (.aload_n 0, 1) := by decide +kernel
theorem qX3_tubesIn_21 : decode (mB mX3_tubesIn) 21 = .ok (.getfield 40, 3) := by decide +kernel
theorem qX3_tubesIn_24 : decode (mB mX3_tubesIn) 24 = .ok (.getfield 120, 3) := by decide +kernel
theorem qX3_tubesIn_27 : decode (mB mX3_tubesIn) 27 = .ok (.iload_n 3, 1) := by decide +kernel
theorem qX3_tubesIn_28 : decode (mB mX3_tubesIn) 28 = .ok (.aaload, 1) := by decide +kernel
theorem qX3_tubesIn_29 : decode (mB mX3_tubesIn) 29 = .ok (.getfield 124, 3) := by decide +kernel
theorem qX3_tubesIn_32 : decode (mB mX3_tubesIn) 32 = .ok (.iload_n 1, 1) := by decide +kernel
theorem qX3_tubesIn_33 : decode (mB mX3_tubesIn) 33 = .ok (.if_icmp .ne 6, 3) := by decide +kernel
theorem qX3_tubesIn_36 : decode (mB mX3_tubesIn) 36 = .ok (.iinc 2 1, 3) := by decide +kernel
theorem qX3_tubesIn_39 : decode (mB mX3_tubesIn) 39 = .ok (.iinc 3 1, 3) := by decide +kernel
theorem qX3_tubesIn_42 : decode (mB mX3_tubesIn) 42 = .ok (.goto (-33), 3) := by decide +kernel
theorem qX3_tubesIn_45 : decode (mB mX3_tubesIn) 45 = .ok (.iload_n 2, 1) := by decide +kernel
theorem qX3_tubesIn_46 : decode (mB mX3_tubesIn) 46 = .ok (.ireturn, 1) := by decide +kernel
theorem qX3_undo_0 : decode (mB mX3_undo) 0 = .ok (.aload_n 0, 1) := by decide +kernel
theorem qX3_undo_1 : decode (mB mX3_undo) 1 = .ok (.getfield 71, 3) := by decide +kernel
theorem qX3_undo_4 : decode (mB mX3_undo) 4 = .ok (.ifCond .ne 14, 3) := by decide +kernel
theorem qX3_undo_7 : decode (mB mX3_undo) 7 = .ok (.new 80, 3) := by decide +kernel
theorem qX3_undo_10 : decode (mB mX3_undo) 10 = .ok (.dup, 1) := by decide +kernel
theorem qX3_undo_11 : decode (mB mX3_undo) 11 = .ok (.ldc_w 275, 3) := by decide +kernel
theorem qX3_undo_14 : decode (mB mX3_undo) 14 = .ok (.invokespecial 84, 3) := by decide +kernel
theorem qX3_undo_17 : decode (mB mX3_undo) 17 = .ok (.athrow, 1) := by decide +kernel
theorem qX3_undo_18 : decode (mB mX3_undo) 18 = .ok (.aload_n 0, 1) := by decide +kernel
theorem qX3_undo_19 : decode (mB mX3_undo) 19 = .ok (.dup, 1) := by decide +kernel
theorem qX3_undo_20 : decode (mB mX3_undo) 20 = .ok (.getfield 71, 3) := by decide +kernel
theorem qX3_undo_23 : decode (mB mX3_undo) 23 = .ok (.iconst 1, 1) := by decide +kernel
theorem qX3_undo_24 : decode (mB mX3_undo) 24 = .ok (.isub, 1) := by decide +kernel
theorem qX3_undo_25 : decode (mB mX3_undo) 25 = .ok (.putfield 71, 3) := by decide +kernel
theorem qX3_undo_28 : decode (mB mX3_undo) 28 = .ok (.aload_n 0, 1) := by decide +kernel
theorem qX3_undo_29 : decode (mB mX3_undo) 29 = .ok (.aload_n 0, 1) := by decide +kernel
theorem qX3_undo_30 : decode (mB mX3_undo) 30 = .ok (.getfield 68, 3) := by decide +kernel
theorem qX3_undo_33 : decode (mB mX3_undo) 33 = .ok (.ifCond .ne 7, 3) := by decide +kernel
theorem qX3_undo_36 : decode (mB mX3_undo) 36 = .ok (.iconst 5, 1) := by decide +kernel
theorem qX3_undo_37 : decode (mB mX3_undo) 37 = .ok (.goto 9, 3) := by decide +kernel
theorem qX3_undo_40 : decode (mB mX3_undo) 40 = .ok (.aload_n 0, 1) := by decide +kernel
theorem qX3_undo_41 : decode (mB mX3_undo) 41 = .ok (.getfield 68, 3) := by decide +kernel
theorem qX3_undo_44 : decode (mB mX3_undo) 44 = .ok (.iconst 1, 1) := by decide +kernel
theorem qX3_undo_45 : decode (mB mX3_undo) 45 = .ok (.isub, 1) := by decide +kernel
theorem qX3_undo_46 : decode (mB mX3_undo) 46 = .ok (.putfield 68, 3) := by decide +kernel
theorem qX3_undo_49 : decode (mB mX3_undo) 49 = .ok (.aload_n 0, 1) := by decide +kernel
theorem qX3_undo_50 : decode (mB mX3_undo) 50 = .ok (.getfield 40, 3) := by decide +kernel
theorem qX3_undo_53 : decode (mB mX3_undo) 53 = .ok (.aload_n 0, 1) := by decide +kernel
theorem qX3_undo_54 : decode (mB mX3_undo) 54 = .ok (.getfield 50, 3) := by decide +kernel
theorem qX3_undo_57 : decode (mB mX3_undo) 57 = .ok (.aload_n 0, 1) := by decide +kernel
theorem qX3_undo_58 : decode (mB mX3_undo) 58 = .ok (.getfield 68, 3) := by decide +kernel
theorem qX3_undo_61 : decode (mB mX3_undo) 61 = .ok (.aaload, 1) := by decide +kernel
theorem qX3_undo_62 : decode (mB mX3_undo) 62 = .ok (.invokevirtual 28, 3) := by decide +kernel
theorem qX3_undo_65 : decode (mB mX3_undo) 65 = .ok (.aload_n 0, 1) := by decide +kernel
theorem qX3_undo_66 : decode (mB mX3_undo) 66 = .ok (.getfield 71, 3) := by decide +kernel
theorem qX3_undo_69 : decode (mB mX3_undo) 69 = .ok (.ireturn, 1) := by decide +kernel
theorem qX3_worstFit_0 : decode (mB mX3_worstFit) 0 = .ok (.iconst (-1), 1) := by decide +kernel
theorem qX3_worstFit_1 : decode (mB mX3_worstFit) 1 = .ok (.istore_n 1, 1) := by decide +kernel
theorem qX3_worstFit_2 : decode (mB mX3_worstFit) 2 = .ok (.iconst 0, 1) := by decide +kernel
theorem qX3_worstFit_3 : decode (mB mX3_worstFit) 3 = .ok (.istore_n 2, 1) := by decide +kernel
theorem qX3_worstFit_4 : decode (mB mX3_worstFit) 4 = .ok (.iconst 0, 1) := by decide +kernel
theorem qX3_worstFit_5 : decode (mB mX3_worstFit) 5 = .ok (.istore_n 3, 1) := by decide +kernel
theorem qX3_worstFit_6 : decode (mB mX3_worstFit) 6 = .ok (.iload_n 3, 1) := by decide +kernel
theorem qX3_worstFit_7 : decode (mB mX3_worstFit) 7 = .ok (.aload_n 0, 1) := by decide +kernel
theorem qX3_worstFit_8 : decode (mB mX3_worstFit) 8 = .ok (.getfield 40, 3) := by decide +kernel
theorem qX3_worstFit_11 : decode (mB mX3_worstFit) 11 = .ok (.getfield 104, 3) := by decide +kernel
theorem qX3_worstFit_14 : decode (mB mX3_worstFit) 14 = .ok (.if_icmp .ge 51, 3) := by decide +kernel
theorem qX3_worstFit_17 : decode (mB mX3_worstFit) 17 = .ok (.aload_n 0, 1) := by decide +kernel
theorem qX3_worstFit_18 : decode (mB mX3_worstFit) 18 = .ok (.getfield 40, 3) := by decide +kernel
theorem qX3_worstFit_21 : decode (mB mX3_worstFit) 21 = .ok (.getfield 120, 3) := by decide +kernel
theorem qX3_worstFit_24 : decode (mB mX3_worstFit) 24 = .ok (.iload_n 3, 1) := by decide +kernel
theorem qX3_worstFit_25 : decode (mB mX3_worstFit) 25 = .ok (.aaload, 1) := by decide +kernel
theorem qX3_worstFit_26 : decode (mB mX3_worstFit) 26 = .ok (.astore 4, 2) := by decide +kernel
theorem qX3_worstFit_28 : decode (mB mX3_worstFit) 28 = .ok (.aload 4, 2) := by decide +kernel
theorem qX3_worstFit_30 : decode (mB mX3_worstFit) 30 = .ok (.invokevirtual 192, 3) := by decide +kernel
theorem qX3_worstFit_33 : decode (mB mX3_worstFit) 33 = .ok (.ifCond .eq 26, 3) := by decide +kernel
theorem qX3_worstFit_36 : decode (mB mX3_worstFit) 36 = .ok (.aload 4, 2) := by decide +kernel
theorem qX3_worstFit_38 : decode (mB mX3_worstFit) 38 = .ok (.invokevirtual 206, 3) := by decide +kernel
theorem qX3_worstFit_41 : decode (mB mX3_worstFit) 41 = .ok (.istore 5, 2) := by decide +kernel
theorem qX3_worstFit_43 : decode (mB mX3_worstFit) 43 = .ok (.iload_n 1, 1) := by decide +kernel
theorem qX3_worstFit_44 : decode (mB mX3_worstFit) 44 = .ok (.iconst (-1), 1) := by decide +kernel
theorem qX3_worstFit_45 : decode (mB mX3_worstFit) 45 = .ok (.if_icmp .eq 9, 3) := by decide +kernel
theorem qX3_worstFit_48 : decode (mB mX3_worstFit) 48 = .ok (.iload 5, 2) := by decide +kernel
theorem qX3_worstFit_50 : decode (mB mX3_worstFit) 50 = .ok (.iload_n 2, 1) := by decide +kernel
theorem qX3_worstFit_51 : decode (mB mX3_worstFit) 51 = .ok (.if_icmp .le 8, 3) := by decide +kernel
theorem qX3_worstFit_54 : decode (mB mX3_worstFit) 54 = .ok (.iload_n 3, 1) := by decide +kernel
theorem qX3_worstFit_55 : decode (mB mX3_worstFit) 55 = .ok (.istore_n 1, 1) := by decide +kernel
theorem qX3_worstFit_56 : decode (mB mX3_worstFit) 56 = .ok (.iload 5, 2) := by decide +kernel
theorem qX3_worstFit_58 : decode (mB mX3_worstFit) 58 = .ok (.istore_n 2, 1) := by decide +kernel
theorem qX3_worstFit_59 : decode (mB mX3_worstFit) 59 = .ok (.iinc 3 1, 3) := by decide +kernel
theorem qX3_worstFit_62 : decode (mB mX3_worstFit) 62 = .ok (.goto (-56), 3) := by decide +kernel
theorem qX3_worstFit_65 : decode (mB mX3_worstFit) 65 = .ok (.iload_n 1, 1) := by decide +kernel
theorem qX3_worstFit_66 : decode (mB mX3_worstFit) 66 = .ok (.ireturn, 1) := by decide +kernel
